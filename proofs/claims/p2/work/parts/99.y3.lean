/-! the reference: what waits; written by wip/p55/gen/vg -/

/-! the_ reference: what waits -/
def w_sg (k_ : Int) : Int := if k_ = 1 then 124 else if k_ = 2 then 94 else if k_ = 3 then 38 else if k_ = 4 then 257 else if k_ = 5 then 43 else if k_ = -3 then 63 else if k_ = -4 then 58 else 40
/-- a_ token at a_ place -/
def rtp (b_ : Nat → Int) (n_ T_ : Nat) (t_ : Int) (p_ : Nat) : Prop := ∃ i_ : Nat, t_ = (i_ : Int) ∧ i_ < T_ ∧ p_ = lxp b_ n_ i_ ∧ p_ < n_
def wl (b_ : Nat → Int) (n_ T_ : Nat) : List (Int × Nat) → List (Int × Int) → Prop
  | [], w_ => w_ = []
  | (k_, q_) :: o_, w_ => ∃ t_ u_, w_ = (w_sg k_, t_) :: u_ ∧ rtp b_ n_ T_ t_ q_ ∧ ((k_ ≠ -2 ∧ wl b_ n_ T_ o_ u_) ∨ ((k_ = -1 ∨ k_ = -2) ∧ ∃ u'_, u_ = (33, if k_ = -2 then 1 else 0) :: u'_ ∧ wl b_ n_ T_ o_ u'_))
def wt (b_ : Nat → Int) (n_ T_ : Nat) (t_ : Bool) (o_ : List (Int × Nat)) (w_ : List (Int × Int)) : Prop := (t_ = false ∧ wl b_ n_ T_ o_ w_) ∨ ∃ u_, w_ = (33, if t_ = true then 1 else 0) :: u_ ∧ wl b_ n_ T_ o_ u_
theorem w_sg_b {md_ : Bool} {k_ : Int} (h_ : k_ = -1 ∨ k_ = -2 ∨ (md_ = false ∧ (k_ = -3 ∨ k_ = -4)) ∨ (1 ≤ k_ ∧ k_ ≤ 5)) : w_sg k_ ≠ 33 ∧ w_sg k_ ≠ 0 ∧ p_lv false (w_sg k_) = (if 1 ≤ k_ then k_ else 0) ∧ (w_sg k_ = 257 ↔ k_ = 4) ∧ (w_sg k_ = 58 ↔ k_ = -4) ∧ (w_sg k_ = 63 ↔ k_ = -3) ∧ (w_sg k_ = 40 ↔ k_ = -1 ∨ k_ = -2) ∧ (w_sg k_ = 124 ↔ k_ = 1) ∧ (w_sg k_ = 94 ↔ k_ = 2) := by
  have hk_ : k_ = -1 ∨ k_ = -2 ∨ k_ = -3 ∨ k_ = -4 ∨ k_ = 1 ∨ k_ = 2 ∨ k_ = 3 ∨ k_ = 4 ∨ k_ = 5 := by omega
  rcases hk_ with e_ | e_ | e_ | e_ | e_ | e_ | e_ | e_ | e_ <;> (subst e_; decide)
theorem wl_len {b_ : Nat → Int} {n_ T_ : Nat} : ∀ {o_ : List (Int × Nat)} {w_ : List (Int × Int)}, wl b_ n_ T_ o_ w_ → w_.length ≤ 2 * o_.length ∧ o_.length ≤ w_.length
  | [], w_, h_ => by
    have h_ : w_ = [] := h_
    rw [h_]
    exact ⟨Nat.le_refl _, Nat.le_refl _⟩
  | (k_, q_) :: o_, w_, h_ => by
    obtain ⟨t_, u_, h1_, -, h2_⟩ := h_
    rw [h1_]
    rcases h2_ with h2_ | ⟨-, u'_, h3_, h4_⟩
    · have := wl_len h2_.2
      simp only [List.length_cons]
      omega
    · have := wl_len h4_
      rw [h3_]
      simp only [List.length_cons]
      omega
/-- what is_ on_ top_ -/
def w_tp (w_ : List (Int × Int)) : Int := match w_ with
  | [] => 0
  | x_ :: _ => x_.1
theorem wl_tp {b_ : Nat → Int} {n_ T_ : Nat} {md_ : Bool} {o_ : List (Int × Nat)} {w_ : List (Int × Int)} (h_ : wl b_ n_ T_ o_ w_) (ho_ : o_ok md_ o_) : w_tp w_ ≠ 33 ∧ p_lv false (w_tp w_) = (if 1 ≤ o_tp o_ then o_tp o_ else 0) ∧ (w_tp w_ = 257 ↔ o_tp o_ = 4) ∧ (w_tp w_ = 58 ↔ o_tp o_ = -4) ∧ (w_tp w_ = 63 ↔ o_tp o_ = -3) ∧ (w_tp w_ = 40 ↔ o_tp o_ = -1 ∨ o_tp o_ = -2) ∧ (w_ = [] ↔ o_ = []) := by
  cases o_ with
  | nil =>
    have h_ : w_ = [] := h_
    rw [h_]
    refine ⟨by decide, by decide, by decide, by decide, by decide, by decide, ⟨fun _ => rfl, fun _ => rfl⟩⟩
  | cons y_ o_ =>
    obtain ⟨k_, q_⟩ := y_
    obtain ⟨t_, u_, h1_, -, -⟩ := h_
    have h2_ := w_sg_b (md_ := md_) (k_ := k_) (by
      rcases ho_.1 with z_ | z_ | z_ | z_
      · exact Or.inl z_
      · exact Or.inr (Or.inl z_)
      · exact Or.inr (Or.inr (Or.inl z_))
      · exact Or.inr (Or.inr (Or.inr ⟨z_.1, z_.2.1⟩)))
    rw [h1_]
    exact ⟨h2_.1, h2_.2.2.1, h2_.2.2.2.1, h2_.2.2.2.2.1, h2_.2.2.2.2.2.1, h2_.2.2.2.2.2.2.1, ⟨fun z_ => (by cases z_), fun z_ => (by cases z_)⟩⟩
def ws (w_ : List (Int × Int)) (S_ : sm_S) : Prop := S_.1 13 0 32 = (w_.length : Int) ∧ stk (S_.2.2.1 136 0) (w_.map fun x_ => x_.1) ∧ stk (S_.2.2.1 137 0) (w_.map fun x_ => x_.2)
theorem ws_fr {w_ : sx_Wl} {S_ S'_ : sm_S} {l_ : List (Int × Int)} (x_ : ws l_ S_) (g_ : ai_fr (sx_W w_) S_ S'_) (h0_ : (sx_W w_).1 13 32 = false) (h1_ : (sx_W w_).2.1 136 = false) (h2_ : (sx_W w_).2.1 137 = false) : ws l_ S'_ := by
  unfold ws at x_ ⊢
  rw [g_.1 13 0 32 h0_, fr_arr g_ h1_, fr_arr g_ h2_]
  exact x_
theorem ws_tp {w_ : List (Int × Int)} {S_ : sm_S} (x_ : ws w_ S_) (h_ : 0 < S_.1 13 0 32) : S_.2.2.1 136 0 (S_.1 13 0 32 - 1).toNat = w_tp w_ ∧ ∃ y_ u_, w_ = y_ :: u_ ∧ S_.2.2.1 137 0 (S_.1 13 0 32 - 1).toNat = y_.2 ∧ (S_.1 13 0 32 - 1).toNat = u_.length := by
  cases w_ with
  | nil => exfalso; have := x_.1; simp only [List.length_nil] at this; omega
  | cons y_ u_ =>
    have h1_ := x_.1
    have h2_ := x_.2.1.1
    have h3_ := x_.2.2.1
    simp only [List.length_cons, List.length_map] at h1_ h2_ h3_
    have e_ : (S_.1 13 0 32 - 1).toNat = u_.length := by omega
    rw [e_]
    exact ⟨h2_, y_, u_, rfl, h3_, rfl⟩
theorem ws_t0 {w_ : List (Int × Int)} {S_ : sm_S} (x_ : ws w_ S_) (h_ : ¬ 0 < S_.1 13 0 32) : w_ = [] := by
  cases w_ with
  | nil => rfl
  | cons y_ u_ => exfalso; have := x_.1; simp only [List.length_cons] at this; omega
/-! held values -/
def vs (mo_ : Int) (g_ : List Int) (S_ : sm_S) : Prop := S_.1 13 0 34 = (g_.length : Int) ∧ (mo_ ≠ 2 → stk (S_.2.2.1 138 0) g_) ∧ (mo_ = 2 → stk (fun j_ => S_.2.2.1 139 0 (8 * j_)) g_)
theorem vs_fr {w_ : sx_Wl} {S_ S'_ : sm_S} {mo_ : Int} {g_ : List Int} (x_ : vs mo_ g_ S_) (f_ : ai_fr (sx_W w_) S_ S'_) (h0_ : (sx_W w_).1 13 34 = false) (h1_ : (sx_W w_).2.1 138 = false) (h2_ : (sx_W w_).2.1 139 = false) : vs mo_ g_ S'_ := by
  unfold vs at x_ ⊢
  rw [f_.1 13 0 34 h0_, fr_arr f_ h1_, fr_arr f_ h2_]
  exact x_
theorem i_x11 {x_ y_ : Int} (hx_ : 0 ≤ x_ ∧ x_ ≤ 2047) (hy_ : 0 ≤ y_ ∧ y_ ≤ 2047) : (0 ≤ i_or x_ y_ ∧ i_or x_ y_ ≤ 2047) ∧ (0 ≤ i_xor x_ y_ ∧ i_xor x_ y_ ≤ 2047) ∧ (0 ≤ i_and x_ y_ ∧ i_and x_ y_ ≤ 2047) := by
  have h1_ : (x_.toNat ||| y_.toNat) < 2 ^ 11 := Nat.or_lt_two_pow (by omega) (by omega)
  have h2_ : (x_.toNat ^^^ y_.toNat) < 2 ^ 11 := Nat.xor_lt_two_pow (by omega) (by omega)
  have h3_ : (x_.toNat &&& y_.toNat) < 2 ^ 11 := Nat.and_lt_two_pow _ (by omega)
  have e1_ : i_or x_ y_ = ((x_.toNat ||| y_.toNat : Nat) : Int) := bt_or_nat hx_.1 (by omega) hy_.1 (by omega)
  have e2_ : i_xor x_ y_ = ((x_.toNat ^^^ y_.toNat : Nat) : Int) := bt_xor_nat hx_.1 (by omega) hy_.1 (by omega)
  have e3_ : i_and x_ y_ = ((x_.toNat &&& y_.toNat : Nat) : Int) := bt_and_nat hx_.1 (by omega) hy_.1 (by omega)
  rw [e1_, e2_, e3_]
  omega

