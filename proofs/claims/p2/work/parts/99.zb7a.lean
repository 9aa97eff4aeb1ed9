/-! the class: executing; written by wip/p55/gen/vg -/

/-! executing -/
theorem rwv_tl {st_ : Nat → Int} {p_ : Nat} {w_ : Int} {c_ : List Int} (h_ : rwv st_ p_ (w_ :: c_)) : rwv st_ (p_ + 1) c_ := by
  intro k_ z_ e_
  rw [show p_ + 1 + k_ = p_ + (k_ + 1) by omega]
  exact h_ (k_ + 1) z_ (by rw [List.getElem?_cons_succ]; exact e_)
def ccd (C_ : Nat → List Int) (mm_ : Nat) (S_ : sm_S) : Prop := ∀ k_, k_ ≤ mm_ → ∃ p_ : Nat, S_.2.2.1 76 0 k_ = (p_ : Int) ∧ S_.2.2.1 76 0 (k_ + 1) = ((p_ + (C_ k_).length : Nat) : Int) ∧ p_ + (C_ k_).length ≤ 65536 ∧ rwv (S_.2.2.1 74 0) p_ (C_ k_)
theorem ccd_fr {w_ : sx_Wl} {C_ : Nat → List Int} {m_ k_ : Nat} {S_ S'_ : sm_S} (h_ : ccd C_ m_ S_) (hk_ : k_ ≤ m_) (g_ : ai_fr (sx_W w_) S_ S'_) (h1_ : (sx_W w_).2.1 74 = false) (h2_ : (sx_W w_).2.1 76 = false) : ccd C_ k_ S'_ := by
  intro j_ hj_
  rw [fr_arr (t := 76) g_ h2_, fr_arr (t := 74) g_ h1_]
  exact h_ j_ (by omega)
theorem cgl_big {dd_ F_ : Nat} {G_ H_ : pGr} {S_ : sm_S} (h_ : cgl dd_ F_ G_ S_) (h1_ : 1000 < G_.length) (h2_ : 1000 < H_.length) : cgl dd_ F_ H_ S_ := by
  obtain ⟨G1_, x_, y_⟩ := h_
  rcases y_ with y_ | y_
  · omega
  · exact ⟨G1_, x_, Or.inr ⟨h2_, y_.2⟩⟩
def cxo (dd_ f_ : Nat) (q_ : gQ) (r_ : gQ × gE) (S_ : sm_S) : Prop := cxb dd_ r_.1.2.1 S_ ∧ S_.1 1 0 9 = (r_.1.2.1 : Int) ∧ S_.1 1 0 3 = (r_.1.2.2 : Int) ∧ r_.1.2.2 ≤ 201 ∧ q_.2.2 ≤ r_.1.2.2 ∧ S_.1 1 0 6 = 0 ∧ ∀ s_, s_ < 40 → rwv (S_.2.2.1 26 0) (8 * (40 * f_ + s_)) (r_.2 s_) ∧ (r_.2 s_).length ≤ 8
theorem cxs_cl {dd_ F_ I_ p_ : Nat} {s_ : gS} {o_ : Nat → List Int} {S_ : sm_S} {f_ fc0_ a_ : Nat} (h_ : cxs dd_ F_ I_ f_ fc0_ s_ S_) (hV_ : s_.2.2.2 = []) (ha_ : a_ < 40) (hO_ : s_.2.2.1 a_ = some o_) (hp_ : S_.2.2.1 26 0 (8 * (40 * f_ + a_)) = (p_ : Int)) : cxs dd_ F_ I_ p_ s_.1.2.2 (s_.1, o_, fun _ => none, []) S_ ∧ fc0_ ≤ p_ ∧ p_ < s_.1.2.2 := by
  obtain ⟨x1_, x2_, x3_, x4_, x5_, x6_, ⟨xE_, P_, xP_⟩, x8_, x9_⟩ := h_
  have y_ := xP_ a_ ha_ o_ hO_
  have py_ : p_ = P_ a_ := by have := y_.1; omega
  subst py_
  rw [hV_] at x8_
  exact ⟨⟨x1_, x2_, x3_, x4_, y_.2.1.2, Nat.le_refl _, ⟨fun t_ ht_ => y_.2.2.2 t_ ht_, fun _ => 0, fun a1_ _ o1_ ho1_ => by cases ho1_⟩, x8_, x9_⟩, y_.2.1⟩
theorem cxs_ba {dd_ F_ I_ p_ : Nat} {s_ : gS} {z_ : gQ × gE} {o_ : Nat → List Int} {S_ S1_ : sm_S} {f_ fc0_ a_ : Nat} (h_ : cxs dd_ F_ I_ f_ fc0_ s_ S_) (ha_ : a_ < 40) (hO_ : s_.2.2.1 a_ = some o_) (hp_ : S_.2.2.1 26 0 (8 * (40 * f_ + a_)) = (p_ : Int)) (h1_ : cgl dd_ F_ z_.1.1 S1_) (h2_ : cxo dd_ p_ s_.1 z_ S1_) (h3_ : fun_ p_ s_.1.2.2 (S_.2.2.1 26 0) (S1_.2.2.1 26 0)) (h4_ : S1_.1 3 dd_ 1 = S_.1 3 dd_ 1) : cxs dd_ F_ I_ f_ fc0_ (z_.1, s_.2.1, up1 s_.2.2.1 a_ (some z_.2), []) S1_ := by
  obtain ⟨x1_, x2_, x3_, x4_, x5_, x6_, x7_, x8_, x9_⟩ := h_
  obtain ⟨y0_, y1_, y2_, y3_, y4_, y5_, y6_⟩ := h2_
  exact ⟨h1_, y1_, y2_, y3_, x5_, Nat.le_trans x6_ y4_, cfr_cl x7_ x5_ ha_ hO_ hp_ y4_ y6_ h3_ x6_, ⟨y5_, trivial⟩, ⟨h4_.trans x9_.1, y0_⟩⟩
theorem fun_tr {f_ fc0_ : Nat} {g_ h_ k_ : Nat → Int} (h1_ : fun_ f_ fc0_ g_ h_) (h2_ : fun_ f_ fc0_ h_ k_) : fun_ f_ fc0_ g_ k_ := fun j_ q1_ q2_ => (h2_ j_ q1_ q2_).trans (h1_ j_ q1_ q2_)
