/-! 99.zb6b -/
section
/-! Builder.store -/
end
/-! 99.zb7a -/
section
/-! the class: executing; written by wip/p55/gen/vg -/

/-! executing -/
theorem rwv_tl {st_ : Nat → Int} {p_ : Nat} {w_ : Int} {c_ : List Int} (h_ : rwv st_ p_ (w_ :: c_)) : rwv st_ (p_ + 1) c_ := by
  intro k_ z_ e_
  rw [show p_ + 1 + k_ = p_ + (k_ + 1) by omega]
  exact h_ (k_ + 1) z_ (by rw [List.getElem?_cons_succ]; exact e_)
def ccd (C_ : Nat → List Int) (mm_ : Nat) (S_ : sm_S) : Prop := ∀ k_, k_ ≤ mm_ → ∃ p_ : Nat, S_.2.2.1 76 0 k_ = (p_ : Int) ∧ S_.2.2.1 76 0 (k_ + 1) = ((p_ + (C_ k_).length : Nat) : Int) ∧ p_ + (C_ k_).length ≤ 65536 ∧ rwv (S_.2.2.1 74 0) p_ (C_ k_)
theorem ccd_fr {w_ : sx_Wl} {C_ : Nat → List Int} {m_ k_ : Nat} {S_ S'_ : sm_S} (h_ : ccd C_ m_ S_) (hk_ : k_ ≤ m_) (g_ : ai_fr (sx_W w_) S_ S'_) (h1_ : (sx_W w_).2.1 74 = false) (h2_ : (sx_W w_).2.1 76 = false) : ccd C_ k_ S'_ := by
  intro j_ hj_
  rw [fr_arr (t := 76) g_ h2_, fr_arr (t := 74) g_ h1_]
  exact h_ j_ (by omega)
theorem cgl_big {dd_ F_ : Nat} {G_ H_ : pGr} {S_ : sm_S} (h_ : cgl dd_ F_ G_ S_) (h1_ : 1000 < G_.length) (h2_ : 1000 < H_.length) : cgl dd_ F_ H_ S_ := by
  obtain ⟨G1_, x_, y_⟩ := h_
  rcases y_ with y_ | y_
  · omega
  · exact ⟨G1_, x_, Or.inr ⟨h2_, y_.2⟩⟩
def cxo (dd_ f_ : Nat) (q_ : gQ) (r_ : gQ × gE) (S_ : sm_S) : Prop := cxb dd_ r_.1.2.1 S_ ∧ S_.1 1 0 9 = (r_.1.2.1 : Int) ∧ S_.1 1 0 3 = (r_.1.2.2 : Int) ∧ r_.1.2.2 ≤ 201 ∧ q_.2.2 ≤ r_.1.2.2 ∧ S_.1 1 0 6 = 0 ∧ ∀ s_, s_ < 40 → rwv (S_.2.2.1 26 0) (8 * (40 * f_ + s_)) (r_.2 s_) ∧ (r_.2 s_).length ≤ 8
theorem cxs_cl {dd_ F_ I_ p_ : Nat} {s_ : gS} {o_ : Nat → List Int} {S_ : sm_S} {f_ fc0_ a_ : Nat} (h_ : cxs dd_ F_ I_ f_ fc0_ s_ S_) (hV_ : s_.2.2.2 = []) (ha_ : a_ < 40) (hO_ : s_.2.2.1 a_ = some o_) (hp_ : S_.2.2.1 26 0 (8 * (40 * f_ + a_)) = (p_ : Int)) : cxs dd_ F_ I_ p_ s_.1.2.2 (s_.1, o_, fun _ => none, []) S_ ∧ fc0_ ≤ p_ ∧ p_ < s_.1.2.2 := by
  obtain ⟨x1_, x2_, x3_, x4_, x5_, x6_, ⟨xE_, P_, xP_⟩, x8_, x9_⟩ := h_
  have y_ := xP_ a_ ha_ o_ hO_
  have py_ : p_ = P_ a_ := by have := y_.1; omega
  subst py_
  rw [hV_] at x8_
  exact ⟨⟨x1_, x2_, x3_, x4_, y_.2.1.2, Nat.le_refl _, ⟨fun t_ ht_ => y_.2.2.2 t_ ht_, fun _ => 0, fun a1_ _ o1_ ho1_ => by cases ho1_⟩, x8_, x9_⟩, y_.2.1⟩
theorem cxs_ba {dd_ F_ I_ p_ : Nat} {s_ : gS} {z_ : gQ × gE} {o_ : Nat → List Int} {S_ S1_ : sm_S} {f_ fc0_ a_ : Nat} (h_ : cxs dd_ F_ I_ f_ fc0_ s_ S_) (ha_ : a_ < 40) (hO_ : s_.2.2.1 a_ = some o_) (hp_ : S_.2.2.1 26 0 (8 * (40 * f_ + a_)) = (p_ : Int)) (h1_ : cgl dd_ F_ z_.1.1 S1_) (h2_ : cxo dd_ p_ s_.1 z_ S1_) (h3_ : fun_ p_ s_.1.2.2 (S_.2.2.1 26 0) (S1_.2.2.1 26 0)) (h4_ : S1_.1 3 dd_ 1 = S_.1 3 dd_ 1) : cxs dd_ F_ I_ f_ fc0_ (z_.1, s_.2.1, up1 s_.2.2.1 a_ (some z_.2), []) S1_ := by
  obtain ⟨x1_, x2_, x3_, x4_, x5_, x6_, x7_, x8_, x9_⟩ := h_
  obtain ⟨y0_, y1_, y2_, y3_, y4_, y5_, y6_⟩ := h2_
  exact ⟨h1_, y1_, y2_, y3_, x5_, Nat.le_trans x6_ y4_, cfr_cl x7_ x5_ ha_ hO_ hp_ y4_ y6_ h3_ x6_, ⟨y5_, trivial⟩, ⟨h4_.trans x9_.1, y0_⟩⟩
theorem fun_tr {f_ fc0_ : Nat} {g_ h_ k_ : Nat → Int} (h1_ : fun_ f_ fc0_ g_ h_) (h2_ : fun_ f_ fc0_ h_ k_) : fun_ f_ fc0_ g_ k_ := fun j_ q1_ q2_ => (h2_ j_ q1_ q2_).trans (h1_ j_ q1_ q2_)
end
/-! 99.zb7b -/
section
/-! Builder.execute -/
end
/-! 99.zc1a -/
section
/-! the reference: AND, OR, XOR; written by wip/p55/gen/vg -/
/-! M_.and -/
def vw_328 : sx_Wl := ([(13, 37)], [140, 141, 142, 143], [])
def vq_328 (x_ : Int) (y_ : Int) (F_ : Nat) (G_ : pGr) (A_ : Int) (B_ : Int) (S0_ : sm_S) (u_ : Option sm_V) (S1_ : sm_S) : Prop := ∃ v_ : Int, u_ = some (.inl v_) ∧ gi S1_ ∧ ai_fr (sx_W vw_328) S0_ S1_ ∧ (rgl F_ (g_an F_ G_ A_ B_).2 S1_ ∧ (imq ((g_an F_ G_ A_ B_).2.length ≤ 1001) (v_ = (g_an F_ G_ A_ B_).1)) ∧ (0 ≤ v_ ∧ v_ ≤ 2047))
set_option maxHeartbeats 400000 in
set_option maxRecDepth 20000 in
theorem vl_328 {sc_ : Nat × (Nat → Int)} (x_ : Int) (y_ : Int) (F_ : Nat) (G_ : pGr) (A_ : Int) (B_ : Int) (S0_ : sm_S) (hg_ : rgl F_ G_ S0_) (hx_ : 0 ≤ x_ ∧ x_ ≤ 2047) (hy_ : 0 ≤ y_ ∧ y_ ≤ 2047) (hab_ : imq (G_.length ≤ 1001) (x_ = A_ ∧ y_ = B_)) : ∀ nn_ : Nat, (∀ (a_ : Int) (b_ : Int) (c_ : Int) (n_ : Int) (S_ : sm_S), gi S_ → ai_fr (sx_W vw_328) S0_ S_ → ((S_ = S0_) ∧ (rcb F_ (F_ + ((S_.1 13 0 37) - (S_.1 13 0 38)).toNat) n_) ∧ (c_ = (1021 * a_ + b_) % 4096) ∧ ((0 ≤ a_ ∧ a_ ≤ 2047) ∧ 0 ≤ b_ ∧ b_ ≤ 2047) ∧ ((x_ < y_ ∧ a_ = x_ ∧ b_ = y_) ∨ (y_ ≤ x_ ∧ a_ = y_ ∧ b_ = x_)) ∧ (¬ (a_ = 0 ∨ a_ = i_xor b_ 1)) ∧ (¬ (a_ = 1 ∨ a_ = b_)) ∧ (∀ t_ : Int, (S_.2.2.1 140 0 t_.toNat = a_ ∧ S_.2.2.1 141 0 t_.toNat = b_ ∧ (F_ : Int) ≤ t_ ∧ t_ < (S_.1 13 0 37)) → ∃ f_, rch (S_.2.2.1 143 0) f_ n_ t_) ∧ True) → (n_.toNat) < nn_ → sm_T (mt_P sc_) 0 328 (74, [some (.inr (.inr (some (13, 0)))), some (.inl x_), some (.inl y_), some (.inl a_), some (.inl b_), some (.inl c_), some (.inl n_)], [], S_) (fun ro9_ => ∃ u_ S1_, ro9_ = (.inl u_, S1_, 0) ∧ vq_328 x_ y_ F_ G_ A_ B_ S0_ u_ S1_)) := by
  intro nn_
  induction nn_ with
  | zero => exact fun _ _ _ _ _ _ _ _ h_ => absurd h_ (Nat.not_lt_zero _)
  | succ nn_ ih_ =>
    rintro a_ b_ c_ n_ S_ hI_ hF_ ⟨hS_, hn2_, hc_, hbd_, hmn_, hn0_, hn1_, h2_, -⟩ hm_
    have hgS_ : rgl F_ G_ S_ := by rw [hS_]; exact hg_
    obtain ⟨G1_, hG1_, hG2_⟩ := id hgS_
    obtain ⟨x1_, x2_, x4_, x5_, x6_, x7_, x8_⟩ := id hG1_
    refine sm_T_go 1 (c1 := (76, [some (.inr (.inr (some (13, 0)))), some (.inl x_), some (.inl y_), some (.inl a_), some (.inl b_), some (.inl c_), some (.inl n_)], [.inl n_], S_)) rfl ?_
    refine sm_T_b0 (a := 5) (z := 43) rfl (fun cx1_ => ?_) (fun cx1_ => ?_)
    · have cx1_ : n_ ≤ 0 := of_decide_eq_true cx1_
      have n0_ : n_ = 0 := by rcases hn2_ with z_ | z_; exact z_; omega
      have fd_ : g_fd a_ b_ G1_ 0 = none := by cases e9_ : g_fd a_ b_ G1_ 0 with | none => rfl | some k9_ => (exfalso; have q9_ := g_fd_b e9_; have q8_ := q9_.2.2; rw [Nat.sub_zero] at q8_; have q7_ := x6_ k9_ a_ b_ q8_; obtain ⟨f9_, q6_⟩ := h2_ ((F_ + k9_ : Nat) : Int) (by rw [Int.toNat_natCast]; exact ⟨q7_.1, q7_.2, by omega, by have := q9_.2.1; omega⟩); rw [n0_] at q6_; have := rch_0 q6_; omega)
      have bx2_ : 0 ≤ S_.1 13 0 37 ∧ S_.1 13 0 37 ≤ 1014 := hI_.1 13 0 37 rfl
      have bx3_ : 0 ≤ S_.1 13 0 38 ∧ S_.1 13 0 38 ≤ 19 := hI_.1 13 0 38 rfl
      refine sm_T_go 4 (c1 := (127, [some (.inr (.inr (some (13, 0)))), some (.inl x_), some (.inl y_), some (.inl a_), some (.inl b_), some (.inl c_), some (.inl n_)], [.inl (S_.1 13 0 38), .inl (S_.1 13 0 37)], S_)) rfl ?_
      refine sm_T_bin (w := (S_.1 13 0 37) - (S_.1 13 0 38)) rfl (bi_sub (by omega) (by omega) (by omega)) ?_
      refine sm_T_go 1 (c1 := (131, [some (.inr (.inr (some (13, 0)))), some (.inl x_), some (.inl y_), some (.inl a_), some (.inl b_), some (.inl c_), some (.inl n_)], [.inl 1000, .inl ((S_.1 13 0 37) - (S_.1 13 0 38))], S_)) rfl ?_
      refine sm_T_br (a := 5) (z := 5) rfl (fun cx4_ => ?_) (fun cx4_ => ?_)
      · have cx4_ : (S_.1 13 0 37) - (S_.1 13 0 38) ≤ 1000 := of_decide_eq_true cx4_
        refine sm_T_go 5 (c1 := (145, [some (.inr (.inr (some (13, 0)))), some (.inl x_), some (.inl y_), some (.inl a_), some (.inl b_), some (.inl c_), some (.inl n_)], [.inl a_, .inl (S_.1 13 0 37), .inr (.inr (some (140, 0)))], S_)) rfl ?_
        refine sm_T_iast (n := 2048) rfl rfl (by omega) (by omega) ?_
        have hIx5_ : gi (sm_aI S_ 140 0 (S_.1 13 0 37).toNat a_) := gi_aI hI_ (show 0 ≤ a_ ∧ a_ ≤ 2047 from ⟨by omega, by omega⟩)
        have hFx6_ : ai_fr (sx_W vw_328) S0_ (sm_aI S_ 140 0 (S_.1 13 0 37).toNat a_) := ai_fr_tr hF_ (ai_fr_aI rfl)
        refine sm_T_go 5 (c1 := (156, [some (.inr (.inr (some (13, 0)))), some (.inl x_), some (.inl y_), some (.inl a_), some (.inl b_), some (.inl c_), some (.inl n_)], [.inl b_, .inl (S_.1 13 0 37), .inr (.inr (some (141, 0)))], sm_aI S_ 140 0 (S_.1 13 0 37).toNat a_)) rfl ?_
        refine sm_T_iast (n := 2048) rfl rfl (by omega) (by omega) ?_
        have hIx7_ : gi (sm_aI (sm_aI S_ 140 0 (S_.1 13 0 37).toNat a_) 141 0 (S_.1 13 0 37).toNat b_) := gi_aI hIx5_ (show 0 ≤ b_ ∧ b_ ≤ 2047 from ⟨by omega, by omega⟩)
        have hFx8_ : ai_fr (sx_W vw_328) S0_ (sm_aI (sm_aI S_ 140 0 (S_.1 13 0 37).toNat a_) 141 0 (S_.1 13 0 37).toNat b_) := ai_fr_tr hFx6_ (ai_fr_aI rfl)
        refine sm_T_go 7 (c1 := (171, [some (.inr (.inr (some (13, 0)))), some (.inl x_), some (.inl y_), some (.inl a_), some (.inl b_), some (.inl c_), some (.inl n_)], [.inl c_, .inr (.inr (some (142, 0))), .inl (S_.1 13 0 37), .inr (.inr (some (143, 0)))], sm_aI (sm_aI S_ 140 0 (S_.1 13 0 37).toNat a_) 141 0 (S_.1 13 0 37).toNat b_)) rfl ?_
        refine sm_T_iald (n := 4096) rfl rfl (by omega) (by omega) ?_
        have bx9_ : 0 ≤ S_.2.2.1 142 0 c_.toNat ∧ S_.2.2.1 142 0 c_.toNat ≤ 1023 := hI_.2 142 0 _
        refine sm_T_go 0 (c1 := (172, [some (.inr (.inr (some (13, 0)))), some (.inl x_), some (.inl y_), some (.inl a_), some (.inl b_), some (.inl c_), some (.inl n_)], [.inl (S_.2.2.1 142 0 c_.toNat), .inl (S_.1 13 0 37), .inr (.inr (some (143, 0)))], sm_aI (sm_aI S_ 140 0 (S_.1 13 0 37).toNat a_) 141 0 (S_.1 13 0 37).toNat b_)) rfl ?_
        refine sm_T_iast (n := 2048) rfl rfl (by omega) (by omega) ?_
        have hIx10_ : gi (sm_aI (sm_aI (sm_aI S_ 140 0 (S_.1 13 0 37).toNat a_) 141 0 (S_.1 13 0 37).toNat b_) 143 0 (S_.1 13 0 37).toNat (S_.2.2.1 142 0 c_.toNat)) := gi_aI hIx7_ (show 0 ≤ (S_.2.2.1 142 0 c_.toNat) ∧ (S_.2.2.1 142 0 c_.toNat) ≤ 1023 from ⟨by omega, by omega⟩)
        have hFx11_ : ai_fr (sx_W vw_328) S0_ (sm_aI (sm_aI (sm_aI S_ 140 0 (S_.1 13 0 37).toNat a_) 141 0 (S_.1 13 0 37).toNat b_) 143 0 (S_.1 13 0 37).toNat (S_.2.2.1 142 0 c_.toNat)) := ai_fr_tr hFx8_ (ai_fr_aI rfl)
        refine sm_T_go 5 (c1 := (183, [some (.inr (.inr (some (13, 0)))), some (.inl x_), some (.inl y_), some (.inl a_), some (.inl b_), some (.inl c_), some (.inl n_)], [.inl (S_.1 13 0 37), .inl c_, .inr (.inr (some (142, 0)))], sm_aI (sm_aI (sm_aI S_ 140 0 (S_.1 13 0 37).toNat a_) 141 0 (S_.1 13 0 37).toNat b_) 143 0 (S_.1 13 0 37).toNat (S_.2.2.1 142 0 c_.toNat))) rfl ?_
        refine sm_T_iast (n := 4096) rfl rfl (by omega) (by omega) ?_
        have hIx12_ : gi (sm_aI (sm_aI (sm_aI (sm_aI S_ 140 0 (S_.1 13 0 37).toNat a_) 141 0 (S_.1 13 0 37).toNat b_) 143 0 (S_.1 13 0 37).toNat (S_.2.2.1 142 0 c_.toNat)) 142 0 c_.toNat (S_.1 13 0 37)) := gi_aI hIx10_ (show 0 ≤ (S_.1 13 0 37) ∧ (S_.1 13 0 37) ≤ 1023 from ⟨by omega, by omega⟩)
        have hFx13_ : ai_fr (sx_W vw_328) S0_ (sm_aI (sm_aI (sm_aI (sm_aI S_ 140 0 (S_.1 13 0 37).toNat a_) 141 0 (S_.1 13 0 37).toNat b_) 143 0 (S_.1 13 0 37).toNat (S_.2.2.1 142 0 c_.toNat)) 142 0 c_.toNat (S_.1 13 0 37)) := ai_fr_tr hFx11_ (ai_fr_aI rfl)
        refine sm_T_go 4 (c1 := (190, [some (.inr (.inr (some (13, 0)))), some (.inl x_), some (.inl y_), some (.inl a_), some (.inl b_), some (.inl c_), some (.inl n_)], [.inl 1, .inl (S_.1 13 0 37), .inr (.inr (some (13, 0)))], sm_aI (sm_aI (sm_aI (sm_aI S_ 140 0 (S_.1 13 0 37).toNat a_) 141 0 (S_.1 13 0 37).toNat b_) 143 0 (S_.1 13 0 37).toNat (S_.2.2.1 142 0 c_.toNat)) 142 0 c_.toNat (S_.1 13 0 37))) rfl ?_
        refine sm_T_bin (w := (S_.1 13 0 37) + 1) rfl (bi_add (by omega) (by omega) (by omega)) ?_
        have hIx14_ : gi (sm_pI (sm_aI (sm_aI (sm_aI (sm_aI S_ 140 0 (S_.1 13 0 37).toNat a_) 141 0 (S_.1 13 0 37).toNat b_) 143 0 (S_.1 13 0 37).toNat (S_.2.2.1 142 0 c_.toNat)) 142 0 c_.toNat (S_.1 13 0 37)) 13 0 37 ((S_.1 13 0 37) + 1)) := gi_pI hIx12_ (show 0 ≤ (S_.1 13 0 37) + 1 ∧ (S_.1 13 0 37) + 1 ≤ 1014 from ⟨by omega, by omega⟩)
        have hFx15_ : ai_fr (sx_W vw_328) S0_ (sm_pI (sm_aI (sm_aI (sm_aI (sm_aI S_ 140 0 (S_.1 13 0 37).toNat a_) 141 0 (S_.1 13 0 37).toNat b_) 143 0 (S_.1 13 0 37).toNat (S_.2.2.1 142 0 c_.toNat)) 142 0 c_.toNat (S_.1 13 0 37)) 13 0 37 ((S_.1 13 0 37) + 1)) := ai_fr_tr hFx13_ (ai_fr_pI rfl)
        refine sm_T_go 4 (c1 := (199, [some (.inr (.inr (some (13, 0)))), some (.inl x_), some (.inl y_), some (.inl a_), some (.inl b_), some (.inl c_), some (.inl n_)], [.inl ((S_.1 13 0 37) + 1), .inl 2], sm_pI (sm_aI (sm_aI (sm_aI (sm_aI S_ 140 0 (S_.1 13 0 37).toNat a_) 141 0 (S_.1 13 0 37).toNat b_) 143 0 (S_.1 13 0 37).toNat (S_.2.2.1 142 0 c_.toNat)) 142 0 c_.toNat (S_.1 13 0 37)) 13 0 37 ((S_.1 13 0 37) + 1))) rfl ?_
        refine sm_T_bin (w := 2 * (S_.1 13 0 37) + 2) rfl (bi_mul (by omega) (by omega) (by omega)) ?_
        refine sm_T_go 1 (c1 := (201, [some (.inr (.inr (some (13, 0)))), some (.inl x_), some (.inl y_), some (.inl a_), some (.inl b_), some (.inl c_), some (.inl n_)], [.inl 2, .inl (2 * (S_.1 13 0 37) + 2)], sm_pI (sm_aI (sm_aI (sm_aI (sm_aI S_ 140 0 (S_.1 13 0 37).toNat a_) 141 0 (S_.1 13 0 37).toNat b_) 143 0 (S_.1 13 0 37).toNat (S_.2.2.1 142 0 c_.toNat)) 142 0 c_.toNat (S_.1 13 0 37)) 13 0 37 ((S_.1 13 0 37) + 1))) rfl ?_
        refine sm_T_bin (w := 2 * (S_.1 13 0 37)) rfl (bi_sub (by omega) (by omega) (by omega)) ?_
        refine sm_T_ri rfl ⟨_, _, rfl, _, rfl, hIx14_, hFx15_, ?_⟩
        have ea_ : g_an F_ G1_ x_ y_ = (2 * ((F_ + G1_.length : Nat) : Int), G1_ ++ [(a_, b_)]) := by rw [g_an_mn hmn_, g_a2_n hn0_ hn1_ fd_]
        have nn9_ : (S_.1 13 0 37).toNat = F_ + G1_.length := by omega
        have hc9_ : hsr a_ b_ = c_.toNat := by unfold hsr; omega
        have hr_ := ar_go (v_ := 2 * S_.1 13 0 37) (S1_ := (sm_pI (sm_aI (sm_aI (sm_aI (sm_aI S_ 140 0 (S_.1 13 0 37).toNat a_) 141 0 (S_.1 13 0 37).toNat b_) 143 0 (S_.1 13 0 37).toNat (S_.2.2.1 142 0 c_.toNat)) 142 0 c_.toNat (S_.1 13 0 37)) 13 0 37 ((S_.1 13 0 37) + 1))) hG1_ hG2_ hab_ (Or.inl ⟨by rw [ea_]; exact rgx_up hG1_ (by omega) fd_ (by (try simp only [rd_eq, rd_ne, rf_eq, rf_nk, rf_nt, rd_fa, rd_af, rd_fl, rd_al, rd_lf, rd_la, rd_leq, rd_lne, rd_fr, rd_ar, ne_eq, Nat.reduceEqDiff, not_false_eq_true])) (by (try simp only [rd_eq, rd_ne, rf_eq, rf_nk, rf_nt, rd_fa, rd_af, rd_fl, rd_al, rd_lf, rd_la, rd_leq, rd_lne, rd_fr, rd_ar, ne_eq, Nat.reduceEqDiff, not_false_eq_true])) (fun k_ => by (try simp only [rd_eq, rd_ne, rf_eq, rf_nk, rf_nt, rd_fa, rd_af, rd_fl, rd_al, rd_lf, rd_la, rd_leq, rd_lne, rd_fr, rd_ar, ne_eq, Nat.reduceEqDiff, not_false_eq_true]); rw [hc9_, x4_]) (fun k_ => by (try simp only [rd_eq, rd_ne, rf_eq, rf_nk, rf_nt, rd_fa, rd_af, rd_fl, rd_al, rd_lf, rd_la, rd_leq, rd_lne, rd_fr, rd_ar, ne_eq, Nat.reduceEqDiff, not_false_eq_true]); rw [hc9_, nn9_]) (fun k_ => by (try simp only [rd_eq, rd_ne, rf_eq, rf_nk, rf_nt, rd_fa, rd_af, rd_fl, rd_al, rd_lf, rd_la, rd_leq, rd_lne, rd_fr, rd_ar, ne_eq, Nat.reduceEqDiff, not_false_eq_true]); rw [nn9_]) (fun k_ => by (try simp only [rd_eq, rd_ne, rf_eq, rf_nk, rf_nt, rd_fa, rd_af, rd_fl, rd_al, rd_lf, rd_la, rd_leq, rd_lne, rd_fr, rd_ar, ne_eq, Nat.reduceEqDiff, not_false_eq_true]); rw [nn9_]), by rw [ea_]; omega⟩)
        first | exact ⟨hr_.1, hr_.2, by omega⟩ | (refine ⟨hr_.1, fun z_ => ?_, by omega⟩; rw [← hr_.2 z_]; omega)
      · have cx4_ : ¬ ((S_.1 13 0 37) - (S_.1 13 0 38) ≤ 1000) := of_decide_eq_false cx4_
        refine sm_T_go 1 (c1 := (135, [some (.inr (.inr (some (13, 0)))), some (.inl x_), some (.inl y_), some (.inl a_), some (.inl b_), some (.inl c_), some (.inl n_)], [.inl 0], S_)) rfl ?_
        refine sm_T_ri rfl ⟨_, _, rfl, _, rfl, hI_, hF_, ?_⟩
        have ea_ : g_an F_ G1_ x_ y_ = (2 * ((F_ + G1_.length : Nat) : Int), G1_ ++ [(a_, b_)]) := by rw [g_an_mn hmn_, g_a2_n hn0_ hn1_ fd_]
        have hr_ := ar_go (v_ := 0) (S1_ := S_) hG1_ hG2_ hab_ (Or.inr ⟨by omega, by rw [ea_]; simp only [List.length_append, List.length_cons, List.length_nil]; omega, hG1_⟩)
        exact ⟨hr_.1, hr_.2, by omega⟩
    · have cx1_ : ¬ (n_ ≤ 0) := of_decide_eq_false cx1_
      have hn3_ : (F_ : Int) ≤ n_ ∧ n_ < S_.1 13 0 37 := by rcases hn2_ with z_ | z_; omega; omega
      obtain ⟨⟨px_, py_⟩, ep_⟩ : ∃ p_, G1_[(n_ - F_).toNat]? = some p_ := ⟨_, List.getElem?_eq_getElem (by omega)⟩
      have ep2_ := x6_ _ px_ py_ ep_
      rw [show F_ + (n_ - F_).toNat = n_.toNat by omega] at ep2_
      refine sm_T_go 3 (c1 := (85, [some (.inr (.inr (some (13, 0)))), some (.inl x_), some (.inl y_), some (.inl a_), some (.inl b_), some (.inl c_), some (.inl n_)], [.inl n_, .inr (.inr (some (140, 0)))], S_)) rfl ?_
      refine sm_T_iald (n := 2048) rfl rfl (by omega) (by omega) ?_
      have bx16_ : 0 ≤ S_.2.2.1 140 0 n_.toNat ∧ S_.2.2.1 140 0 n_.toNat ≤ 2047 := hI_.2 140 0 _
      refine sm_T_go 1 (c1 := (87, [some (.inr (.inr (some (13, 0)))), some (.inl x_), some (.inl y_), some (.inl a_), some (.inl b_), some (.inl c_), some (.inl n_)], [.inl a_, .inl (S_.2.2.1 140 0 n_.toNat)], S_)) rfl ?_
      refine sm_T_br (a := 1) (z := 20) rfl (fun cx17_ => ?_) (fun cx17_ => ?_)
      · have cx17_ : (S_.2.2.1 140 0 n_.toNat) ≠ a_ := of_decide_eq_true cx17_
        refine sm_T_go 3 (c1 := (113, [some (.inr (.inr (some (13, 0)))), some (.inl x_), some (.inl y_), some (.inl a_), some (.inl b_), some (.inl c_), some (.inl n_)], [.inl n_, .inr (.inr (some (143, 0)))], S_)) rfl ?_
        refine sm_T_iald (n := 2048) rfl rfl (by omega) (by omega) ?_
        have bx18_ : 0 ≤ S_.2.2.1 143 0 n_.toNat ∧ S_.2.2.1 143 0 n_.toNat ≤ 1023 := hI_.2 143 0 _
        refine sm_T_go 2 (c1 := (74, [some (.inr (.inr (some (13, 0)))), some (.inl x_), some (.inl y_), some (.inl a_), some (.inl b_), some (.inl c_), some (.inl (S_.2.2.1 143 0 n_.toNat))], [], S_)) rfl ?_
        refine ih_ a_ b_ c_ (S_.2.2.1 143 0 n_.toNat) S_ hI_ hF_ ⟨?_, ?_, ?_, ?_, ?_, ?_, ?_, ?_, trivial⟩ ?_
        · exact hS_
        · have q_ := x8_.2.1 (n_ - F_).toNat (by omega)
          rw [show F_ + (n_ - F_).toNat = n_.toNat by omega] at q_
          rcases q_ with q_ | q_
          · exact Or.inl q_
          · exact Or.inr (by omega)
        · exact hc_
        · exact hbd_
        · exact hmn_
        · exact hn0_
        · exact hn1_
        · intro t_ q_
          obtain ⟨f_, q5_⟩ := h2_ t_ q_
          by_cases e9_ : n_ = t_
          · exfalso; subst e9_; omega
          · exact (rch_s q5_ e9_).2
        · (have q_ := x8_.2.1 (n_ - F_).toNat (by omega)); rw [show F_ + (n_ - F_).toNat = n_.toNat by omega] at q_; rcases q_ with q_ | q_; omega; omega
      · have cx17_ : ¬ ((S_.2.2.1 140 0 n_.toNat) ≠ a_) := of_decide_eq_false cx17_
        refine sm_T_go 3 (c1 := (96, [some (.inr (.inr (some (13, 0)))), some (.inl x_), some (.inl y_), some (.inl a_), some (.inl b_), some (.inl c_), some (.inl n_)], [.inl n_, .inr (.inr (some (141, 0)))], S_)) rfl ?_
        refine sm_T_iald (n := 2048) rfl rfl (by omega) (by omega) ?_
        have bx19_ : 0 ≤ S_.2.2.1 141 0 n_.toNat ∧ S_.2.2.1 141 0 n_.toNat ≤ 2047 := hI_.2 141 0 _
        refine sm_T_go 1 (c1 := (99, [some (.inr (.inr (some (13, 0)))), some (.inl x_), some (.inl y_), some (.inl a_), some (.inl b_), some (.inl c_), some (.inl n_)], [.inl b_, .inl (S_.2.2.1 141 0 n_.toNat)], S_)) rfl ?_
        refine sm_T_br (a := 1) (z := 8) rfl (fun cx20_ => ?_) (fun cx20_ => ?_)
        · have cx20_ : (S_.2.2.1 141 0 n_.toNat) ≠ b_ := of_decide_eq_true cx20_
          refine sm_T_go 3 (c1 := (113, [some (.inr (.inr (some (13, 0)))), some (.inl x_), some (.inl y_), some (.inl a_), some (.inl b_), some (.inl c_), some (.inl n_)], [.inl n_, .inr (.inr (some (143, 0)))], S_)) rfl ?_
          refine sm_T_iald (n := 2048) rfl rfl (by omega) (by omega) ?_
          have bx21_ : 0 ≤ S_.2.2.1 143 0 n_.toNat ∧ S_.2.2.1 143 0 n_.toNat ≤ 1023 := hI_.2 143 0 _
          refine sm_T_go 2 (c1 := (74, [some (.inr (.inr (some (13, 0)))), some (.inl x_), some (.inl y_), some (.inl a_), some (.inl b_), some (.inl c_), some (.inl (S_.2.2.1 143 0 n_.toNat))], [], S_)) rfl ?_
          refine ih_ a_ b_ c_ (S_.2.2.1 143 0 n_.toNat) S_ hI_ hF_ ⟨?_, ?_, ?_, ?_, ?_, ?_, ?_, ?_, trivial⟩ ?_
          · exact hS_
          · have q_ := x8_.2.1 (n_ - F_).toNat (by omega)
            rw [show F_ + (n_ - F_).toNat = n_.toNat by omega] at q_
            rcases q_ with q_ | q_
            · exact Or.inl q_
            · exact Or.inr (by omega)
          · exact hc_
          · exact hbd_
          · exact hmn_
          · exact hn0_
          · exact hn1_
          · intro t_ q_
            obtain ⟨f_, q5_⟩ := h2_ t_ q_
            by_cases e9_ : n_ = t_
            · exfalso; subst e9_; omega
            · exact (rch_s q5_ e9_).2
          · (have q_ := x8_.2.1 (n_ - F_).toNat (by omega)); rw [show F_ + (n_ - F_).toNat = n_.toNat by omega] at q_; rcases q_ with q_ | q_; omega; omega
        · have cx20_ : ¬ ((S_.2.2.1 141 0 n_.toNat) ≠ b_) := of_decide_eq_false cx20_
          refine sm_T_go 2 (c1 := (105, [some (.inr (.inr (some (13, 0)))), some (.inl x_), some (.inl y_), some (.inl a_), some (.inl b_), some (.inl c_), some (.inl n_)], [.inl n_, .inl 2], S_)) rfl ?_
          refine sm_T_bin (w := 2 * n_) rfl (bi_mul (by omega) (by omega) (by omega)) ?_
          refine sm_T_ri rfl ⟨_, _, rfl, _, rfl, hI_, hF_, ?_⟩
          have epp_ : G1_[(n_ - F_).toNat]? = some (a_, b_) := by rw [ep_]; have q1_ : px_ = a_ := (by rw [← ep2_.1]; omega); have q2_ : py_ = b_ := (by rw [← ep2_.2]; omega); rw [q1_, q2_]
          have ea_ : g_an F_ G1_ x_ y_ = (2 * ((F_ + (n_ - F_).toNat : Nat) : Int), G1_) := by rw [g_an_mn hmn_, g_a2_f hn0_ hn1_ (g_fd_s x7_ epp_)]
          have hr_ := ar_go (v_ := 2 * n_) (S1_ := S_) hG1_ hG2_ hab_ (Or.inl ⟨by rw [ea_]; exact hG1_, by rw [ea_]; omega⟩)
          exact ⟨hr_.1, hr_.2, by omega⟩
set_option maxHeartbeats 400000 in
set_option maxRecDepth 20000 in
theorem vc_328 {sc_ : Nat × (Nat → Int)} (x_ : Int) (y_ : Int) (F_ : Nat) (G_ : pGr) (A_ : Int) (B_ : Int) (S0_ : sm_S) (hI_ : gi S0_) (hg_ : rgl F_ G_ S0_) (hx_ : 0 ≤ x_ ∧ x_ ≤ 2047) (hy_ : 0 ≤ y_ ∧ y_ ≤ 2047) (hab_ : imq (G_.length ≤ 1001) (x_ = A_ ∧ y_ = B_)) : sm_T (mt_P sc_) 0 328 (0, [some (.inr (.inr (some (13, 0)))), some (.inl x_), some (.inl y_), none, none, none, none], [], S0_) (fun ro9_ => ∃ u_ S1_, ro9_ = (.inl u_, S1_, 0) ∧ vq_328 x_ y_ F_ G_ A_ B_ S0_ u_ S1_) := by
  have hF_ : ai_fr (sx_W vw_328) S0_ S0_ := ai_fr_rf
  obtain ⟨G1_, hG1_, hG2_⟩ := id hg_
  obtain ⟨x1_, x2_, x4_, x5_, x6_, x7_, x8_⟩ := id hG1_
  refine sm_T_go 2 (c1 := (2, [some (.inr (.inr (some (13, 0)))), some (.inl x_), some (.inl y_), none, none, none, none], [.inl y_, .inl x_], S0_)) rfl ?_
  refine sm_T_br (a := 3) (z := 7) rfl (fun cx1_ => ?_) (fun cx1_ => ?_)
  · have cx1_ : y_ ≤ x_ := of_decide_eq_true cx1_
    refine sm_T_go 4 (c1 := (13, [some (.inr (.inr (some (13, 0)))), some (.inl x_), some (.inl y_), some (.inl y_), none, none, none], [.inl y_, .inl x_], S0_)) rfl ?_
    refine sm_T_br (a := 3) (z := 7) rfl (fun cx2_ => ?_) (fun cx2_ => ?_)
    · have cx2_ : y_ ≤ x_ := of_decide_eq_true cx2_
      refine sm_T_go 3 (c1 := (24, [some (.inr (.inr (some (13, 0)))), some (.inl x_), some (.inl y_), some (.inl y_), some (.inl x_), none, none], [.inl y_], S0_)) rfl ?_
      refine sm_T_b0 (a := 0) (z := 11) rfl (fun cx3_ => ?_) (fun cx3_ => ?_)
      · have cx3_ : y_ = 0 := of_decide_eq_true cx3_
        refine sm_T_go 1 (c1 := (36, [some (.inr (.inr (some (13, 0)))), some (.inl x_), some (.inl y_), some (.inl y_), some (.inl x_), none, none], [.inl 0], S0_)) rfl ?_
        refine sm_T_ri rfl ⟨_, _, rfl, _, rfl, hI_, hF_, ?_⟩
        have ea_ : g_an F_ G1_ x_ y_ = (0, G1_) := by first | (rw [g_an_mn (a_ := x_) (b_ := y_) (by omega)]; unfold g_a2; rw [if_pos (by omega)]) | (rw [g_an_mn (a_ := y_) (b_ := x_) (by omega)]; unfold g_a2; rw [if_pos (by omega)])
        have hr_ := ar_go (v_ := 0) hG1_ hG2_ hab_ (Or.inl ⟨by rw [ea_]; exact hG1_, by rw [ea_]⟩)
        exact ⟨hr_.1, hr_.2, by omega⟩
      · have cx3_ : ¬ (y_ = 0) := of_decide_eq_false cx3_
        refine sm_T_go 3 (c1 := (31, [some (.inr (.inr (some (13, 0)))), some (.inl x_), some (.inl y_), some (.inl y_), some (.inl x_), none, none], [.inl 1, .inl x_, .inl y_], S0_)) rfl ?_
        refine sm_T_bin (w := (i_xor x_ 1)) rfl rfl ?_
        have bx4_ := i_x1 (x_ := x_) (by omega)
        refine sm_T_br (a := 1) (z := 5) rfl (fun cx5_ => ?_) (fun cx5_ => ?_)
        · have cx5_ : y_ ≠ (i_xor x_ 1) := of_decide_eq_true cx5_
          refine sm_T_go 2 (c1 := (39, [some (.inr (.inr (some (13, 0)))), some (.inl x_), some (.inl y_), some (.inl y_), some (.inl x_), none, none], [.inl 1, .inl y_], S0_)) rfl ?_
          refine sm_T_br (a := 0) (z := 9) rfl (fun cx6_ => ?_) (fun cx6_ => ?_)
          · have cx6_ : y_ = 1 := of_decide_eq_true cx6_
            refine sm_T_go 1 (c1 := (50, [some (.inr (.inr (some (13, 0)))), some (.inl x_), some (.inl y_), some (.inl y_), some (.inl x_), none, none], [.inl x_], S0_)) rfl ?_
            refine sm_T_ri rfl ⟨_, _, rfl, _, rfl, hI_, hF_, ?_⟩
            first | (have ea_ : g_an F_ G1_ x_ y_ = (y_, G1_) := (by rw [g_an_mn (a_ := x_) (b_ := y_) (by omega)]; unfold g_a2; rw [if_neg (by omega), if_pos (by omega)]); have hr_ := ar_go (v_ := y_) hG1_ hG2_ hab_ (Or.inl ⟨by rw [ea_]; exact hG1_, by rw [ea_]⟩); exact ⟨hr_.1, hr_.2, by omega⟩) | (have ea_ : g_an F_ G1_ x_ y_ = (x_, G1_) := (by rw [g_an_mn (a_ := y_) (b_ := x_) (by omega)]; unfold g_a2; rw [if_neg (by omega), if_pos (by omega)]); have hr_ := ar_go (v_ := x_) hG1_ hG2_ hab_ (Or.inl ⟨by rw [ea_]; exact hG1_, by rw [ea_]⟩); exact ⟨hr_.1, hr_.2, by omega⟩)
          · have cx6_ : ¬ (y_ = 1) := of_decide_eq_false cx6_
            refine sm_T_go 2 (c1 := (45, [some (.inr (.inr (some (13, 0)))), some (.inl x_), some (.inl y_), some (.inl y_), some (.inl x_), none, none], [.inl x_, .inl y_], S0_)) rfl ?_
            refine sm_T_br (a := 1) (z := 6) rfl (fun cx7_ => ?_) (fun cx7_ => ?_)
            · have cx7_ : y_ ≠ x_ := of_decide_eq_true cx7_
              refine sm_T_go 2 (c1 := (55, [some (.inr (.inr (some (13, 0)))), some (.inl x_), some (.inl y_), some (.inl y_), some (.inl x_), none, none], [.inl y_, .inl 1021], S0_)) rfl ?_
              refine sm_T_bin (w := 1021 * y_) rfl (bi_mul (by omega) (by omega) (by omega)) ?_
              refine sm_T_go 1 (c1 := (58, [some (.inr (.inr (some (13, 0)))), some (.inl x_), some (.inl y_), some (.inl y_), some (.inl x_), none, none], [.inl x_, .inl (1021 * y_)], S0_)) rfl ?_
              refine sm_T_bin (w := 1021 * y_ + x_) rfl (bi_add (by omega) (by omega) (by omega)) ?_
              refine sm_T_go 1 (c1 := (62, [some (.inr (.inr (some (13, 0)))), some (.inl x_), some (.inl y_), some (.inl y_), some (.inl x_), none, none], [.inl 4095, .inl (1021 * y_ + x_)], S0_)) rfl ?_
              refine sm_T_bin (w := ((1021 * y_ + x_) % 4096)) rfl (bi_msk (k := 12) (by decide)) ?_
              refine sm_T_go 4 (c1 := (71, [some (.inr (.inr (some (13, 0)))), some (.inl x_), some (.inl y_), some (.inl y_), some (.inl x_), some (.inl ((1021 * y_ + x_) % 4096)), none], [.inl ((1021 * y_ + x_) % 4096), .inr (.inr (some (142, 0)))], S0_)) rfl ?_
              refine sm_T_iald (n := 4096) rfl rfl (by omega) (by omega) ?_
              have bx8_ : 0 ≤ S0_.2.2.1 142 0 ((1021 * y_ + x_) % 4096).toNat ∧ S0_.2.2.1 142 0 ((1021 * y_ + x_) % 4096).toNat ≤ 1023 := hI_.2 142 0 _
              refine sm_T_go 1 (c1 := (74, [some (.inr (.inr (some (13, 0)))), some (.inl x_), some (.inl y_), some (.inl y_), some (.inl x_), some (.inl ((1021 * y_ + x_) % 4096)), some (.inl (S0_.2.2.1 142 0 ((1021 * y_ + x_) % 4096).toNat))], [], S0_)) rfl ?_
              refine (vl_328 x_ y_ F_ G_ A_ B_ S0_ hg_ hx_ hy_ hab_ _) y_ x_ ((1021 * y_ + x_) % 4096) (S0_.2.2.1 142 0 ((1021 * y_ + x_) % 4096).toNat) S0_ hI_ hF_ ⟨?_, ?_, ?_, ?_, ?_, ?_, ?_, ?_, trivial⟩ (Nat.lt_succ_self _)
              · rfl
              · rw [show F_ + (S0_.1 13 0 37 - S0_.1 13 0 38).toNat = F_ + G1_.length by omega]
                first | exact x8_.1 ((1021 * x_ + y_) % 4096).toNat (by omega) | exact x8_.1 ((1021 * y_ + x_) % 4096).toNat (by omega)
              · rfl
              · omega
              · omega
              · omega
              · omega
              · intro t_ ⟨q1_, q2_, q3_, q4_⟩
                obtain ⟨⟨px_, py_⟩, ep_⟩ : ∃ p_, G1_[(t_ - F_).toNat]? = some p_ := ⟨_, List.getElem?_eq_getElem (by omega)⟩
                have ep2_ := x6_ _ px_ py_ ep_
                rw [show F_ + (t_ - F_).toNat = t_.toNat by omega] at ep2_
                obtain ⟨f_, q5_⟩ := x8_.2.2 _ px_ py_ ep_
                refine ⟨f_, ?_⟩
                rw [← ep2_.1, ← ep2_.2, q1_, q2_, show ((F_ + (t_ - F_).toNat : Nat) : Int) = t_ by omega] at q5_
                exact q5_
            · have cx7_ : ¬ (y_ ≠ x_) := of_decide_eq_false cx7_
              refine sm_T_go 1 (c1 := (50, [some (.inr (.inr (some (13, 0)))), some (.inl x_), some (.inl y_), some (.inl y_), some (.inl x_), none, none], [.inl x_], S0_)) rfl ?_
              refine sm_T_ri rfl ⟨_, _, rfl, _, rfl, hI_, hF_, ?_⟩
              first | (have ea_ : g_an F_ G1_ x_ y_ = (y_, G1_) := (by rw [g_an_mn (a_ := x_) (b_ := y_) (by omega)]; unfold g_a2; rw [if_neg (by omega), if_pos (by omega)]); have hr_ := ar_go (v_ := y_) hG1_ hG2_ hab_ (Or.inl ⟨by rw [ea_]; exact hG1_, by rw [ea_]⟩); exact ⟨hr_.1, hr_.2, by omega⟩) | (have ea_ : g_an F_ G1_ x_ y_ = (x_, G1_) := (by rw [g_an_mn (a_ := y_) (b_ := x_) (by omega)]; unfold g_a2; rw [if_neg (by omega), if_pos (by omega)]); have hr_ := ar_go (v_ := x_) hG1_ hG2_ hab_ (Or.inl ⟨by rw [ea_]; exact hG1_, by rw [ea_]⟩); exact ⟨hr_.1, hr_.2, by omega⟩)
        · have cx5_ : ¬ (y_ ≠ (i_xor x_ 1)) := of_decide_eq_false cx5_
          refine sm_T_go 1 (c1 := (36, [some (.inr (.inr (some (13, 0)))), some (.inl x_), some (.inl y_), some (.inl y_), some (.inl x_), none, none], [.inl 0], S0_)) rfl ?_
          refine sm_T_ri rfl ⟨_, _, rfl, _, rfl, hI_, hF_, ?_⟩
          have ea_ : g_an F_ G1_ x_ y_ = (0, G1_) := by first | (rw [g_an_mn (a_ := x_) (b_ := y_) (by omega)]; unfold g_a2; rw [if_pos (by omega)]) | (rw [g_an_mn (a_ := y_) (b_ := x_) (by omega)]; unfold g_a2; rw [if_pos (by omega)])
          have hr_ := ar_go (v_ := 0) hG1_ hG2_ hab_ (Or.inl ⟨by rw [ea_]; exact hG1_, by rw [ea_]⟩)
          exact ⟨hr_.1, hr_.2, by omega⟩
    · have cx2_ : ¬ (y_ ≤ x_) := of_decide_eq_false cx2_
      exfalso; omega
  · have cx1_ : ¬ (y_ ≤ x_) := of_decide_eq_false cx1_
    refine sm_T_go 5 (c1 := (13, [some (.inr (.inr (some (13, 0)))), some (.inl x_), some (.inl y_), some (.inl x_), none, none, none], [.inl y_, .inl x_], S0_)) rfl ?_
    refine sm_T_br (a := 3) (z := 7) rfl (fun cx9_ => ?_) (fun cx9_ => ?_)
    · have cx9_ : y_ ≤ x_ := of_decide_eq_true cx9_
      exfalso; omega
    · have cx9_ : ¬ (y_ ≤ x_) := of_decide_eq_false cx9_
      refine sm_T_go 4 (c1 := (24, [some (.inr (.inr (some (13, 0)))), some (.inl x_), some (.inl y_), some (.inl x_), some (.inl y_), none, none], [.inl x_], S0_)) rfl ?_
      refine sm_T_b0 (a := 0) (z := 11) rfl (fun cx10_ => ?_) (fun cx10_ => ?_)
      · have cx10_ : x_ = 0 := of_decide_eq_true cx10_
        refine sm_T_go 1 (c1 := (36, [some (.inr (.inr (some (13, 0)))), some (.inl x_), some (.inl y_), some (.inl x_), some (.inl y_), none, none], [.inl 0], S0_)) rfl ?_
        refine sm_T_ri rfl ⟨_, _, rfl, _, rfl, hI_, hF_, ?_⟩
        have ea_ : g_an F_ G1_ x_ y_ = (0, G1_) := by first | (rw [g_an_mn (a_ := x_) (b_ := y_) (by omega)]; unfold g_a2; rw [if_pos (by omega)]) | (rw [g_an_mn (a_ := y_) (b_ := x_) (by omega)]; unfold g_a2; rw [if_pos (by omega)])
        have hr_ := ar_go (v_ := 0) hG1_ hG2_ hab_ (Or.inl ⟨by rw [ea_]; exact hG1_, by rw [ea_]⟩)
        exact ⟨hr_.1, hr_.2, by omega⟩
      · have cx10_ : ¬ (x_ = 0) := of_decide_eq_false cx10_
        refine sm_T_go 3 (c1 := (31, [some (.inr (.inr (some (13, 0)))), some (.inl x_), some (.inl y_), some (.inl x_), some (.inl y_), none, none], [.inl 1, .inl y_, .inl x_], S0_)) rfl ?_
        refine sm_T_bin (w := (i_xor y_ 1)) rfl rfl ?_
        have bx11_ := i_x1 (x_ := y_) (by omega)
        refine sm_T_br (a := 1) (z := 5) rfl (fun cx12_ => ?_) (fun cx12_ => ?_)
        · have cx12_ : x_ ≠ (i_xor y_ 1) := of_decide_eq_true cx12_
          refine sm_T_go 2 (c1 := (39, [some (.inr (.inr (some (13, 0)))), some (.inl x_), some (.inl y_), some (.inl x_), some (.inl y_), none, none], [.inl 1, .inl x_], S0_)) rfl ?_
          refine sm_T_br (a := 0) (z := 9) rfl (fun cx13_ => ?_) (fun cx13_ => ?_)
          · have cx13_ : x_ = 1 := of_decide_eq_true cx13_
            refine sm_T_go 1 (c1 := (50, [some (.inr (.inr (some (13, 0)))), some (.inl x_), some (.inl y_), some (.inl x_), some (.inl y_), none, none], [.inl y_], S0_)) rfl ?_
            refine sm_T_ri rfl ⟨_, _, rfl, _, rfl, hI_, hF_, ?_⟩
            first | (have ea_ : g_an F_ G1_ x_ y_ = (y_, G1_) := (by rw [g_an_mn (a_ := x_) (b_ := y_) (by omega)]; unfold g_a2; rw [if_neg (by omega), if_pos (by omega)]); have hr_ := ar_go (v_ := y_) hG1_ hG2_ hab_ (Or.inl ⟨by rw [ea_]; exact hG1_, by rw [ea_]⟩); exact ⟨hr_.1, hr_.2, by omega⟩) | (have ea_ : g_an F_ G1_ x_ y_ = (x_, G1_) := (by rw [g_an_mn (a_ := y_) (b_ := x_) (by omega)]; unfold g_a2; rw [if_neg (by omega), if_pos (by omega)]); have hr_ := ar_go (v_ := x_) hG1_ hG2_ hab_ (Or.inl ⟨by rw [ea_]; exact hG1_, by rw [ea_]⟩); exact ⟨hr_.1, hr_.2, by omega⟩)
          · have cx13_ : ¬ (x_ = 1) := of_decide_eq_false cx13_
            refine sm_T_go 2 (c1 := (45, [some (.inr (.inr (some (13, 0)))), some (.inl x_), some (.inl y_), some (.inl x_), some (.inl y_), none, none], [.inl y_, .inl x_], S0_)) rfl ?_
            refine sm_T_br (a := 1) (z := 6) rfl (fun cx14_ => ?_) (fun cx14_ => ?_)
            · have cx14_ : x_ ≠ y_ := of_decide_eq_true cx14_
              refine sm_T_go 2 (c1 := (55, [some (.inr (.inr (some (13, 0)))), some (.inl x_), some (.inl y_), some (.inl x_), some (.inl y_), none, none], [.inl x_, .inl 1021], S0_)) rfl ?_
              refine sm_T_bin (w := 1021 * x_) rfl (bi_mul (by omega) (by omega) (by omega)) ?_
              refine sm_T_go 1 (c1 := (58, [some (.inr (.inr (some (13, 0)))), some (.inl x_), some (.inl y_), some (.inl x_), some (.inl y_), none, none], [.inl y_, .inl (1021 * x_)], S0_)) rfl ?_
              refine sm_T_bin (w := 1021 * x_ + y_) rfl (bi_add (by omega) (by omega) (by omega)) ?_
              refine sm_T_go 1 (c1 := (62, [some (.inr (.inr (some (13, 0)))), some (.inl x_), some (.inl y_), some (.inl x_), some (.inl y_), none, none], [.inl 4095, .inl (1021 * x_ + y_)], S0_)) rfl ?_
              refine sm_T_bin (w := ((1021 * x_ + y_) % 4096)) rfl (bi_msk (k := 12) (by decide)) ?_
              refine sm_T_go 4 (c1 := (71, [some (.inr (.inr (some (13, 0)))), some (.inl x_), some (.inl y_), some (.inl x_), some (.inl y_), some (.inl ((1021 * x_ + y_) % 4096)), none], [.inl ((1021 * x_ + y_) % 4096), .inr (.inr (some (142, 0)))], S0_)) rfl ?_
              refine sm_T_iald (n := 4096) rfl rfl (by omega) (by omega) ?_
              have bx15_ : 0 ≤ S0_.2.2.1 142 0 ((1021 * x_ + y_) % 4096).toNat ∧ S0_.2.2.1 142 0 ((1021 * x_ + y_) % 4096).toNat ≤ 1023 := hI_.2 142 0 _
              refine sm_T_go 1 (c1 := (74, [some (.inr (.inr (some (13, 0)))), some (.inl x_), some (.inl y_), some (.inl x_), some (.inl y_), some (.inl ((1021 * x_ + y_) % 4096)), some (.inl (S0_.2.2.1 142 0 ((1021 * x_ + y_) % 4096).toNat))], [], S0_)) rfl ?_
              refine (vl_328 x_ y_ F_ G_ A_ B_ S0_ hg_ hx_ hy_ hab_ _) x_ y_ ((1021 * x_ + y_) % 4096) (S0_.2.2.1 142 0 ((1021 * x_ + y_) % 4096).toNat) S0_ hI_ hF_ ⟨?_, ?_, ?_, ?_, ?_, ?_, ?_, ?_, trivial⟩ (Nat.lt_succ_self _)
              · rfl
              · rw [show F_ + (S0_.1 13 0 37 - S0_.1 13 0 38).toNat = F_ + G1_.length by omega]
                first | exact x8_.1 ((1021 * x_ + y_) % 4096).toNat (by omega) | exact x8_.1 ((1021 * y_ + x_) % 4096).toNat (by omega)
              · rfl
              · omega
              · omega
              · omega
              · omega
              · intro t_ ⟨q1_, q2_, q3_, q4_⟩
                obtain ⟨⟨px_, py_⟩, ep_⟩ : ∃ p_, G1_[(t_ - F_).toNat]? = some p_ := ⟨_, List.getElem?_eq_getElem (by omega)⟩
                have ep2_ := x6_ _ px_ py_ ep_
                rw [show F_ + (t_ - F_).toNat = t_.toNat by omega] at ep2_
                obtain ⟨f_, q5_⟩ := x8_.2.2 _ px_ py_ ep_
                refine ⟨f_, ?_⟩
                rw [← ep2_.1, ← ep2_.2, q1_, q2_, show ((F_ + (t_ - F_).toNat : Nat) : Int) = t_ by omega] at q5_
                exact q5_
            · have cx14_ : ¬ (x_ ≠ y_) := of_decide_eq_false cx14_
              exfalso; omega
        · have cx12_ : ¬ (x_ ≠ (i_xor y_ 1)) := of_decide_eq_false cx12_
          refine sm_T_go 1 (c1 := (36, [some (.inr (.inr (some (13, 0)))), some (.inl x_), some (.inl y_), some (.inl x_), some (.inl y_), none, none], [.inl 0], S0_)) rfl ?_
          refine sm_T_ri rfl ⟨_, _, rfl, _, rfl, hI_, hF_, ?_⟩
          have ea_ : g_an F_ G1_ x_ y_ = (0, G1_) := by first | (rw [g_an_mn (a_ := x_) (b_ := y_) (by omega)]; unfold g_a2; rw [if_pos (by omega)]) | (rw [g_an_mn (a_ := y_) (b_ := x_) (by omega)]; unfold g_a2; rw [if_pos (by omega)])
          have hr_ := ar_go (v_ := 0) hG1_ hG2_ hab_ (Or.inl ⟨by rw [ea_]; exact hG1_, by rw [ea_]⟩)
          exact ⟨hr_.1, hr_.2, by omega⟩
end
/-! 99.zc1b -/
section
/-! M_.or -/
def vw_329 : sx_Wl := ([(13, 37)], [140, 141, 142, 143], [])
def vq_329 (x_ : Int) (y_ : Int) (F_ : Nat) (G_ : pGr) (A_ : Int) (B_ : Int) (S0_ : sm_S) (u_ : Option sm_V) (S1_ : sm_S) : Prop := ∃ v_ : Int, u_ = some (.inl v_) ∧ gi S1_ ∧ ai_fr (sx_W vw_329) S0_ S1_ ∧ (rgl F_ (g_or F_ G_ A_ B_).2 S1_ ∧ (imq ((g_or F_ G_ A_ B_).2.length ≤ 1001) (v_ = (g_or F_ G_ A_ B_).1)) ∧ (0 ≤ v_ ∧ v_ ≤ 2047))
set_option maxHeartbeats 400000 in
theorem vc_329 {sc_ : Nat × (Nat → Int)} (x_ : Int) (y_ : Int) (F_ : Nat) (G_ : pGr) (A_ : Int) (B_ : Int) (S0_ : sm_S) (hI_ : gi S0_) (hg_ : rgl F_ G_ S0_) (hx_ : 0 ≤ x_ ∧ x_ ≤ 2047) (hy_ : 0 ≤ y_ ∧ y_ ≤ 2047) (hab_ : imq (G_.length ≤ 1001) (x_ = A_ ∧ y_ = B_)) : sm_T (mt_P sc_) 1 329 (0, [some (.inr (.inr (some (13, 0)))), some (.inl x_), some (.inl y_)], [], S0_) (fun ro9_ => ∃ u_ S1_, ro9_ = (.inl u_, S1_, 0) ∧ vq_329 x_ y_ F_ G_ A_ B_ S0_ u_ S1_) := by
  have hF_ : ai_fr (sx_W vw_329) S0_ S0_ := ai_fr_rf
  refine sm_T_go 4 (c1 := (4, [some (.inr (.inr (some (13, 0)))), some (.inl x_), some (.inl y_)], [.inl 1, .inl x_, .inr (.inr (some (13, 0))), .inl 1], S0_)) rfl ?_
  refine sm_T_bin (w := (i_xor x_ 1)) rfl rfl ?_
  first | have bx1_ := (i_xc (x_ := x_) (y_ := 1)).trans (i_x1 (x_ := 1) (by omega)) | have bx1_ := i_x1 (x_ := x_) (by omega)
  refine sm_T_go 2 (c1 := (7, [some (.inr (.inr (some (13, 0)))), some (.inl x_), some (.inl y_)], [.inl 1, .inl y_, .inl (i_xor x_ 1), .inr (.inr (some (13, 0))), .inl 1], S0_)) rfl ?_
  refine sm_T_bin (w := (i_xor y_ 1)) rfl rfl ?_
  first | have bx2_ := (i_xc (x_ := y_) (y_ := 1)).trans (i_x1 (x_ := 1) (by omega)) | have bx2_ := i_x1 (x_ := y_) (by omega)
  refine sm_T_cal (d1 := 0) (Q1 := vq_328 (i_xor x_ 1) (i_xor y_ 1) F_ G_ (i_xor A_ 1) (i_xor B_ 1) S0_) rfl rfl (by decide) (vc_328 (i_xor x_ 1) (i_xor y_ 1) F_ G_ (i_xor A_ 1) (i_xor B_ 1) S0_ hI_ (by exact hg_) (by omega) (by omega) (by (intro z_; have q_ := hab_ z_; rw [q_.1, q_.2]; exact ⟨rfl, rfl⟩))) (fun u_ Sx3_ px6_ => ?_)
  obtain ⟨vx8_, rfl, hIx4_, hFx5_, px6_⟩ := px6_
  have hFx7_ : ai_fr (sx_W vw_329) S0_ Sx3_ := ai_fr_tr hF_ (fr_le hFx5_ rfl)
  have e7_ := px6_
  refine sm_T_bin (w := (i_xor 1 vx8_)) rfl rfl ?_
  first | have bx9_ := (i_xc (x_ := 1) (y_ := vx8_)).trans (i_x1 (x_ := vx8_) (by omega)) | have bx9_ := i_x1 (x_ := 1) (by omega)
  refine sm_T_ri rfl ⟨_, _, rfl, _, rfl, hIx4_, hFx7_, ?_⟩
  refine ⟨e7_.1, fun z_ => ?_, by omega⟩
  show _ = i_xor _ 1
  rw [i_xc, e7_.2.1 z_]
end
/-! 99.zc1c -/
section
/-! M_.xor -/
def vw_330 : sx_Wl := ([(13, 37)], [140, 141, 142, 143], [])
def vq_330 (x_ : Int) (y_ : Int) (F_ : Nat) (G_ : pGr) (A_ : Int) (B_ : Int) (S0_ : sm_S) (u_ : Option sm_V) (S1_ : sm_S) : Prop := ∃ v_ : Int, u_ = some (.inl v_) ∧ gi S1_ ∧ ai_fr (sx_W vw_330) S0_ S1_ ∧ (rgl F_ (g_xo F_ G_ A_ B_).2 S1_ ∧ (imq ((g_xo F_ G_ A_ B_).2.length ≤ 1001) (v_ = (g_xo F_ G_ A_ B_).1)) ∧ (0 ≤ v_ ∧ v_ ≤ 2047))
set_option maxHeartbeats 400000 in
theorem vc_330 {sc_ : Nat × (Nat → Int)} (x_ : Int) (y_ : Int) (F_ : Nat) (G_ : pGr) (A_ : Int) (B_ : Int) (S0_ : sm_S) (hI_ : gi S0_) (hg_ : rgl F_ G_ S0_) (hx_ : 0 ≤ x_ ∧ x_ ≤ 2047) (hy_ : 0 ≤ y_ ∧ y_ ≤ 2047) (hab_ : imq (G_.length ≤ 1001) (x_ = A_ ∧ y_ = B_)) : sm_T (mt_P sc_) 2 330 (0, [some (.inr (.inr (some (13, 0)))), some (.inl x_), some (.inl y_), none, none], [], S0_) (fun ro9_ => ∃ u_ S1_, ro9_ = (.inl u_, S1_, 0) ∧ vq_330 x_ y_ F_ G_ A_ B_ S0_ u_ S1_) := by
  have hF_ : ai_fr (sx_W vw_330) S0_ S0_ := ai_fr_rf
  refine sm_T_go 4 (c1 := (4, [some (.inr (.inr (some (13, 0)))), some (.inl x_), some (.inl y_), none, none], [.inl 1, .inl y_, .inl x_, .inr (.inr (some (13, 0)))], S0_)) rfl ?_
  refine sm_T_bin (w := (i_xor y_ 1)) rfl rfl ?_
  have bx1_ := i_x1 (x_ := y_) (by omega)
  refine sm_T_cal (d1 := 0) (Q1 := vq_328 x_ (i_xor y_ 1) F_ G_ A_ (i_xor B_ 1) S0_) rfl rfl (by decide) (vc_328 x_ (i_xor y_ 1) F_ G_ A_ (i_xor B_ 1) S0_ hI_ (by exact hg_) (by omega) (by omega) (by (intro z_; have q_ := hab_ z_; rw [q_.1, q_.2]; exact ⟨rfl, rfl⟩))) (fun u_ Sx2_ px5_ => ?_)
  obtain ⟨vx7_, rfl, hIx3_, hFx4_, px5_⟩ := px5_
  have hFx6_ : ai_fr (sx_W vw_330) S0_ Sx2_ := ai_fr_tr hF_ (fr_le hFx4_ rfl)
  have e5_ := px5_
  have l5_ := g_an_le (F_ := F_) (G_ := G_) (a_ := A_) (b_ := i_xor B_ 1)
  refine sm_T_go 4 (c1 := (12, [some (.inr (.inr (some (13, 0)))), some (.inl x_), some (.inl y_), some (.inl vx7_), none], [.inl 1, .inl x_, .inr (.inr (some (13, 0)))], Sx2_)) rfl ?_
  refine sm_T_bin (w := (i_xor x_ 1)) rfl rfl ?_
  have bx8_ := i_x1 (x_ := x_) (by omega)
  refine sm_T_go 1 (c1 := (14, [some (.inr (.inr (some (13, 0)))), some (.inl x_), some (.inl y_), some (.inl vx7_), none], [.inl y_, .inl (i_xor x_ 1), .inr (.inr (some (13, 0)))], Sx2_)) rfl ?_
  refine sm_T_cal (d1 := 0) (Q1 := vq_328 (i_xor x_ 1) y_ F_ (g_an F_ G_ A_ (i_xor B_ 1)).2 (i_xor A_ 1) B_ Sx2_) rfl rfl (by decide) (vc_328 (i_xor x_ 1) y_ F_ (g_an F_ G_ A_ (i_xor B_ 1)).2 (i_xor A_ 1) B_ Sx2_ hIx3_ (by exact e5_.1) (by omega) (by omega) (by (intro z_; have q_ := hab_ (by omega); rw [q_.1, q_.2]; exact ⟨rfl, rfl⟩))) (fun u_ Sx9_ px12_ => ?_)
  obtain ⟨vx14_, rfl, hIx10_, hFx11_, px12_⟩ := px12_
  have hFx13_ : ai_fr (sx_W vw_330) S0_ Sx9_ := ai_fr_tr hFx6_ (fr_le hFx11_ rfl)
  have e18_ := px12_
  have l18_ := g_an_le (F_ := F_) (G_ := (g_an F_ G_ A_ (i_xor B_ 1)).2) (a_ := i_xor A_ 1) (b_ := B_)
  refine sm_T_go 4 (c1 := (23, [some (.inr (.inr (some (13, 0)))), some (.inl x_), some (.inl y_), some (.inl vx7_), some (.inl vx14_)], [.inl vx14_, .inl vx7_, .inr (.inr (some (13, 0)))], Sx9_)) rfl ?_
  refine sm_T_cal (d1 := 1) (Q1 := vq_329 vx7_ vx14_ F_ (g_an F_ (g_an F_ G_ A_ (i_xor B_ 1)).2 (i_xor A_ 1) B_).2 (g_an F_ G_ A_ (i_xor B_ 1)).1 (g_an F_ (g_an F_ G_ A_ (i_xor B_ 1)).2 (i_xor A_ 1) B_).1 Sx9_) rfl rfl (by decide) (vc_329 vx7_ vx14_ F_ (g_an F_ (g_an F_ G_ A_ (i_xor B_ 1)).2 (i_xor A_ 1) B_).2 (g_an F_ G_ A_ (i_xor B_ 1)).1 (g_an F_ (g_an F_ G_ A_ (i_xor B_ 1)).2 (i_xor A_ 1) B_).1 Sx9_ hIx10_ (by exact e18_.1) (by omega) (by omega) (by (intro z_; exact ⟨e5_.2.1 (by omega), e18_.2.1 z_⟩))) (fun u_ Sx15_ px18_ => ?_)
  obtain ⟨vx20_, rfl, hIx16_, hFx17_, px18_⟩ := px18_
  have hFx19_ : ai_fr (sx_W vw_330) S0_ Sx15_ := ai_fr_tr hFx13_ (fr_le hFx17_ rfl)
  have e23_ := px18_
  refine sm_T_ri rfl ⟨_, _, rfl, _, rfl, hIx16_, hFx19_, ?_⟩
  exact e23_
end
/-! 99.zc2a -/
section
/-! the reference: joining; written by wip/p55/gen/vg -/

/-! joining -/
theorem rgl_st {F_ : Nat} {G_ : pGr} {S_ : sm_S} {k_ : Nat} {z_ : Int} (h_ : rgl F_ G_ S_) : rgl F_ G_ (sm_aI S_ 139 0 k_ z_) := rgl_fr (w_ := ([], [139], [])) h_ (ai_fr_aI rfl) rfl rfl rfl rfl rfl rfl
theorem rd_self {S_ : sm_S} {k_ j_ : Nat} : (sm_aI S_ 139 0 k_ (S_.2.2.1 139 0 k_)).2.2.1 139 0 j_ = S_.2.2.1 139 0 j_ := by
  rw [rd_eq]
  by_cases e_ : j_ = k_
  · rw [if_pos e_, e_]
  · rw [if_neg e_]
end
/-! 99.zc2b -/
section
/-! M_.join -/
def vw_331w : sx_Wl := ([(13, 37)], [139, 140, 141, 142, 143], [])
def vq_331w (s_ : Int) (a_ : Int) (b_ : Int) (F_ : Nat) (G_ : pGr) (x_ : List Int) (y_ : List Int) (kk_ : Int) (S0_ : sm_S) (u_ : Option sm_V) (S1_ : sm_S) : Prop := u_ = none ∧ gi S1_ ∧ ai_fr (sx_W vw_331w) S0_ S1_ ∧ (rgl F_ (g_op F_ kk_ G_ x_ y_).2 S1_ ∧ (imq ((g_op F_ kk_ G_ x_ y_).2.length ≤ 1001) (rwv (S1_.2.2.1 139 0) (8 * a_.toNat) (g_op F_ kk_ G_ x_ y_).1)) ∧ ∀ j_ : Nat, j_ < 8 * a_.toNat ∨ 8 * a_.toNat + 8 ≤ j_ → S1_.2.2.1 139 0 j_ = S0_.2.2.1 139 0 j_)
set_option maxHeartbeats 1500000 in
set_option maxRecDepth 20000 in
theorem vl_331w {sc_ : Nat × (Nat → Int)} (s_ : Int) (a_ : Int) (b_ : Int) (F_ : Nat) (G_ : pGr) (x_ : List Int) (y_ : List Int) (kk_ : Int) (S0_ : sm_S) (hg_ : rgl F_ G_ S0_) (ha_ : 0 ≤ a_ ∧ a_ + 1 ≤ b_ ∧ b_ ≤ 1023) (hw_ : S0_.2.2.1 138 0 a_.toNat = (x_.length : Int)) (hn_ : x_.length = y_.length ∧ 1 ≤ x_.length ∧ x_.length ≤ 8) (hr_ : imq (G_.length ≤ 1001) (rwv (S0_.2.2.1 139 0) (8 * a_.toNat) x_ ∧ rwv (S0_.2.2.1 139 0) (8 * b_.toNat) y_)) (hs_ : (s_ = 124 ∧ kk_ = 1) ∨ (s_ = 94 ∧ kk_ = 2) ∨ (s_ = 38 ∧ kk_ = 3)) : ∀ nn_ : Nat, (∀ (nb_ : Int) (cy_ : Int) (sa_ : Int) (k_ : Int) (S_ : sm_S), gi S_ → ai_fr (sx_W vw_331w) S0_ S_ → ((0 ≤ k_ ∧ k_ ≤ nb_ ∧ nb_ = (x_.length : Int)) ∧ ((0 ≤ cy_ ∧ cy_ ≤ 2047) ∧ (0 ≤ sa_ ∧ sa_ ≤ 2047)) ∧ (∃ (G1_ : pGr) (d_ r_ e_ t_ : List Int), rgl F_ G1_ S_ ∧ (d_.length : Int) = k_ ∧ (e_.length : Int) = k_ ∧ r_.length = t_.length ∧ k_ + r_.length = nb_ ∧ y_ = e_ ++ t_ ∧ (imq (G1_.length ≤ 1001) (rwv (S_.2.2.1 139 0) (8 * a_.toNat) (d_ ++ r_) ∧ rwv (S_.2.2.1 139 0) (8 * b_.toNat) y_)) ∧ G_.length ≤ G1_.length ∧ (g_z2 (g_bw F_ kk_) G_ x_ y_) = (d_ ++ (g_z2 (g_bw F_ kk_) G1_ r_ t_).1, (g_z2 (g_bw F_ kk_) G1_ r_ t_).2)) ∧ (∀ j_ : Nat, j_ < 8 * a_.toNat ∨ 8 * a_.toNat + 8 ≤ j_ → S_.2.2.1 139 0 j_ = S0_.2.2.1 139 0 j_) ∧ True) → ((nb_ - k_).toNat) < nn_ → sm_T (mt_P sc_) 3 331 (17, [some (.inr (.inr (some (13, 0)))), some (.inl s_), some (.inl a_), some (.inl b_), some (.inl nb_), some (.inl cy_), some (.inl sa_), some (.inl k_), none, none, none, none, none], [], S_) (fun ro9_ => ∃ u_ S1_, ro9_ = (.inl u_, S1_, 0) ∧ vq_331w s_ a_ b_ F_ G_ x_ y_ kk_ S0_ u_ S1_)) := by
  intro nn_
  induction nn_ with
  | zero => exact fun _ _ _ _ _ _ _ _ h_ => absurd h_ (Nat.not_lt_zero _)
  | succ nn_ ih_ =>
    rintro nb_ cy_ sa_ k_ S_ hI_ hF_ ⟨h0_, hb0_, h1_, h2_, -⟩ hm_
    obtain ⟨G1_, d_, r_, e_, t_, z1_, z2_, z2b, z3_, z4_, z5_, z6_, z7_, z8_⟩ := h1_
    refine sm_T_go 2 (c1 := (21, [some (.inr (.inr (some (13, 0)))), some (.inl s_), some (.inl a_), some (.inl b_), some (.inl nb_), some (.inl cy_), some (.inl sa_), some (.inl k_), none, none, none, none, none], [.inl nb_, .inl k_], S_)) rfl ?_
    refine sm_T_br (a := 3) (z := 198) rfl (fun cx1_ => ?_) (fun cx1_ => ?_)
    · have cx1_ : nb_ ≤ k_ := of_decide_eq_true cx1_
      refine sm_T_go 4 (c1 := (226, [some (.inr (.inr (some (13, 0)))), some (.inl s_), some (.inl a_), some (.inl b_), some (.inl nb_), some (.inl cy_), some (.inl sa_), some (.inl k_), none, none, none, none, none], [.inl a_, .inl 8, .inr (.inr (some (139, 0)))], S_)) rfl ?_
      refine sm_T_bin (w := 8 * a_) rfl (bi_mul (by omega) (by omega) (by omega)) ?_
      refine sm_T_go 2 (c1 := (231, [some (.inr (.inr (some (13, 0)))), some (.inl s_), some (.inl a_), some (.inl b_), some (.inl nb_), some (.inl cy_), some (.inl sa_), some (.inl k_), none, none, none, none, none], [.inl 257, .inl s_, .inl (8 * a_), .inr (.inr (some (139, 0)))], S_)) rfl ?_
      refine sm_T_br (a := 1) (z := 8) rfl (fun cx2_ => ?_) (fun cx2_ => ?_)
      · have cx2_ : s_ ≠ 257 := of_decide_eq_true cx2_
        refine sm_T_go 4 (c1 := (246, [some (.inr (.inr (some (13, 0)))), some (.inl s_), some (.inl a_), some (.inl b_), some (.inl nb_), some (.inl cy_), some (.inl sa_), some (.inl k_), none, none, none, none, none], [.inl a_, .inl 8, .inr (.inr (some (139, 0))), .inl (8 * a_), .inr (.inr (some (139, 0)))], S_)) rfl ?_
        refine sm_T_bin (w := 8 * a_) rfl (bi_mul (by omega) (by omega) (by omega)) ?_
        refine sm_T_iald (n := 8192) rfl rfl (by omega) (by omega) ?_
        have bx3_ : 0 ≤ S_.2.2.1 139 0 (8 * a_).toNat ∧ S_.2.2.1 139 0 (8 * a_).toNat ≤ 2047 := hI_.2 139 0 _
        refine sm_T_iast (n := 8192) rfl rfl (by omega) (by omega) ?_
        have hIx4_ : gi (sm_aI S_ 139 0 (8 * a_).toNat (S_.2.2.1 139 0 (8 * a_).toNat)) := gi_aI hI_ (show 0 ≤ (S_.2.2.1 139 0 (8 * a_).toNat) ∧ (S_.2.2.1 139 0 (8 * a_).toNat) ≤ 2047 from ⟨by omega, by omega⟩)
        have hFx5_ : ai_fr (sx_W vw_331w) S0_ (sm_aI S_ 139 0 (8 * a_).toNat (S_.2.2.1 139 0 (8 * a_).toNat)) := ai_fr_tr hF_ (ai_fr_aI rfl)
        refine sm_T_rv rfl ⟨_, _, rfl, rfl, hIx4_, hFx5_, ?_⟩
        have kr_ : r_ = [] := List.eq_nil_of_length_eq_zero (by omega)
        have ks_ : t_ = [] := List.eq_nil_of_length_eq_zero (by omega)
        rw [kr_, ks_] at z8_
        have q8_ : g_z2 (g_bw F_ kk_) G1_ [] [] = ([], G1_) := rfl
        rw [q8_, List.append_nil] at z8_
        rw [g_opw (by omega) (by omega), z8_]
        refine ⟨rgl_st z1_, fun z_ => ?_, fun j_ hj_ => ?_⟩
        · have q9_ := (z6_ z_).1; rw [kr_, List.append_nil] at q9_; exact rwv_cg q9_ (fun j9_ _ => rd_self)
        · rw [rd_self]; exact h2_ j_ hj_
      · have cx2_ : ¬ (s_ ≠ 257) := of_decide_eq_false cx2_
        exfalso; omega
    · have cx1_ : ¬ (nb_ ≤ k_) := of_decide_eq_false cx1_
      obtain ⟨r0_, r_, rfl⟩ : ∃ r0_ r1_, r_ = r0_ :: r1_ := by cases r_ with | nil => (simp only [List.length_nil] at z4_; omega) | cons p_ q_ => exact ⟨p_, q_, rfl⟩
      obtain ⟨s0_, t_, rfl⟩ : ∃ s0_ s1_, t_ = s0_ :: s1_ := by cases t_ with | nil => (simp only [List.length_nil, List.length_cons] at z3_ z4_; omega) | cons p_ q_ => exact ⟨p_, q_, rfl⟩
      have rx : imq (G1_.length ≤ 1001) (S_.2.2.1 139 0 (8 * a_ + k_).toNat = r0_ ∧ S_.2.2.1 139 0 (8 * b_ + k_).toNat = s0_) := fun z_ => by rw [show (8 * a_ + k_).toNat = 8 * a_.toNat + d_.length by omega, show (8 * b_ + k_).toNat = 8 * b_.toNat + e_.length by omega]; exact ⟨rwv_m (z6_ z_).1, rwv_m (by rw [← z5_]; exact (z6_ z_).2)⟩
      refine sm_T_go 4 (c1 := (31, [some (.inr (.inr (some (13, 0)))), some (.inl s_), some (.inl a_), some (.inl b_), some (.inl nb_), some (.inl cy_), some (.inl sa_), some (.inl k_), none, none, none, none, none], [.inl a_, .inl 8, .inr (.inr (some (139, 0)))], S_)) rfl ?_
      refine sm_T_bin (w := 8 * a_) rfl (bi_mul (by omega) (by omega) (by omega)) ?_
      refine sm_T_go 1 (c1 := (34, [some (.inr (.inr (some (13, 0)))), some (.inl s_), some (.inl a_), some (.inl b_), some (.inl nb_), some (.inl cy_), some (.inl sa_), some (.inl k_), none, none, none, none, none], [.inl k_, .inl (8 * a_), .inr (.inr (some (139, 0)))], S_)) rfl ?_
      refine sm_T_bin (w := 8 * a_ + k_) rfl (bi_add (by omega) (by omega) (by omega)) ?_
      refine sm_T_iald (n := 8192) rfl rfl (by omega) (by omega) ?_
      have bx6_ : 0 ≤ S_.2.2.1 139 0 (8 * a_ + k_).toNat ∧ S_.2.2.1 139 0 (8 * a_ + k_).toNat ≤ 2047 := hI_.2 139 0 _
      refine sm_T_go 5 (c1 := (45, [some (.inr (.inr (some (13, 0)))), some (.inl s_), some (.inl a_), some (.inl b_), some (.inl nb_), some (.inl cy_), some (.inl sa_), some (.inl k_), some (.inl (S_.2.2.1 139 0 (8 * a_ + k_).toNat)), none, none, none, none], [.inl b_, .inl 8, .inr (.inr (some (139, 0)))], S_)) rfl ?_
      refine sm_T_bin (w := 8 * b_) rfl (bi_mul (by omega) (by omega) (by omega)) ?_
      refine sm_T_go 1 (c1 := (48, [some (.inr (.inr (some (13, 0)))), some (.inl s_), some (.inl a_), some (.inl b_), some (.inl nb_), some (.inl cy_), some (.inl sa_), some (.inl k_), some (.inl (S_.2.2.1 139 0 (8 * a_ + k_).toNat)), none, none, none, none], [.inl k_, .inl (8 * b_), .inr (.inr (some (139, 0)))], S_)) rfl ?_
      refine sm_T_bin (w := 8 * b_ + k_) rfl (bi_add (by omega) (by omega) (by omega)) ?_
      refine sm_T_iald (n := 8192) rfl rfl (by omega) (by omega) ?_
      have bx7_ : 0 ≤ S_.2.2.1 139 0 (8 * b_ + k_).toNat ∧ S_.2.2.1 139 0 (8 * b_ + k_).toNat ≤ 2047 := hI_.2 139 0 _
      refine sm_T_go 5 (c1 := (58, [some (.inr (.inr (some (13, 0)))), some (.inl s_), some (.inl a_), some (.inl b_), some (.inl nb_), some (.inl cy_), some (.inl sa_), some (.inl k_), some (.inl (S_.2.2.1 139 0 (8 * a_ + k_).toNat)), some (.inl (S_.2.2.1 139 0 (8 * b_ + k_).toNat)), some (.inl 0), none, none], [.inl 38, .inl s_], S_)) rfl ?_
      refine sm_T_br (a := 1) (z := 16) rfl (fun cx8_ => ?_) (fun cx8_ => ?_)
      · have cx8_ : s_ ≠ 38 := of_decide_eq_true cx8_
        refine sm_T_go 2 (c1 := (77, [some (.inr (.inr (some (13, 0)))), some (.inl s_), some (.inl a_), some (.inl b_), some (.inl nb_), some (.inl cy_), some (.inl sa_), some (.inl k_), some (.inl (S_.2.2.1 139 0 (8 * a_ + k_).toNat)), some (.inl (S_.2.2.1 139 0 (8 * b_ + k_).toNat)), some (.inl 0), none, none], [.inl 124, .inl s_], S_)) rfl ?_
        refine sm_T_br (a := 1) (z := 16) rfl (fun cx9_ => ?_) (fun cx9_ => ?_)
        · have cx9_ : s_ ≠ 124 := of_decide_eq_true cx9_
          refine sm_T_go 2 (c1 := (96, [some (.inr (.inr (some (13, 0)))), some (.inl s_), some (.inl a_), some (.inl b_), some (.inl nb_), some (.inl cy_), some (.inl sa_), some (.inl k_), some (.inl (S_.2.2.1 139 0 (8 * a_ + k_).toNat)), some (.inl (S_.2.2.1 139 0 (8 * b_ + k_).toNat)), some (.inl 0), none, none], [.inl 94, .inl s_], S_)) rfl ?_
          refine sm_T_br (a := 1) (z := 16) rfl (fun cx10_ => ?_) (fun cx10_ => ?_)
          · have cx10_ : s_ ≠ 94 := of_decide_eq_true cx10_
            refine sm_T_go 2 (c1 := (115, [some (.inr (.inr (some (13, 0)))), some (.inl s_), some (.inl a_), some (.inl b_), some (.inl nb_), some (.inl cy_), some (.inl sa_), some (.inl k_), some (.inl (S_.2.2.1 139 0 (8 * a_ + k_).toNat)), some (.inl (S_.2.2.1 139 0 (8 * b_ + k_).toNat)), some (.inl 0), none, none], [.inl 43, .inl s_], S_)) rfl ?_
            refine sm_T_br (a := 1) (z := 52) rfl (fun cx11_ => ?_) (fun cx11_ => ?_)
            · have cx11_ : s_ ≠ 43 := of_decide_eq_true cx11_
              exfalso; omega
            · have cx11_ : ¬ (s_ ≠ 43) := of_decide_eq_false cx11_
              exfalso; omega
          · have cx10_ : ¬ (s_ ≠ 94) := of_decide_eq_false cx10_
            refine sm_T_go 3 (c1 := (104, [some (.inr (.inr (some (13, 0)))), some (.inl s_), some (.inl a_), some (.inl b_), some (.inl nb_), some (.inl cy_), some (.inl sa_), some (.inl k_), some (.inl (S_.2.2.1 139 0 (8 * a_ + k_).toNat)), some (.inl (S_.2.2.1 139 0 (8 * b_ + k_).toNat)), some (.inl 0), none, none], [.inl (S_.2.2.1 139 0 (8 * b_ + k_).toNat), .inl (S_.2.2.1 139 0 (8 * a_ + k_).toNat), .inr (.inr (some (13, 0)))], S_)) rfl ?_
            refine sm_T_cal (d1 := 2) (Q1 := vq_330 (S_.2.2.1 139 0 (8 * a_ + k_).toNat) (S_.2.2.1 139 0 (8 * b_ + k_).toNat) F_ G1_ r0_ s0_ S_) rfl rfl (by decide) (vc_330 (S_.2.2.1 139 0 (8 * a_ + k_).toNat) (S_.2.2.1 139 0 (8 * b_ + k_).toNat) F_ G1_ r0_ s0_ S_ hI_ (by exact z1_) (by omega) (by omega) (by exact rx)) (fun u_ Sx12_ px15_ => ?_)
            obtain ⟨vx17_, rfl, hIx13_, hFx14_, px15_⟩ := px15_
            have hFx16_ : ai_fr (sx_W vw_331w) S0_ Sx12_ := ai_fr_tr hF_ (fr_le hFx14_ rfl)
            have e9_ : rgl F_ (g_bw F_ kk_ G1_ r0_ s0_).2 Sx12_ ∧ (imq ((g_bw F_ kk_ G1_ r0_ s0_).2.length ≤ 1001) (vx17_ = (g_bw F_ kk_ G1_ r0_ s0_).1)) ∧ (0 ≤ vx17_ ∧ vx17_ ≤ 2047) := by rw [g_bw2 (by omega) (by omega)]; exact px15_
            have f9_ : Sx12_.2.2.1 139 0 = S_.2.2.1 139 0 := fr_arr hFx14_ rfl
            have g9_ : ∀ z9_ : Int, ∀ j9_ : Nat, (sm_aI Sx12_ 139 0 (8 * a_ + k_).toNat z9_).2.2.1 139 0 j9_ = if j9_ = (8 * a_ + k_).toNat then z9_ else S_.2.2.1 139 0 j9_ := fun z9_ j9_ => by rw [rd_eq, f9_]
            have l1_ := g_bw_le (F_ := F_) (k_ := kk_) G1_ r0_ s0_
            refine sm_T_go 6 (c1 := (206, [some (.inr (.inr (some (13, 0)))), some (.inl s_), some (.inl a_), some (.inl b_), some (.inl nb_), some (.inl cy_), some (.inl sa_), some (.inl k_), some (.inl (S_.2.2.1 139 0 (8 * a_ + k_).toNat)), some (.inl (S_.2.2.1 139 0 (8 * b_ + k_).toNat)), some (.inl vx17_), none, none], [.inl a_, .inl 8, .inr (.inr (some (139, 0)))], Sx12_)) rfl ?_
            refine sm_T_bin (w := 8 * a_) rfl (bi_mul (by omega) (by omega) (by omega)) ?_
            refine sm_T_go 1 (c1 := (209, [some (.inr (.inr (some (13, 0)))), some (.inl s_), some (.inl a_), some (.inl b_), some (.inl nb_), some (.inl cy_), some (.inl sa_), some (.inl k_), some (.inl (S_.2.2.1 139 0 (8 * a_ + k_).toNat)), some (.inl (S_.2.2.1 139 0 (8 * b_ + k_).toNat)), some (.inl vx17_), none, none], [.inl k_, .inl (8 * a_), .inr (.inr (some (139, 0)))], Sx12_)) rfl ?_
            refine sm_T_bin (w := 8 * a_ + k_) rfl (bi_add (by omega) (by omega) (by omega)) ?_
            refine sm_T_go 1 (c1 := (212, [some (.inr (.inr (some (13, 0)))), some (.inl s_), some (.inl a_), some (.inl b_), some (.inl nb_), some (.inl cy_), some (.inl sa_), some (.inl k_), some (.inl (S_.2.2.1 139 0 (8 * a_ + k_).toNat)), some (.inl (S_.2.2.1 139 0 (8 * b_ + k_).toNat)), some (.inl vx17_), none, none], [.inl vx17_, .inl (8 * a_ + k_), .inr (.inr (some (139, 0)))], Sx12_)) rfl ?_
            refine sm_T_iast (n := 8192) rfl rfl (by omega) (by omega) ?_
            have hIx18_ : gi (sm_aI Sx12_ 139 0 (8 * a_ + k_).toNat vx17_) := gi_aI hIx13_ (show 0 ≤ vx17_ ∧ vx17_ ≤ 2047 from ⟨by omega, by omega⟩)
            have hFx19_ : ai_fr (sx_W vw_331w) S0_ (sm_aI Sx12_ 139 0 (8 * a_ + k_).toNat vx17_) := ai_fr_tr hFx16_ (ai_fr_aI rfl)
            refine sm_T_inc (a := 7) (z := 1) (v := k_) (w := k_ + 1) rfl rfl (by omega) (by omega) (by omega) ?_
            refine sm_T_go 1 (c1 := (17, [some (.inr (.inr (some (13, 0)))), some (.inl s_), some (.inl a_), some (.inl b_), some (.inl nb_), some (.inl cy_), some (.inl sa_), some (.inl (k_ + 1)), some (.inl (S_.2.2.1 139 0 (8 * a_ + k_).toNat)), some (.inl (S_.2.2.1 139 0 (8 * b_ + k_).toNat)), some (.inl vx17_), none, none], [], sm_aI Sx12_ 139 0 (8 * a_ + k_).toNat vx17_)) rfl ?_
            refine sm_T_wk [some (.inr (.inr (some (13, 0)))), some (.inl s_), some (.inl a_), some (.inl b_), some (.inl nb_), some (.inl cy_), some (.inl sa_), some (.inl (k_ + 1)), none, none, none, none, none] (by exact ⟨rfl, rfl, rfl, rfl, rfl, rfl, rfl, rfl, trivial⟩) ?_
            refine ih_ nb_ cy_ sa_ (k_ + 1) (sm_aI Sx12_ 139 0 (8 * a_ + k_).toNat vx17_) hIx18_ hFx19_ ⟨?_, ?_, ?_, ?_, trivial⟩ ?_
            · omega
            · omega
            · refine ⟨(g_bw F_ kk_ G1_ r0_ s0_).2, d_ ++ [(g_bw F_ kk_ G1_ r0_ s0_).1], r_, e_ ++ [s0_], t_, rgl_st e9_.1, ?_, ?_, ?_, ?_, ?_, fun z_ => ?_, by omega, ?_⟩
              · simp only [List.length_append, List.length_cons, List.length_nil]; push_cast; omega
              · simp only [List.length_append, List.length_cons, List.length_nil]; push_cast; omega
              · simp only [List.length_cons] at z3_; omega
              · simp only [List.length_cons] at z4_; push_cast at z4_; omega
              · rw [z5_, List.append_assoc]; rfl
              · have q1_ := z6_ (by omega)
                refine ⟨?_, ?_⟩
                · exact rwv_set (q_ := (8 * a_ + k_).toNat) q1_.1 (by omega) (fun j9_ => by rw [g9_, e9_.2.1 z_])
                · exact rwv_cg q1_.2 (fun j9_ hj_ => by rw [g9_, if_neg (by omega)])
              · rw [z8_]; exact g_z2_c
            · intro j_ hj_
              rw [g9_, if_neg (by omega)]
              exact h2_ j_ hj_
            · omega
        · have cx9_ : ¬ (s_ ≠ 124) := of_decide_eq_false cx9_
          refine sm_T_go 3 (c1 := (85, [some (.inr (.inr (some (13, 0)))), some (.inl s_), some (.inl a_), some (.inl b_), some (.inl nb_), some (.inl cy_), some (.inl sa_), some (.inl k_), some (.inl (S_.2.2.1 139 0 (8 * a_ + k_).toNat)), some (.inl (S_.2.2.1 139 0 (8 * b_ + k_).toNat)), some (.inl 0), none, none], [.inl (S_.2.2.1 139 0 (8 * b_ + k_).toNat), .inl (S_.2.2.1 139 0 (8 * a_ + k_).toNat), .inr (.inr (some (13, 0)))], S_)) rfl ?_
          refine sm_T_cal (d1 := 1) (Q1 := vq_329 (S_.2.2.1 139 0 (8 * a_ + k_).toNat) (S_.2.2.1 139 0 (8 * b_ + k_).toNat) F_ G1_ r0_ s0_ S_) rfl rfl (by decide) (vc_329 (S_.2.2.1 139 0 (8 * a_ + k_).toNat) (S_.2.2.1 139 0 (8 * b_ + k_).toNat) F_ G1_ r0_ s0_ S_ hI_ (by exact z1_) (by omega) (by omega) (by exact rx)) (fun u_ Sx20_ px23_ => ?_)
          obtain ⟨vx25_, rfl, hIx21_, hFx22_, px23_⟩ := px23_
          have hFx24_ : ai_fr (sx_W vw_331w) S0_ Sx20_ := ai_fr_tr hF_ (fr_le hFx22_ rfl)
          have e9_ : rgl F_ (g_bw F_ kk_ G1_ r0_ s0_).2 Sx20_ ∧ (imq ((g_bw F_ kk_ G1_ r0_ s0_).2.length ≤ 1001) (vx25_ = (g_bw F_ kk_ G1_ r0_ s0_).1)) ∧ (0 ≤ vx25_ ∧ vx25_ ≤ 2047) := by rw [show kk_ = 1 by omega, g_bw1]; exact px23_
          have f9_ : Sx20_.2.2.1 139 0 = S_.2.2.1 139 0 := fr_arr hFx22_ rfl
          have g9_ : ∀ z9_ : Int, ∀ j9_ : Nat, (sm_aI Sx20_ 139 0 (8 * a_ + k_).toNat z9_).2.2.1 139 0 j9_ = if j9_ = (8 * a_ + k_).toNat then z9_ else S_.2.2.1 139 0 j9_ := fun z9_ j9_ => by rw [rd_eq, f9_]
          have l1_ := g_bw_le (F_ := F_) (k_ := kk_) G1_ r0_ s0_
          refine sm_T_go 6 (c1 := (206, [some (.inr (.inr (some (13, 0)))), some (.inl s_), some (.inl a_), some (.inl b_), some (.inl nb_), some (.inl cy_), some (.inl sa_), some (.inl k_), some (.inl (S_.2.2.1 139 0 (8 * a_ + k_).toNat)), some (.inl (S_.2.2.1 139 0 (8 * b_ + k_).toNat)), some (.inl vx25_), none, none], [.inl a_, .inl 8, .inr (.inr (some (139, 0)))], Sx20_)) rfl ?_
          refine sm_T_bin (w := 8 * a_) rfl (bi_mul (by omega) (by omega) (by omega)) ?_
          refine sm_T_go 1 (c1 := (209, [some (.inr (.inr (some (13, 0)))), some (.inl s_), some (.inl a_), some (.inl b_), some (.inl nb_), some (.inl cy_), some (.inl sa_), some (.inl k_), some (.inl (S_.2.2.1 139 0 (8 * a_ + k_).toNat)), some (.inl (S_.2.2.1 139 0 (8 * b_ + k_).toNat)), some (.inl vx25_), none, none], [.inl k_, .inl (8 * a_), .inr (.inr (some (139, 0)))], Sx20_)) rfl ?_
          refine sm_T_bin (w := 8 * a_ + k_) rfl (bi_add (by omega) (by omega) (by omega)) ?_
          refine sm_T_go 1 (c1 := (212, [some (.inr (.inr (some (13, 0)))), some (.inl s_), some (.inl a_), some (.inl b_), some (.inl nb_), some (.inl cy_), some (.inl sa_), some (.inl k_), some (.inl (S_.2.2.1 139 0 (8 * a_ + k_).toNat)), some (.inl (S_.2.2.1 139 0 (8 * b_ + k_).toNat)), some (.inl vx25_), none, none], [.inl vx25_, .inl (8 * a_ + k_), .inr (.inr (some (139, 0)))], Sx20_)) rfl ?_
          refine sm_T_iast (n := 8192) rfl rfl (by omega) (by omega) ?_
          have hIx26_ : gi (sm_aI Sx20_ 139 0 (8 * a_ + k_).toNat vx25_) := gi_aI hIx21_ (show 0 ≤ vx25_ ∧ vx25_ ≤ 2047 from ⟨by omega, by omega⟩)
          have hFx27_ : ai_fr (sx_W vw_331w) S0_ (sm_aI Sx20_ 139 0 (8 * a_ + k_).toNat vx25_) := ai_fr_tr hFx24_ (ai_fr_aI rfl)
          refine sm_T_inc (a := 7) (z := 1) (v := k_) (w := k_ + 1) rfl rfl (by omega) (by omega) (by omega) ?_
          refine sm_T_go 1 (c1 := (17, [some (.inr (.inr (some (13, 0)))), some (.inl s_), some (.inl a_), some (.inl b_), some (.inl nb_), some (.inl cy_), some (.inl sa_), some (.inl (k_ + 1)), some (.inl (S_.2.2.1 139 0 (8 * a_ + k_).toNat)), some (.inl (S_.2.2.1 139 0 (8 * b_ + k_).toNat)), some (.inl vx25_), none, none], [], sm_aI Sx20_ 139 0 (8 * a_ + k_).toNat vx25_)) rfl ?_
          refine sm_T_wk [some (.inr (.inr (some (13, 0)))), some (.inl s_), some (.inl a_), some (.inl b_), some (.inl nb_), some (.inl cy_), some (.inl sa_), some (.inl (k_ + 1)), none, none, none, none, none] (by exact ⟨rfl, rfl, rfl, rfl, rfl, rfl, rfl, rfl, trivial⟩) ?_
          refine ih_ nb_ cy_ sa_ (k_ + 1) (sm_aI Sx20_ 139 0 (8 * a_ + k_).toNat vx25_) hIx26_ hFx27_ ⟨?_, ?_, ?_, ?_, trivial⟩ ?_
          · omega
          · omega
          · refine ⟨(g_bw F_ kk_ G1_ r0_ s0_).2, d_ ++ [(g_bw F_ kk_ G1_ r0_ s0_).1], r_, e_ ++ [s0_], t_, rgl_st e9_.1, ?_, ?_, ?_, ?_, ?_, fun z_ => ?_, by omega, ?_⟩
            · simp only [List.length_append, List.length_cons, List.length_nil]; push_cast; omega
            · simp only [List.length_append, List.length_cons, List.length_nil]; push_cast; omega
            · simp only [List.length_cons] at z3_; omega
            · simp only [List.length_cons] at z4_; push_cast at z4_; omega
            · rw [z5_, List.append_assoc]; rfl
            · have q1_ := z6_ (by omega)
              refine ⟨?_, ?_⟩
              · exact rwv_set (q_ := (8 * a_ + k_).toNat) q1_.1 (by omega) (fun j9_ => by rw [g9_, e9_.2.1 z_])
              · exact rwv_cg q1_.2 (fun j9_ hj_ => by rw [g9_, if_neg (by omega)])
            · rw [z8_]; exact g_z2_c
          · intro j_ hj_
            rw [g9_, if_neg (by omega)]
            exact h2_ j_ hj_
          · omega
      · have cx8_ : ¬ (s_ ≠ 38) := of_decide_eq_false cx8_
        refine sm_T_go 3 (c1 := (66, [some (.inr (.inr (some (13, 0)))), some (.inl s_), some (.inl a_), some (.inl b_), some (.inl nb_), some (.inl cy_), some (.inl sa_), some (.inl k_), some (.inl (S_.2.2.1 139 0 (8 * a_ + k_).toNat)), some (.inl (S_.2.2.1 139 0 (8 * b_ + k_).toNat)), some (.inl 0), none, none], [.inl (S_.2.2.1 139 0 (8 * b_ + k_).toNat), .inl (S_.2.2.1 139 0 (8 * a_ + k_).toNat), .inr (.inr (some (13, 0)))], S_)) rfl ?_
        refine sm_T_cal (d1 := 0) (Q1 := vq_328 (S_.2.2.1 139 0 (8 * a_ + k_).toNat) (S_.2.2.1 139 0 (8 * b_ + k_).toNat) F_ G1_ r0_ s0_ S_) rfl rfl (by decide) (vc_328 (S_.2.2.1 139 0 (8 * a_ + k_).toNat) (S_.2.2.1 139 0 (8 * b_ + k_).toNat) F_ G1_ r0_ s0_ S_ hI_ (by exact z1_) (by omega) (by omega) (by exact rx)) (fun u_ Sx28_ px31_ => ?_)
        obtain ⟨vx33_, rfl, hIx29_, hFx30_, px31_⟩ := px31_
        have hFx32_ : ai_fr (sx_W vw_331w) S0_ Sx28_ := ai_fr_tr hF_ (fr_le hFx30_ rfl)
        have e9_ : rgl F_ (g_bw F_ kk_ G1_ r0_ s0_).2 Sx28_ ∧ (imq ((g_bw F_ kk_ G1_ r0_ s0_).2.length ≤ 1001) (vx33_ = (g_bw F_ kk_ G1_ r0_ s0_).1)) ∧ (0 ≤ vx33_ ∧ vx33_ ≤ 2047) := by rw [show kk_ = 3 by omega, g_bw3]; exact px31_
        have f9_ : Sx28_.2.2.1 139 0 = S_.2.2.1 139 0 := fr_arr hFx30_ rfl
        have g9_ : ∀ z9_ : Int, ∀ j9_ : Nat, (sm_aI Sx28_ 139 0 (8 * a_ + k_).toNat z9_).2.2.1 139 0 j9_ = if j9_ = (8 * a_ + k_).toNat then z9_ else S_.2.2.1 139 0 j9_ := fun z9_ j9_ => by rw [rd_eq, f9_]
        have l1_ := g_bw_le (F_ := F_) (k_ := kk_) G1_ r0_ s0_
        refine sm_T_go 6 (c1 := (206, [some (.inr (.inr (some (13, 0)))), some (.inl s_), some (.inl a_), some (.inl b_), some (.inl nb_), some (.inl cy_), some (.inl sa_), some (.inl k_), some (.inl (S_.2.2.1 139 0 (8 * a_ + k_).toNat)), some (.inl (S_.2.2.1 139 0 (8 * b_ + k_).toNat)), some (.inl vx33_), none, none], [.inl a_, .inl 8, .inr (.inr (some (139, 0)))], Sx28_)) rfl ?_
        refine sm_T_bin (w := 8 * a_) rfl (bi_mul (by omega) (by omega) (by omega)) ?_
        refine sm_T_go 1 (c1 := (209, [some (.inr (.inr (some (13, 0)))), some (.inl s_), some (.inl a_), some (.inl b_), some (.inl nb_), some (.inl cy_), some (.inl sa_), some (.inl k_), some (.inl (S_.2.2.1 139 0 (8 * a_ + k_).toNat)), some (.inl (S_.2.2.1 139 0 (8 * b_ + k_).toNat)), some (.inl vx33_), none, none], [.inl k_, .inl (8 * a_), .inr (.inr (some (139, 0)))], Sx28_)) rfl ?_
        refine sm_T_bin (w := 8 * a_ + k_) rfl (bi_add (by omega) (by omega) (by omega)) ?_
        refine sm_T_go 1 (c1 := (212, [some (.inr (.inr (some (13, 0)))), some (.inl s_), some (.inl a_), some (.inl b_), some (.inl nb_), some (.inl cy_), some (.inl sa_), some (.inl k_), some (.inl (S_.2.2.1 139 0 (8 * a_ + k_).toNat)), some (.inl (S_.2.2.1 139 0 (8 * b_ + k_).toNat)), some (.inl vx33_), none, none], [.inl vx33_, .inl (8 * a_ + k_), .inr (.inr (some (139, 0)))], Sx28_)) rfl ?_
        refine sm_T_iast (n := 8192) rfl rfl (by omega) (by omega) ?_
        have hIx34_ : gi (sm_aI Sx28_ 139 0 (8 * a_ + k_).toNat vx33_) := gi_aI hIx29_ (show 0 ≤ vx33_ ∧ vx33_ ≤ 2047 from ⟨by omega, by omega⟩)
        have hFx35_ : ai_fr (sx_W vw_331w) S0_ (sm_aI Sx28_ 139 0 (8 * a_ + k_).toNat vx33_) := ai_fr_tr hFx32_ (ai_fr_aI rfl)
        refine sm_T_inc (a := 7) (z := 1) (v := k_) (w := k_ + 1) rfl rfl (by omega) (by omega) (by omega) ?_
        refine sm_T_go 1 (c1 := (17, [some (.inr (.inr (some (13, 0)))), some (.inl s_), some (.inl a_), some (.inl b_), some (.inl nb_), some (.inl cy_), some (.inl sa_), some (.inl (k_ + 1)), some (.inl (S_.2.2.1 139 0 (8 * a_ + k_).toNat)), some (.inl (S_.2.2.1 139 0 (8 * b_ + k_).toNat)), some (.inl vx33_), none, none], [], sm_aI Sx28_ 139 0 (8 * a_ + k_).toNat vx33_)) rfl ?_
        refine sm_T_wk [some (.inr (.inr (some (13, 0)))), some (.inl s_), some (.inl a_), some (.inl b_), some (.inl nb_), some (.inl cy_), some (.inl sa_), some (.inl (k_ + 1)), none, none, none, none, none] (by exact ⟨rfl, rfl, rfl, rfl, rfl, rfl, rfl, rfl, trivial⟩) ?_
        refine ih_ nb_ cy_ sa_ (k_ + 1) (sm_aI Sx28_ 139 0 (8 * a_ + k_).toNat vx33_) hIx34_ hFx35_ ⟨?_, ?_, ?_, ?_, trivial⟩ ?_
        · omega
        · omega
        · refine ⟨(g_bw F_ kk_ G1_ r0_ s0_).2, d_ ++ [(g_bw F_ kk_ G1_ r0_ s0_).1], r_, e_ ++ [s0_], t_, rgl_st e9_.1, ?_, ?_, ?_, ?_, ?_, fun z_ => ?_, by omega, ?_⟩
          · simp only [List.length_append, List.length_cons, List.length_nil]; push_cast; omega
          · simp only [List.length_append, List.length_cons, List.length_nil]; push_cast; omega
          · simp only [List.length_cons] at z3_; omega
          · simp only [List.length_cons] at z4_; push_cast at z4_; omega
          · rw [z5_, List.append_assoc]; rfl
          · have q1_ := z6_ (by omega)
            refine ⟨?_, ?_⟩
            · exact rwv_set (q_ := (8 * a_ + k_).toNat) q1_.1 (by omega) (fun j9_ => by rw [g9_, e9_.2.1 z_])
            · exact rwv_cg q1_.2 (fun j9_ hj_ => by rw [g9_, if_neg (by omega)])
          · rw [z8_]; exact g_z2_c
        · intro j_ hj_
          rw [g9_, if_neg (by omega)]
          exact h2_ j_ hj_
        · omega
set_option maxHeartbeats 1500000 in
set_option maxRecDepth 20000 in
theorem vc_331w {sc_ : Nat × (Nat → Int)} (s_ : Int) (a_ : Int) (b_ : Int) (F_ : Nat) (G_ : pGr) (x_ : List Int) (y_ : List Int) (kk_ : Int) (S0_ : sm_S) (hI_ : gi S0_) (hg_ : rgl F_ G_ S0_) (ha_ : 0 ≤ a_ ∧ a_ + 1 ≤ b_ ∧ b_ ≤ 1023) (hw_ : S0_.2.2.1 138 0 a_.toNat = (x_.length : Int)) (hn_ : x_.length = y_.length ∧ 1 ≤ x_.length ∧ x_.length ≤ 8) (hr_ : imq (G_.length ≤ 1001) (rwv (S0_.2.2.1 139 0) (8 * a_.toNat) x_ ∧ rwv (S0_.2.2.1 139 0) (8 * b_.toNat) y_)) (hs_ : (s_ = 124 ∧ kk_ = 1) ∨ (s_ = 94 ∧ kk_ = 2) ∨ (s_ = 38 ∧ kk_ = 3)) : sm_T (mt_P sc_) 3 331 (0, [some (.inr (.inr (some (13, 0)))), some (.inl s_), some (.inl a_), some (.inl b_), none, none, none, none, none, none, none, none, none], [], S0_) (fun ro9_ => ∃ u_ S1_, ro9_ = (.inl u_, S1_, 0) ∧ vq_331w s_ a_ b_ F_ G_ x_ y_ kk_ S0_ u_ S1_) := by
  have hF_ : ai_fr (sx_W vw_331w) S0_ S0_ := ai_fr_rf
  refine sm_T_go 3 (c1 := (5, [some (.inr (.inr (some (13, 0)))), some (.inl s_), some (.inl a_), some (.inl b_), none, none, none, none, none, none, none, none, none], [.inl a_, .inr (.inr (some (138, 0)))], S0_)) rfl ?_
  refine sm_T_iald (n := 1024) rfl rfl (by omega) (by omega) ?_
  have bx1_ : (-2147483648) ≤ S0_.2.2.1 138 0 a_.toNat ∧ S0_.2.2.1 138 0 a_.toNat ≤ 2147483647 := hI_.2 138 0 _
  refine sm_T_go 7 (c1 := (17, [some (.inr (.inr (some (13, 0)))), some (.inl s_), some (.inl a_), some (.inl b_), some (.inl (S0_.2.2.1 138 0 a_.toNat)), some (.inl 0), some (.inl 1), some (.inl 0), none, none, none, none, none], [], S0_)) rfl ?_
  refine (vl_331w s_ a_ b_ F_ G_ x_ y_ kk_ S0_ hg_ ha_ hw_ hn_ hr_ hs_ _) (S0_.2.2.1 138 0 a_.toNat) 0 1 0 S0_ hI_ hF_ ⟨?_, ?_, ?_, ?_, trivial⟩ (Nat.lt_succ_self _)
  · omega
  · omega
  · exact ⟨G_, [], x_, [], y_, hg_, rfl, rfl, hn_.1, by omega, rfl, hr_, Nat.le_refl _, rfl⟩
  · (intro j_ hj_; rfl)
end
/-! 99.zc2c -/
section
/-! M_.join -/
def vw_331p : sx_Wl := ([(13, 37)], [139, 140, 141, 142, 143], [])
def vq_331p (s_ : Int) (a_ : Int) (b_ : Int) (F_ : Nat) (G_ : pGr) (x_ : List Int) (y_ : List Int) (S0_ : sm_S) (u_ : Option sm_V) (S1_ : sm_S) : Prop := u_ = none ∧ gi S1_ ∧ ai_fr (sx_W vw_331p) S0_ S1_ ∧ (rgl F_ (g_op F_ 5 G_ x_ y_).2 S1_ ∧ (imq ((g_op F_ 5 G_ x_ y_).2.length ≤ 1001) (rwv (S1_.2.2.1 139 0) (8 * a_.toNat) (g_op F_ 5 G_ x_ y_).1)) ∧ ∀ j_ : Nat, j_ < 8 * a_.toNat ∨ 8 * a_.toNat + 8 ≤ j_ → S1_.2.2.1 139 0 j_ = S0_.2.2.1 139 0 j_)
set_option maxHeartbeats 1500000 in
set_option maxRecDepth 20000 in
theorem vl_331p {sc_ : Nat × (Nat → Int)} (s_ : Int) (a_ : Int) (b_ : Int) (F_ : Nat) (G_ : pGr) (x_ : List Int) (y_ : List Int) (S0_ : sm_S) (hg_ : rgl F_ G_ S0_) (ha_ : 0 ≤ a_ ∧ a_ + 1 ≤ b_ ∧ b_ ≤ 1023) (hw_ : S0_.2.2.1 138 0 a_.toNat = (x_.length : Int)) (hn_ : x_.length = y_.length ∧ 1 ≤ x_.length ∧ x_.length ≤ 8) (hr_ : imq (G_.length ≤ 1001) (rwv (S0_.2.2.1 139 0) (8 * a_.toNat) x_ ∧ rwv (S0_.2.2.1 139 0) (8 * b_.toNat) y_)) (hs_ : s_ = 43) : ∀ nn_ : Nat, (∀ (nb_ : Int) (cy_ : Int) (sa_ : Int) (k_ : Int) (S_ : sm_S), gi S_ → ai_fr (sx_W vw_331p) S0_ S_ → ((0 ≤ k_ ∧ k_ ≤ nb_ ∧ nb_ = (x_.length : Int)) ∧ ((0 ≤ cy_ ∧ cy_ ≤ 2047) ∧ (0 ≤ sa_ ∧ sa_ ≤ 2047)) ∧ (∃ (G1_ : pGr) (c1_ : Int) (d_ r_ e_ t_ : List Int), rgl F_ G1_ S_ ∧ (d_.length : Int) = k_ ∧ (e_.length : Int) = k_ ∧ r_.length = t_.length ∧ k_ + r_.length = nb_ ∧ y_ = e_ ++ t_ ∧ (imq (G1_.length ≤ 1001) (rwv (S_.2.2.1 139 0) (8 * a_.toNat) (d_ ++ r_) ∧ rwv (S_.2.2.1 139 0) (8 * b_.toNat) y_)) ∧ G_.length ≤ G1_.length ∧ (imq (G1_.length ≤ 1001) (cy_ = c1_)) ∧ (g_su F_ G_ 0 x_ y_) = (d_ ++ (g_su F_ G1_ c1_ r_ t_).1, (g_su F_ G1_ c1_ r_ t_).2)) ∧ (∀ j_ : Nat, j_ < 8 * a_.toNat ∨ 8 * a_.toNat + 8 ≤ j_ → S_.2.2.1 139 0 j_ = S0_.2.2.1 139 0 j_) ∧ True) → ((nb_ - k_).toNat) < nn_ → sm_T (mt_P sc_) 3 331 (17, [some (.inr (.inr (some (13, 0)))), some (.inl s_), some (.inl a_), some (.inl b_), some (.inl nb_), some (.inl cy_), some (.inl sa_), some (.inl k_), none, none, none, none, none], [], S_) (fun ro9_ => ∃ u_ S1_, ro9_ = (.inl u_, S1_, 0) ∧ vq_331p s_ a_ b_ F_ G_ x_ y_ S0_ u_ S1_)) := by
  intro nn_
  induction nn_ with
  | zero => exact fun _ _ _ _ _ _ _ _ h_ => absurd h_ (Nat.not_lt_zero _)
  | succ nn_ ih_ =>
    rintro nb_ cy_ sa_ k_ S_ hI_ hF_ ⟨h0_, hb0_, h1_, h2_, -⟩ hm_
    obtain ⟨G1_, c1_, d_, r_, e_, t_, z1_, z2_, z2b, z3_, z4_, z5_, z6_, z7_, zc_, z8_⟩ := h1_
    refine sm_T_go 2 (c1 := (21, [some (.inr (.inr (some (13, 0)))), some (.inl s_), some (.inl a_), some (.inl b_), some (.inl nb_), some (.inl cy_), some (.inl sa_), some (.inl k_), none, none, none, none, none], [.inl nb_, .inl k_], S_)) rfl ?_
    refine sm_T_br (a := 3) (z := 198) rfl (fun cx1_ => ?_) (fun cx1_ => ?_)
    · have cx1_ : nb_ ≤ k_ := of_decide_eq_true cx1_
      refine sm_T_go 4 (c1 := (226, [some (.inr (.inr (some (13, 0)))), some (.inl s_), some (.inl a_), some (.inl b_), some (.inl nb_), some (.inl cy_), some (.inl sa_), some (.inl k_), none, none, none, none, none], [.inl a_, .inl 8, .inr (.inr (some (139, 0)))], S_)) rfl ?_
      refine sm_T_bin (w := 8 * a_) rfl (bi_mul (by omega) (by omega) (by omega)) ?_
      refine sm_T_go 2 (c1 := (231, [some (.inr (.inr (some (13, 0)))), some (.inl s_), some (.inl a_), some (.inl b_), some (.inl nb_), some (.inl cy_), some (.inl sa_), some (.inl k_), none, none, none, none, none], [.inl 257, .inl s_, .inl (8 * a_), .inr (.inr (some (139, 0)))], S_)) rfl ?_
      refine sm_T_br (a := 1) (z := 8) rfl (fun cx2_ => ?_) (fun cx2_ => ?_)
      · have cx2_ : s_ ≠ 257 := of_decide_eq_true cx2_
        refine sm_T_go 4 (c1 := (246, [some (.inr (.inr (some (13, 0)))), some (.inl s_), some (.inl a_), some (.inl b_), some (.inl nb_), some (.inl cy_), some (.inl sa_), some (.inl k_), none, none, none, none, none], [.inl a_, .inl 8, .inr (.inr (some (139, 0))), .inl (8 * a_), .inr (.inr (some (139, 0)))], S_)) rfl ?_
        refine sm_T_bin (w := 8 * a_) rfl (bi_mul (by omega) (by omega) (by omega)) ?_
        refine sm_T_iald (n := 8192) rfl rfl (by omega) (by omega) ?_
        have bx3_ : 0 ≤ S_.2.2.1 139 0 (8 * a_).toNat ∧ S_.2.2.1 139 0 (8 * a_).toNat ≤ 2047 := hI_.2 139 0 _
        refine sm_T_iast (n := 8192) rfl rfl (by omega) (by omega) ?_
        have hIx4_ : gi (sm_aI S_ 139 0 (8 * a_).toNat (S_.2.2.1 139 0 (8 * a_).toNat)) := gi_aI hI_ (show 0 ≤ (S_.2.2.1 139 0 (8 * a_).toNat) ∧ (S_.2.2.1 139 0 (8 * a_).toNat) ≤ 2047 from ⟨by omega, by omega⟩)
        have hFx5_ : ai_fr (sx_W vw_331p) S0_ (sm_aI S_ 139 0 (8 * a_).toNat (S_.2.2.1 139 0 (8 * a_).toNat)) := ai_fr_tr hF_ (ai_fr_aI rfl)
        refine sm_T_rv rfl ⟨_, _, rfl, rfl, hIx4_, hFx5_, ?_⟩
        have kr_ : r_ = [] := List.eq_nil_of_length_eq_zero (by omega)
        have ks_ : t_ = [] := List.eq_nil_of_length_eq_zero (by omega)
        rw [kr_, ks_] at z8_
        have q8_ : g_su F_ G1_ c1_ [] [] = ([], G1_) := rfl
        rw [q8_, List.append_nil] at z8_
        rw [g_op5, z8_]
        refine ⟨rgl_st z1_, fun z_ => ?_, fun j_ hj_ => ?_⟩
        · have q9_ := (z6_ z_).1; rw [kr_, List.append_nil] at q9_; exact rwv_cg q9_ (fun j9_ _ => rd_self)
        · rw [rd_self]; exact h2_ j_ hj_
      · have cx2_ : ¬ (s_ ≠ 257) := of_decide_eq_false cx2_
        exfalso; omega
    · have cx1_ : ¬ (nb_ ≤ k_) := of_decide_eq_false cx1_
      obtain ⟨r0_, r_, rfl⟩ : ∃ r0_ r1_, r_ = r0_ :: r1_ := by cases r_ with | nil => (simp only [List.length_nil] at z4_; omega) | cons p_ q_ => exact ⟨p_, q_, rfl⟩
      obtain ⟨s0_, t_, rfl⟩ : ∃ s0_ s1_, t_ = s0_ :: s1_ := by cases t_ with | nil => (simp only [List.length_nil, List.length_cons] at z3_ z4_; omega) | cons p_ q_ => exact ⟨p_, q_, rfl⟩
      have rx : imq (G1_.length ≤ 1001) (S_.2.2.1 139 0 (8 * a_ + k_).toNat = r0_ ∧ S_.2.2.1 139 0 (8 * b_ + k_).toNat = s0_) := fun z_ => by rw [show (8 * a_ + k_).toNat = 8 * a_.toNat + d_.length by omega, show (8 * b_ + k_).toNat = 8 * b_.toNat + e_.length by omega]; exact ⟨rwv_m (z6_ z_).1, rwv_m (by rw [← z5_]; exact (z6_ z_).2)⟩
      have l1_ := g_xo_le (F_ := F_) (G_ := G1_) (a_ := r0_) (b_ := s0_)
      have l2_ := g_xo_le (F_ := F_) (G_ := (g_xo F_ G1_ r0_ s0_).2) (a_ := (g_xo F_ G1_ r0_ s0_).1) (b_ := c1_)
      have l3_ := (g_an_le (F_ := F_) (G_ := (g_xo F_ (g_xo F_ G1_ r0_ s0_).2 (g_xo F_ G1_ r0_ s0_).1 c1_).2) (a_ := r0_) (b_ := s0_)).1
      have l4_ := (g_an_le (F_ := F_) (G_ := (g_an F_ (g_xo F_ (g_xo F_ G1_ r0_ s0_).2 (g_xo F_ G1_ r0_ s0_).1 c1_).2 r0_ s0_).2) (a_ := (g_xo F_ G1_ r0_ s0_).1) (b_ := c1_)).1
      have l5_ := g_or_le (F_ := F_) (G_ := (g_an F_ (g_an F_ (g_xo F_ (g_xo F_ G1_ r0_ s0_).2 (g_xo F_ G1_ r0_ s0_).1 c1_).2 r0_ s0_).2 (g_xo F_ G1_ r0_ s0_).1 c1_).2) (a_ := (g_an F_ (g_xo F_ (g_xo F_ G1_ r0_ s0_).2 (g_xo F_ G1_ r0_ s0_).1 c1_).2 r0_ s0_).1) (b_ := (g_an F_ (g_an F_ (g_xo F_ (g_xo F_ G1_ r0_ s0_).2 (g_xo F_ G1_ r0_ s0_).1 c1_).2 r0_ s0_).2 (g_xo F_ G1_ r0_ s0_).1 c1_).1)
      refine sm_T_go 4 (c1 := (31, [some (.inr (.inr (some (13, 0)))), some (.inl s_), some (.inl a_), some (.inl b_), some (.inl nb_), some (.inl cy_), some (.inl sa_), some (.inl k_), none, none, none, none, none], [.inl a_, .inl 8, .inr (.inr (some (139, 0)))], S_)) rfl ?_
      refine sm_T_bin (w := 8 * a_) rfl (bi_mul (by omega) (by omega) (by omega)) ?_
      refine sm_T_go 1 (c1 := (34, [some (.inr (.inr (some (13, 0)))), some (.inl s_), some (.inl a_), some (.inl b_), some (.inl nb_), some (.inl cy_), some (.inl sa_), some (.inl k_), none, none, none, none, none], [.inl k_, .inl (8 * a_), .inr (.inr (some (139, 0)))], S_)) rfl ?_
      refine sm_T_bin (w := 8 * a_ + k_) rfl (bi_add (by omega) (by omega) (by omega)) ?_
      refine sm_T_iald (n := 8192) rfl rfl (by omega) (by omega) ?_
      have bx6_ : 0 ≤ S_.2.2.1 139 0 (8 * a_ + k_).toNat ∧ S_.2.2.1 139 0 (8 * a_ + k_).toNat ≤ 2047 := hI_.2 139 0 _
      refine sm_T_go 5 (c1 := (45, [some (.inr (.inr (some (13, 0)))), some (.inl s_), some (.inl a_), some (.inl b_), some (.inl nb_), some (.inl cy_), some (.inl sa_), some (.inl k_), some (.inl (S_.2.2.1 139 0 (8 * a_ + k_).toNat)), none, none, none, none], [.inl b_, .inl 8, .inr (.inr (some (139, 0)))], S_)) rfl ?_
      refine sm_T_bin (w := 8 * b_) rfl (bi_mul (by omega) (by omega) (by omega)) ?_
      refine sm_T_go 1 (c1 := (48, [some (.inr (.inr (some (13, 0)))), some (.inl s_), some (.inl a_), some (.inl b_), some (.inl nb_), some (.inl cy_), some (.inl sa_), some (.inl k_), some (.inl (S_.2.2.1 139 0 (8 * a_ + k_).toNat)), none, none, none, none], [.inl k_, .inl (8 * b_), .inr (.inr (some (139, 0)))], S_)) rfl ?_
      refine sm_T_bin (w := 8 * b_ + k_) rfl (bi_add (by omega) (by omega) (by omega)) ?_
      refine sm_T_iald (n := 8192) rfl rfl (by omega) (by omega) ?_
      have bx7_ : 0 ≤ S_.2.2.1 139 0 (8 * b_ + k_).toNat ∧ S_.2.2.1 139 0 (8 * b_ + k_).toNat ≤ 2047 := hI_.2 139 0 _
      refine sm_T_go 5 (c1 := (58, [some (.inr (.inr (some (13, 0)))), some (.inl s_), some (.inl a_), some (.inl b_), some (.inl nb_), some (.inl cy_), some (.inl sa_), some (.inl k_), some (.inl (S_.2.2.1 139 0 (8 * a_ + k_).toNat)), some (.inl (S_.2.2.1 139 0 (8 * b_ + k_).toNat)), some (.inl 0), none, none], [.inl 38, .inl s_], S_)) rfl ?_
      refine sm_T_br (a := 1) (z := 16) rfl (fun cx8_ => ?_) (fun cx8_ => ?_)
      · have cx8_ : s_ ≠ 38 := of_decide_eq_true cx8_
        refine sm_T_go 2 (c1 := (77, [some (.inr (.inr (some (13, 0)))), some (.inl s_), some (.inl a_), some (.inl b_), some (.inl nb_), some (.inl cy_), some (.inl sa_), some (.inl k_), some (.inl (S_.2.2.1 139 0 (8 * a_ + k_).toNat)), some (.inl (S_.2.2.1 139 0 (8 * b_ + k_).toNat)), some (.inl 0), none, none], [.inl 124, .inl s_], S_)) rfl ?_
        refine sm_T_br (a := 1) (z := 16) rfl (fun cx9_ => ?_) (fun cx9_ => ?_)
        · have cx9_ : s_ ≠ 124 := of_decide_eq_true cx9_
          refine sm_T_go 2 (c1 := (96, [some (.inr (.inr (some (13, 0)))), some (.inl s_), some (.inl a_), some (.inl b_), some (.inl nb_), some (.inl cy_), some (.inl sa_), some (.inl k_), some (.inl (S_.2.2.1 139 0 (8 * a_ + k_).toNat)), some (.inl (S_.2.2.1 139 0 (8 * b_ + k_).toNat)), some (.inl 0), none, none], [.inl 94, .inl s_], S_)) rfl ?_
          refine sm_T_br (a := 1) (z := 16) rfl (fun cx10_ => ?_) (fun cx10_ => ?_)
          · have cx10_ : s_ ≠ 94 := of_decide_eq_true cx10_
            refine sm_T_go 2 (c1 := (115, [some (.inr (.inr (some (13, 0)))), some (.inl s_), some (.inl a_), some (.inl b_), some (.inl nb_), some (.inl cy_), some (.inl sa_), some (.inl k_), some (.inl (S_.2.2.1 139 0 (8 * a_ + k_).toNat)), some (.inl (S_.2.2.1 139 0 (8 * b_ + k_).toNat)), some (.inl 0), none, none], [.inl 43, .inl s_], S_)) rfl ?_
            refine sm_T_br (a := 1) (z := 52) rfl (fun cx11_ => ?_) (fun cx11_ => ?_)
            · have cx11_ : s_ ≠ 43 := of_decide_eq_true cx11_
              exfalso; omega
            · have cx11_ : ¬ (s_ ≠ 43) := of_decide_eq_false cx11_
              refine sm_T_go 3 (c1 := (123, [some (.inr (.inr (some (13, 0)))), some (.inl s_), some (.inl a_), some (.inl b_), some (.inl nb_), some (.inl cy_), some (.inl sa_), some (.inl k_), some (.inl (S_.2.2.1 139 0 (8 * a_ + k_).toNat)), some (.inl (S_.2.2.1 139 0 (8 * b_ + k_).toNat)), some (.inl 0), none, none], [.inl (S_.2.2.1 139 0 (8 * b_ + k_).toNat), .inl (S_.2.2.1 139 0 (8 * a_ + k_).toNat), .inr (.inr (some (13, 0)))], S_)) rfl ?_
              refine sm_T_cal (d1 := 2) (Q1 := vq_330 (S_.2.2.1 139 0 (8 * a_ + k_).toNat) (S_.2.2.1 139 0 (8 * b_ + k_).toNat) F_ G1_ r0_ s0_ S_) rfl rfl (by decide) (vc_330 (S_.2.2.1 139 0 (8 * a_ + k_).toNat) (S_.2.2.1 139 0 (8 * b_ + k_).toNat) F_ G1_ r0_ s0_ S_ hI_ (by exact z1_) (by omega) (by omega) (by exact rx)) (fun u_ Sx12_ px15_ => ?_)
              obtain ⟨vx17_, rfl, hIx13_, hFx14_, px15_⟩ := px15_
              have hFx16_ : ai_fr (sx_W vw_331p) S0_ Sx12_ := ai_fr_tr hF_ (fr_le hFx14_ rfl)
              have e39_ := px15_
              have f123_ : Sx12_.2.2.1 139 0 = S_.2.2.1 139 0 := fr_arr hFx14_ rfl
              refine sm_T_go 4 (c1 := (133, [some (.inr (.inr (some (13, 0)))), some (.inl s_), some (.inl a_), some (.inl b_), some (.inl nb_), some (.inl cy_), some (.inl sa_), some (.inl k_), some (.inl (S_.2.2.1 139 0 (8 * a_ + k_).toNat)), some (.inl (S_.2.2.1 139 0 (8 * b_ + k_).toNat)), some (.inl 0), some (.inl vx17_), none], [.inl cy_, .inl vx17_, .inr (.inr (some (13, 0)))], Sx12_)) rfl ?_
              refine sm_T_cal (d1 := 2) (Q1 := vq_330 vx17_ cy_ F_ (g_xo F_ G1_ r0_ s0_).2 (g_xo F_ G1_ r0_ s0_).1 c1_ Sx12_) rfl rfl (by decide) (vc_330 vx17_ cy_ F_ (g_xo F_ G1_ r0_ s0_).2 (g_xo F_ G1_ r0_ s0_).1 c1_ Sx12_ hIx13_ (by exact e39_.1) (by omega) (by omega) (by (intro z_; exact ⟨e39_.2.1 z_, zc_ (by omega)⟩))) (fun u_ Sx18_ px21_ => ?_)
              obtain ⟨vx23_, rfl, hIx19_, hFx20_, px21_⟩ := px21_
              have hFx22_ : ai_fr (sx_W vw_331p) S0_ Sx18_ := ai_fr_tr hFx16_ (fr_le hFx20_ rfl)
              have e57_ := px21_
              have f133_ : Sx18_.2.2.1 139 0 = S_.2.2.1 139 0 := (fr_arr hFx20_ rfl).trans f123_
              refine sm_T_go 4 (c1 := (143, [some (.inr (.inr (some (13, 0)))), some (.inl s_), some (.inl a_), some (.inl b_), some (.inl nb_), some (.inl cy_), some (.inl sa_), some (.inl k_), some (.inl (S_.2.2.1 139 0 (8 * a_ + k_).toNat)), some (.inl (S_.2.2.1 139 0 (8 * b_ + k_).toNat)), some (.inl vx23_), some (.inl vx17_), none], [.inl (S_.2.2.1 139 0 (8 * b_ + k_).toNat), .inl (S_.2.2.1 139 0 (8 * a_ + k_).toNat), .inr (.inr (some (13, 0)))], Sx18_)) rfl ?_
              refine sm_T_cal (d1 := 0) (Q1 := vq_328 (S_.2.2.1 139 0 (8 * a_ + k_).toNat) (S_.2.2.1 139 0 (8 * b_ + k_).toNat) F_ (g_xo F_ (g_xo F_ G1_ r0_ s0_).2 (g_xo F_ G1_ r0_ s0_).1 c1_).2 r0_ s0_ Sx18_) rfl rfl (by decide) (vc_328 (S_.2.2.1 139 0 (8 * a_ + k_).toNat) (S_.2.2.1 139 0 (8 * b_ + k_).toNat) F_ (g_xo F_ (g_xo F_ G1_ r0_ s0_).2 (g_xo F_ G1_ r0_ s0_).1 c1_).2 r0_ s0_ Sx18_ hIx19_ (by exact e57_.1) (by omega) (by omega) (by (intro z_; exact rx (by omega)))) (fun u_ Sx24_ px27_ => ?_)
              obtain ⟨vx29_, rfl, hIx25_, hFx26_, px27_⟩ := px27_
              have hFx28_ : ai_fr (sx_W vw_331p) S0_ Sx24_ := ai_fr_tr hFx22_ (fr_le hFx26_ rfl)
              have e66_ := px27_
              have f143_ : Sx24_.2.2.1 139 0 = S_.2.2.1 139 0 := (fr_arr hFx26_ rfl).trans f133_
              refine sm_T_go 6 (c1 := (156, [some (.inr (.inr (some (13, 0)))), some (.inl s_), some (.inl a_), some (.inl b_), some (.inl nb_), some (.inl cy_), some (.inl sa_), some (.inl k_), some (.inl (S_.2.2.1 139 0 (8 * a_ + k_).toNat)), some (.inl (S_.2.2.1 139 0 (8 * b_ + k_).toNat)), some (.inl vx23_), some (.inl vx17_), some (.inl vx29_)], [.inl cy_, .inl vx17_, .inr (.inr (some (13, 0))), .inl vx29_, .inr (.inr (some (13, 0)))], Sx24_)) rfl ?_
              refine sm_T_cal (d1 := 0) (Q1 := vq_328 vx17_ cy_ F_ (g_an F_ (g_xo F_ (g_xo F_ G1_ r0_ s0_).2 (g_xo F_ G1_ r0_ s0_).1 c1_).2 r0_ s0_).2 (g_xo F_ G1_ r0_ s0_).1 c1_ Sx24_) rfl rfl (by decide) (vc_328 vx17_ cy_ F_ (g_an F_ (g_xo F_ (g_xo F_ G1_ r0_ s0_).2 (g_xo F_ G1_ r0_ s0_).1 c1_).2 r0_ s0_).2 (g_xo F_ G1_ r0_ s0_).1 c1_ Sx24_ hIx25_ (by exact e66_.1) (by omega) (by omega) (by (intro z_; exact ⟨e39_.2.1 (by omega), zc_ (by omega)⟩))) (fun u_ Sx30_ px33_ => ?_)
              obtain ⟨vx35_, rfl, hIx31_, hFx32_, px33_⟩ := px33_
              have hFx34_ : ai_fr (sx_W vw_331p) S0_ Sx30_ := ai_fr_tr hFx28_ (fr_le hFx32_ rfl)
              have e79_ := px33_
              have f156_ : Sx30_.2.2.1 139 0 = S_.2.2.1 139 0 := (fr_arr hFx32_ rfl).trans f143_
              refine sm_T_cal (d1 := 1) (Q1 := vq_329 vx29_ vx35_ F_ (g_an F_ (g_an F_ (g_xo F_ (g_xo F_ G1_ r0_ s0_).2 (g_xo F_ G1_ r0_ s0_).1 c1_).2 r0_ s0_).2 (g_xo F_ G1_ r0_ s0_).1 c1_).2 (g_an F_ (g_xo F_ (g_xo F_ G1_ r0_ s0_).2 (g_xo F_ G1_ r0_ s0_).1 c1_).2 r0_ s0_).1 (g_an F_ (g_an F_ (g_xo F_ (g_xo F_ G1_ r0_ s0_).2 (g_xo F_ G1_ r0_ s0_).1 c1_).2 r0_ s0_).2 (g_xo F_ G1_ r0_ s0_).1 c1_).1 Sx30_) rfl rfl (by decide) (vc_329 vx29_ vx35_ F_ (g_an F_ (g_an F_ (g_xo F_ (g_xo F_ G1_ r0_ s0_).2 (g_xo F_ G1_ r0_ s0_).1 c1_).2 r0_ s0_).2 (g_xo F_ G1_ r0_ s0_).1 c1_).2 (g_an F_ (g_xo F_ (g_xo F_ G1_ r0_ s0_).2 (g_xo F_ G1_ r0_ s0_).1 c1_).2 r0_ s0_).1 (g_an F_ (g_an F_ (g_xo F_ (g_xo F_ G1_ r0_ s0_).2 (g_xo F_ G1_ r0_ s0_).1 c1_).2 r0_ s0_).2 (g_xo F_ G1_ r0_ s0_).1 c1_).1 Sx30_ hIx31_ (by exact e79_.1) (by omega) (by omega) (by (intro z_; exact ⟨e66_.2.1 (by omega), e79_.2.1 (by omega)⟩))) (fun u_ Sx36_ px39_ => ?_)
              obtain ⟨vx41_, rfl, hIx37_, hFx38_, px39_⟩ := px39_
              have hFx40_ : ai_fr (sx_W vw_331p) S0_ Sx36_ := ai_fr_tr hFx34_ (fr_le hFx38_ rfl)
              have e82_ := px39_
              have f159_ : Sx36_.2.2.1 139 0 = S_.2.2.1 139 0 := (fr_arr hFx38_ rfl).trans f156_
              have g9_ : ∀ z9_ : Int, ∀ j9_ : Nat, (sm_aI Sx36_ 139 0 (8 * a_ + k_).toNat z9_).2.2.1 139 0 j9_ = if j9_ = (8 * a_ + k_).toNat then z9_ else S_.2.2.1 139 0 j9_ := fun z9_ j9_ => by rw [rd_eq, f159_]
              refine sm_T_go 6 (c1 := (206, [some (.inr (.inr (some (13, 0)))), some (.inl s_), some (.inl a_), some (.inl b_), some (.inl nb_), some (.inl vx41_), some (.inl sa_), some (.inl k_), some (.inl (S_.2.2.1 139 0 (8 * a_ + k_).toNat)), some (.inl (S_.2.2.1 139 0 (8 * b_ + k_).toNat)), some (.inl vx23_), some (.inl vx17_), some (.inl vx29_)], [.inl a_, .inl 8, .inr (.inr (some (139, 0)))], Sx36_)) rfl ?_
              refine sm_T_bin (w := 8 * a_) rfl (bi_mul (by omega) (by omega) (by omega)) ?_
              refine sm_T_go 1 (c1 := (209, [some (.inr (.inr (some (13, 0)))), some (.inl s_), some (.inl a_), some (.inl b_), some (.inl nb_), some (.inl vx41_), some (.inl sa_), some (.inl k_), some (.inl (S_.2.2.1 139 0 (8 * a_ + k_).toNat)), some (.inl (S_.2.2.1 139 0 (8 * b_ + k_).toNat)), some (.inl vx23_), some (.inl vx17_), some (.inl vx29_)], [.inl k_, .inl (8 * a_), .inr (.inr (some (139, 0)))], Sx36_)) rfl ?_
              refine sm_T_bin (w := 8 * a_ + k_) rfl (bi_add (by omega) (by omega) (by omega)) ?_
              refine sm_T_go 1 (c1 := (212, [some (.inr (.inr (some (13, 0)))), some (.inl s_), some (.inl a_), some (.inl b_), some (.inl nb_), some (.inl vx41_), some (.inl sa_), some (.inl k_), some (.inl (S_.2.2.1 139 0 (8 * a_ + k_).toNat)), some (.inl (S_.2.2.1 139 0 (8 * b_ + k_).toNat)), some (.inl vx23_), some (.inl vx17_), some (.inl vx29_)], [.inl vx23_, .inl (8 * a_ + k_), .inr (.inr (some (139, 0)))], Sx36_)) rfl ?_
              refine sm_T_iast (n := 8192) rfl rfl (by omega) (by omega) ?_
              have hIx42_ : gi (sm_aI Sx36_ 139 0 (8 * a_ + k_).toNat vx23_) := gi_aI hIx37_ (show 0 ≤ vx23_ ∧ vx23_ ≤ 2047 from ⟨by omega, by omega⟩)
              have hFx43_ : ai_fr (sx_W vw_331p) S0_ (sm_aI Sx36_ 139 0 (8 * a_ + k_).toNat vx23_) := ai_fr_tr hFx40_ (ai_fr_aI rfl)
              refine sm_T_inc (a := 7) (z := 1) (v := k_) (w := k_ + 1) rfl rfl (by omega) (by omega) (by omega) ?_
              refine sm_T_go 1 (c1 := (17, [some (.inr (.inr (some (13, 0)))), some (.inl s_), some (.inl a_), some (.inl b_), some (.inl nb_), some (.inl vx41_), some (.inl sa_), some (.inl (k_ + 1)), some (.inl (S_.2.2.1 139 0 (8 * a_ + k_).toNat)), some (.inl (S_.2.2.1 139 0 (8 * b_ + k_).toNat)), some (.inl vx23_), some (.inl vx17_), some (.inl vx29_)], [], sm_aI Sx36_ 139 0 (8 * a_ + k_).toNat vx23_)) rfl ?_
              refine sm_T_wk [some (.inr (.inr (some (13, 0)))), some (.inl s_), some (.inl a_), some (.inl b_), some (.inl nb_), some (.inl vx41_), some (.inl sa_), some (.inl (k_ + 1)), none, none, none, none, none] (by exact ⟨rfl, rfl, rfl, rfl, rfl, rfl, rfl, rfl, trivial⟩) ?_
              refine ih_ nb_ vx41_ sa_ (k_ + 1) (sm_aI Sx36_ 139 0 (8 * a_ + k_).toNat vx23_) hIx42_ hFx43_ ⟨?_, ?_, ?_, ?_, trivial⟩ ?_
              · omega
              · omega
              · refine ⟨(g_s3 F_ G1_ c1_ r0_ s0_).2.2, (g_s3 F_ G1_ c1_ r0_ s0_).2.1, d_ ++ [(g_s3 F_ G1_ c1_ r0_ s0_).1], r_, e_ ++ [s0_], t_, rgl_st e82_.1, ?_, ?_, ?_, ?_, ?_, fun z_ => ?_, ?_, fun z_ => e82_.2.1 z_, ?_⟩
                · simp only [List.length_append, List.length_cons, List.length_nil]; push_cast; omega
                · simp only [List.length_append, List.length_cons, List.length_nil]; push_cast; omega
                · simp only [List.length_cons] at z3_; omega
                · simp only [List.length_cons] at z4_; push_cast at z4_; omega
                · rw [z5_, List.append_assoc]; rfl
                · have zz_ : (g_or F_ (g_an F_ (g_an F_ (g_xo F_ (g_xo F_ G1_ r0_ s0_).2 (g_xo F_ G1_ r0_ s0_).1 c1_).2 r0_ s0_).2 (g_xo F_ G1_ r0_ s0_).1 c1_).2 (g_an F_ (g_xo F_ (g_xo F_ G1_ r0_ s0_).2 (g_xo F_ G1_ r0_ s0_).1 c1_).2 r0_ s0_).1 (g_an F_ (g_an F_ (g_xo F_ (g_xo F_ G1_ r0_ s0_).2 (g_xo F_ G1_ r0_ s0_).1 c1_).2 r0_ s0_).2 (g_xo F_ G1_ r0_ s0_).1 c1_).1).2.length ≤ 1001 := z_
                  have q1_ := z6_ (by omega)
                  refine ⟨?_, ?_⟩
                  · exact rwv_set (q_ := (8 * a_ + k_).toNat) q1_.1 (by omega) (fun j9_ => by rw [g9_, e57_.2.1 (by omega)]; rfl)
                  · exact rwv_cg q1_.2 (fun j9_ hj_ => by rw [g9_, if_neg (by omega)])
                · show _ ≤ (g_or F_ (g_an F_ (g_an F_ (g_xo F_ (g_xo F_ G1_ r0_ s0_).2 (g_xo F_ G1_ r0_ s0_).1 c1_).2 r0_ s0_).2 (g_xo F_ G1_ r0_ s0_).1 c1_).2 (g_an F_ (g_xo F_ (g_xo F_ G1_ r0_ s0_).2 (g_xo F_ G1_ r0_ s0_).1 c1_).2 r0_ s0_).1 (g_an F_ (g_an F_ (g_xo F_ (g_xo F_ G1_ r0_ s0_).2 (g_xo F_ G1_ r0_ s0_).1 c1_).2 r0_ s0_).2 (g_xo F_ G1_ r0_ s0_).1 c1_).1).2.length; omega
                · rw [z8_]; exact g_su_c
              · intro j_ hj_
                rw [g9_, if_neg (by omega)]
                exact h2_ j_ hj_
              · omega
          · have cx10_ : ¬ (s_ ≠ 94) := of_decide_eq_false cx10_
            exfalso; omega
        · have cx9_ : ¬ (s_ ≠ 124) := of_decide_eq_false cx9_
          exfalso; omega
      · have cx8_ : ¬ (s_ ≠ 38) := of_decide_eq_false cx8_
        exfalso; omega
set_option maxHeartbeats 1500000 in
set_option maxRecDepth 20000 in
theorem vc_331p {sc_ : Nat × (Nat → Int)} (s_ : Int) (a_ : Int) (b_ : Int) (F_ : Nat) (G_ : pGr) (x_ : List Int) (y_ : List Int) (S0_ : sm_S) (hI_ : gi S0_) (hg_ : rgl F_ G_ S0_) (ha_ : 0 ≤ a_ ∧ a_ + 1 ≤ b_ ∧ b_ ≤ 1023) (hw_ : S0_.2.2.1 138 0 a_.toNat = (x_.length : Int)) (hn_ : x_.length = y_.length ∧ 1 ≤ x_.length ∧ x_.length ≤ 8) (hr_ : imq (G_.length ≤ 1001) (rwv (S0_.2.2.1 139 0) (8 * a_.toNat) x_ ∧ rwv (S0_.2.2.1 139 0) (8 * b_.toNat) y_)) (hs_ : s_ = 43) : sm_T (mt_P sc_) 3 331 (0, [some (.inr (.inr (some (13, 0)))), some (.inl s_), some (.inl a_), some (.inl b_), none, none, none, none, none, none, none, none, none], [], S0_) (fun ro9_ => ∃ u_ S1_, ro9_ = (.inl u_, S1_, 0) ∧ vq_331p s_ a_ b_ F_ G_ x_ y_ S0_ u_ S1_) := by
  have hF_ : ai_fr (sx_W vw_331p) S0_ S0_ := ai_fr_rf
  refine sm_T_go 3 (c1 := (5, [some (.inr (.inr (some (13, 0)))), some (.inl s_), some (.inl a_), some (.inl b_), none, none, none, none, none, none, none, none, none], [.inl a_, .inr (.inr (some (138, 0)))], S0_)) rfl ?_
  refine sm_T_iald (n := 1024) rfl rfl (by omega) (by omega) ?_
  have bx1_ : (-2147483648) ≤ S0_.2.2.1 138 0 a_.toNat ∧ S0_.2.2.1 138 0 a_.toNat ≤ 2147483647 := hI_.2 138 0 _
  refine sm_T_go 7 (c1 := (17, [some (.inr (.inr (some (13, 0)))), some (.inl s_), some (.inl a_), some (.inl b_), some (.inl (S0_.2.2.1 138 0 a_.toNat)), some (.inl 0), some (.inl 1), some (.inl 0), none, none, none, none, none], [], S0_)) rfl ?_
  refine (vl_331p s_ a_ b_ F_ G_ x_ y_ S0_ hg_ ha_ hw_ hn_ hr_ hs_ _) (S0_.2.2.1 138 0 a_.toNat) 0 1 0 S0_ hI_ hF_ ⟨?_, ?_, ?_, ?_, trivial⟩ (Nat.lt_succ_self _)
  · omega
  · omega
  · exact ⟨G_, 0, [], x_, [], y_, hg_, rfl, rfl, hn_.1, by omega, rfl, hr_, Nat.le_refl _, fun _ => rfl, rfl⟩
  · (intro j_ hj_; rfl)
end
/-! 99.zc2d -/
section
/-! M_.join -/
def vw_331s : sx_Wl := ([(13, 37)], [139, 140, 141, 142, 143], [])
def vq_331s (s_ : Int) (a_ : Int) (b_ : Int) (F_ : Nat) (G_ : pGr) (x_ : List Int) (y_ : List Int) (S0_ : sm_S) (u_ : Option sm_V) (S1_ : sm_S) : Prop := u_ = none ∧ gi S1_ ∧ ai_fr (sx_W vw_331s) S0_ S1_ ∧ (rgl F_ (g_op F_ 4 G_ x_ y_).2 S1_ ∧ (imq ((g_op F_ 4 G_ x_ y_).2.length ≤ 1001) (rwv (S1_.2.2.1 139 0) (8 * a_.toNat) (g_op F_ 4 G_ x_ y_).1)) ∧ ∀ j_ : Nat, j_ < 8 * a_.toNat ∨ 8 * a_.toNat + 8 ≤ j_ → S1_.2.2.1 139 0 j_ = S0_.2.2.1 139 0 j_)
set_option maxHeartbeats 1500000 in
set_option maxRecDepth 20000 in
theorem vl_331s {sc_ : Nat × (Nat → Int)} (s_ : Int) (a_ : Int) (b_ : Int) (F_ : Nat) (G_ : pGr) (x_ : List Int) (y_ : List Int) (S0_ : sm_S) (hg_ : rgl F_ G_ S0_) (ha_ : 0 ≤ a_ ∧ a_ + 1 ≤ b_ ∧ b_ ≤ 1023) (hw_ : S0_.2.2.1 138 0 a_.toNat = (x_.length : Int)) (hn_ : x_.length = y_.length ∧ 1 ≤ x_.length ∧ x_.length ≤ 8) (hr_ : imq (G_.length ≤ 1001) (rwv (S0_.2.2.1 139 0) (8 * a_.toNat) x_ ∧ rwv (S0_.2.2.1 139 0) (8 * b_.toNat) y_)) (hs_ : s_ = 257) : ∀ nn_ : Nat, (∀ (nb_ : Int) (cy_ : Int) (sa_ : Int) (k_ : Int) (S_ : sm_S), gi S_ → ai_fr (sx_W vw_331s) S0_ S_ → ((0 ≤ k_ ∧ k_ ≤ nb_ ∧ nb_ = (x_.length : Int)) ∧ ((0 ≤ cy_ ∧ cy_ ≤ 2047) ∧ (0 ≤ sa_ ∧ sa_ ≤ 2047)) ∧ (∃ (G1_ : pGr) (d_ r_ e_ t_ : List Int), rgl F_ G1_ S_ ∧ (d_.length : Int) = k_ ∧ (e_.length : Int) = k_ ∧ r_.length = t_.length ∧ k_ + r_.length = nb_ ∧ y_ = e_ ++ t_ ∧ (imq (G1_.length ≤ 1001) (rwv (S_.2.2.1 139 0) (8 * a_.toNat) (d_ ++ r_) ∧ rwv (S_.2.2.1 139 0) (8 * b_.toNat) y_)) ∧ G_.length ≤ G1_.length ∧ ((k_ = 0 ∧ G1_ = G_ ∧ r_ = x_ ∧ t_ = y_) ∨ (1 ≤ k_ ∧ ∃ s1_, (imq (G1_.length ≤ 1001) (sa_ = s1_)) ∧ (g_sa F_ G_ x_ y_) = ([(g_s1 F_ G1_ s1_ r_ t_).1], (g_s1 F_ G1_ s1_ r_ t_).2)))) ∧ (∀ j_ : Nat, j_ < 8 * a_.toNat ∨ 8 * a_.toNat + 8 ≤ j_ → S_.2.2.1 139 0 j_ = S0_.2.2.1 139 0 j_) ∧ True) → ((nb_ - k_).toNat) < nn_ → sm_T (mt_P sc_) 3 331 (17, [some (.inr (.inr (some (13, 0)))), some (.inl s_), some (.inl a_), some (.inl b_), some (.inl nb_), some (.inl cy_), some (.inl sa_), some (.inl k_), none, none, none, none, none], [], S_) (fun ro9_ => ∃ u_ S1_, ro9_ = (.inl u_, S1_, 0) ∧ vq_331s s_ a_ b_ F_ G_ x_ y_ S0_ u_ S1_)) := by
  intro nn_
  induction nn_ with
  | zero => exact fun _ _ _ _ _ _ _ _ h_ => absurd h_ (Nat.not_lt_zero _)
  | succ nn_ ih_ =>
    rintro nb_ cy_ sa_ k_ S_ hI_ hF_ ⟨h0_, hb0_, h1_, h2_, -⟩ hm_
    obtain ⟨G1_, d_, r_, e_, t_, z1_, z2_, z2b, z3_, z4_, z5_, z6_, z7_, z8_⟩ := h1_
    refine sm_T_go 2 (c1 := (21, [some (.inr (.inr (some (13, 0)))), some (.inl s_), some (.inl a_), some (.inl b_), some (.inl nb_), some (.inl cy_), some (.inl sa_), some (.inl k_), none, none, none, none, none], [.inl nb_, .inl k_], S_)) rfl ?_
    refine sm_T_br (a := 3) (z := 198) rfl (fun cx1_ => ?_) (fun cx1_ => ?_)
    · have cx1_ : nb_ ≤ k_ := of_decide_eq_true cx1_
      refine sm_T_go 4 (c1 := (226, [some (.inr (.inr (some (13, 0)))), some (.inl s_), some (.inl a_), some (.inl b_), some (.inl nb_), some (.inl cy_), some (.inl sa_), some (.inl k_), none, none, none, none, none], [.inl a_, .inl 8, .inr (.inr (some (139, 0)))], S_)) rfl ?_
      refine sm_T_bin (w := 8 * a_) rfl (bi_mul (by omega) (by omega) (by omega)) ?_
      refine sm_T_go 2 (c1 := (231, [some (.inr (.inr (some (13, 0)))), some (.inl s_), some (.inl a_), some (.inl b_), some (.inl nb_), some (.inl cy_), some (.inl sa_), some (.inl k_), none, none, none, none, none], [.inl 257, .inl s_, .inl (8 * a_), .inr (.inr (some (139, 0)))], S_)) rfl ?_
      refine sm_T_br (a := 1) (z := 8) rfl (fun cx2_ => ?_) (fun cx2_ => ?_)
      · have cx2_ : s_ ≠ 257 := of_decide_eq_true cx2_
        exfalso; omega
      · have cx2_ : ¬ (s_ ≠ 257) := of_decide_eq_false cx2_
        refine sm_T_go 2 (c1 := (248, [some (.inr (.inr (some (13, 0)))), some (.inl s_), some (.inl a_), some (.inl b_), some (.inl nb_), some (.inl cy_), some (.inl sa_), some (.inl k_), none, none, none, none, none], [.inl sa_, .inl (8 * a_), .inr (.inr (some (139, 0)))], S_)) rfl ?_
        refine sm_T_iast (n := 8192) rfl rfl (by omega) (by omega) ?_
        have hIx3_ : gi (sm_aI S_ 139 0 (8 * a_).toNat sa_) := gi_aI hI_ (show 0 ≤ sa_ ∧ sa_ ≤ 2047 from ⟨by omega, by omega⟩)
        have hFx4_ : ai_fr (sx_W vw_331s) S0_ (sm_aI S_ 139 0 (8 * a_).toNat sa_) := ai_fr_tr hF_ (ai_fr_aI rfl)
        refine sm_T_rv rfl ⟨_, _, rfl, rfl, hIx3_, hFx4_, ?_⟩
        have kr_ : r_ = [] := List.eq_nil_of_length_eq_zero (by omega)
        have ks_ : t_ = [] := List.eq_nil_of_length_eq_zero (by omega)
        obtain ⟨s1_, zs_, z8_⟩ : ∃ s1_, (imq (G1_.length ≤ 1001) (sa_ = s1_)) ∧ (g_sa F_ G_ x_ y_) = ([(g_s1 F_ G1_ s1_ r_ t_).1], (g_s1 F_ G1_ s1_ r_ t_).2) := by rcases z8_ with q_ | q_; omega; exact q_.2
        rw [kr_, ks_] at z8_
        have q8_ : g_s1 F_ G1_ s1_ [] [] = (s1_, G1_) := rfl
        rw [q8_] at z8_
        rw [g_op4, z8_]
        refine ⟨rgl_st z1_, fun z_ => ?_, fun j_ hj_ => ?_⟩
        · intro k9_ z9_ e9_; have k0_ : k9_ = 0 := (by cases k9_ with | zero => rfl | succ k9_ => simp at e9_); subst k0_; rw [rd_eq, if_pos (by omega)]; have q9_ := Option.some.inj e9_; rw [← q9_]; exact zs_ z_
        · rw [rd_eq, if_neg (by omega)]; exact h2_ j_ hj_
    · have cx1_ : ¬ (nb_ ≤ k_) := of_decide_eq_false cx1_
      obtain ⟨r0_, r_, rfl⟩ : ∃ r0_ r1_, r_ = r0_ :: r1_ := by cases r_ with | nil => (simp only [List.length_nil] at z4_; omega) | cons p_ q_ => exact ⟨p_, q_, rfl⟩
      obtain ⟨s0_, t_, rfl⟩ : ∃ s0_ s1_, t_ = s0_ :: s1_ := by cases t_ with | nil => (simp only [List.length_nil, List.length_cons] at z3_ z4_; omega) | cons p_ q_ => exact ⟨p_, q_, rfl⟩
      have rx : imq (G1_.length ≤ 1001) (S_.2.2.1 139 0 (8 * a_ + k_).toNat = r0_ ∧ S_.2.2.1 139 0 (8 * b_ + k_).toNat = s0_) := fun z_ => by rw [show (8 * a_ + k_).toNat = 8 * a_.toNat + d_.length by omega, show (8 * b_ + k_).toNat = 8 * b_.toNat + e_.length by omega]; exact ⟨rwv_m (z6_ z_).1, rwv_m (by rw [← z5_]; exact (z6_ z_).2)⟩
      have l1_ := g_xo_le (F_ := F_) (G_ := G1_) (a_ := r0_) (b_ := s0_)
      refine sm_T_go 4 (c1 := (31, [some (.inr (.inr (some (13, 0)))), some (.inl s_), some (.inl a_), some (.inl b_), some (.inl nb_), some (.inl cy_), some (.inl sa_), some (.inl k_), none, none, none, none, none], [.inl a_, .inl 8, .inr (.inr (some (139, 0)))], S_)) rfl ?_
      refine sm_T_bin (w := 8 * a_) rfl (bi_mul (by omega) (by omega) (by omega)) ?_
      refine sm_T_go 1 (c1 := (34, [some (.inr (.inr (some (13, 0)))), some (.inl s_), some (.inl a_), some (.inl b_), some (.inl nb_), some (.inl cy_), some (.inl sa_), some (.inl k_), none, none, none, none, none], [.inl k_, .inl (8 * a_), .inr (.inr (some (139, 0)))], S_)) rfl ?_
      refine sm_T_bin (w := 8 * a_ + k_) rfl (bi_add (by omega) (by omega) (by omega)) ?_
      refine sm_T_iald (n := 8192) rfl rfl (by omega) (by omega) ?_
      have bx5_ : 0 ≤ S_.2.2.1 139 0 (8 * a_ + k_).toNat ∧ S_.2.2.1 139 0 (8 * a_ + k_).toNat ≤ 2047 := hI_.2 139 0 _
      refine sm_T_go 5 (c1 := (45, [some (.inr (.inr (some (13, 0)))), some (.inl s_), some (.inl a_), some (.inl b_), some (.inl nb_), some (.inl cy_), some (.inl sa_), some (.inl k_), some (.inl (S_.2.2.1 139 0 (8 * a_ + k_).toNat)), none, none, none, none], [.inl b_, .inl 8, .inr (.inr (some (139, 0)))], S_)) rfl ?_
      refine sm_T_bin (w := 8 * b_) rfl (bi_mul (by omega) (by omega) (by omega)) ?_
      refine sm_T_go 1 (c1 := (48, [some (.inr (.inr (some (13, 0)))), some (.inl s_), some (.inl a_), some (.inl b_), some (.inl nb_), some (.inl cy_), some (.inl sa_), some (.inl k_), some (.inl (S_.2.2.1 139 0 (8 * a_ + k_).toNat)), none, none, none, none], [.inl k_, .inl (8 * b_), .inr (.inr (some (139, 0)))], S_)) rfl ?_
      refine sm_T_bin (w := 8 * b_ + k_) rfl (bi_add (by omega) (by omega) (by omega)) ?_
      refine sm_T_iald (n := 8192) rfl rfl (by omega) (by omega) ?_
      have bx6_ : 0 ≤ S_.2.2.1 139 0 (8 * b_ + k_).toNat ∧ S_.2.2.1 139 0 (8 * b_ + k_).toNat ≤ 2047 := hI_.2 139 0 _
      refine sm_T_go 5 (c1 := (58, [some (.inr (.inr (some (13, 0)))), some (.inl s_), some (.inl a_), some (.inl b_), some (.inl nb_), some (.inl cy_), some (.inl sa_), some (.inl k_), some (.inl (S_.2.2.1 139 0 (8 * a_ + k_).toNat)), some (.inl (S_.2.2.1 139 0 (8 * b_ + k_).toNat)), some (.inl 0), none, none], [.inl 38, .inl s_], S_)) rfl ?_
      refine sm_T_br (a := 1) (z := 16) rfl (fun cx7_ => ?_) (fun cx7_ => ?_)
      · have cx7_ : s_ ≠ 38 := of_decide_eq_true cx7_
        refine sm_T_go 2 (c1 := (77, [some (.inr (.inr (some (13, 0)))), some (.inl s_), some (.inl a_), some (.inl b_), some (.inl nb_), some (.inl cy_), some (.inl sa_), some (.inl k_), some (.inl (S_.2.2.1 139 0 (8 * a_ + k_).toNat)), some (.inl (S_.2.2.1 139 0 (8 * b_ + k_).toNat)), some (.inl 0), none, none], [.inl 124, .inl s_], S_)) rfl ?_
        refine sm_T_br (a := 1) (z := 16) rfl (fun cx8_ => ?_) (fun cx8_ => ?_)
        · have cx8_ : s_ ≠ 124 := of_decide_eq_true cx8_
          refine sm_T_go 2 (c1 := (96, [some (.inr (.inr (some (13, 0)))), some (.inl s_), some (.inl a_), some (.inl b_), some (.inl nb_), some (.inl cy_), some (.inl sa_), some (.inl k_), some (.inl (S_.2.2.1 139 0 (8 * a_ + k_).toNat)), some (.inl (S_.2.2.1 139 0 (8 * b_ + k_).toNat)), some (.inl 0), none, none], [.inl 94, .inl s_], S_)) rfl ?_
          refine sm_T_br (a := 1) (z := 16) rfl (fun cx9_ => ?_) (fun cx9_ => ?_)
          · have cx9_ : s_ ≠ 94 := of_decide_eq_true cx9_
            refine sm_T_go 2 (c1 := (115, [some (.inr (.inr (some (13, 0)))), some (.inl s_), some (.inl a_), some (.inl b_), some (.inl nb_), some (.inl cy_), some (.inl sa_), some (.inl k_), some (.inl (S_.2.2.1 139 0 (8 * a_ + k_).toNat)), some (.inl (S_.2.2.1 139 0 (8 * b_ + k_).toNat)), some (.inl 0), none, none], [.inl 43, .inl s_], S_)) rfl ?_
            refine sm_T_br (a := 1) (z := 52) rfl (fun cx10_ => ?_) (fun cx10_ => ?_)
            · have cx10_ : s_ ≠ 43 := of_decide_eq_true cx10_
              refine sm_T_go 4 (c1 := (173, [some (.inr (.inr (some (13, 0)))), some (.inl s_), some (.inl a_), some (.inl b_), some (.inl nb_), some (.inl cy_), some (.inl sa_), some (.inl k_), some (.inl (S_.2.2.1 139 0 (8 * a_ + k_).toNat)), some (.inl (S_.2.2.1 139 0 (8 * b_ + k_).toNat)), some (.inl 0), none, none], [.inl (S_.2.2.1 139 0 (8 * b_ + k_).toNat), .inl (S_.2.2.1 139 0 (8 * a_ + k_).toNat), .inr (.inr (some (13, 0))), .inl 1], S_)) rfl ?_
              refine sm_T_cal (d1 := 2) (Q1 := vq_330 (S_.2.2.1 139 0 (8 * a_ + k_).toNat) (S_.2.2.1 139 0 (8 * b_ + k_).toNat) F_ G1_ r0_ s0_ S_) rfl rfl (by decide) (vc_330 (S_.2.2.1 139 0 (8 * a_ + k_).toNat) (S_.2.2.1 139 0 (8 * b_ + k_).toNat) F_ G1_ r0_ s0_ S_ hI_ (by exact z1_) (by omega) (by omega) (by exact rx)) (fun u_ Sx11_ px14_ => ?_)
              obtain ⟨vx16_, rfl, hIx12_, hFx13_, px14_⟩ := px14_
              have hFx15_ : ai_fr (sx_W vw_331s) S0_ Sx11_ := ai_fr_tr hF_ (fr_le hFx13_ rfl)
              have e180_ := px14_
              have f173_ : Sx11_.2.2.1 139 0 = S_.2.2.1 139 0 := fr_arr hFx13_ rfl
              have g9_ : ∀ z9_ : Int, ∀ j9_ : Nat, (sm_aI Sx11_ 139 0 (8 * a_ + k_).toNat z9_).2.2.1 139 0 j9_ = if j9_ = (8 * a_ + k_).toNat then z9_ else S_.2.2.1 139 0 j9_ := fun z9_ j9_ => by rw [rd_eq, f173_]
              refine sm_T_bin (w := (i_xor 1 vx16_)) rfl rfl ?_
              first | have bx17_ := (i_xc (x_ := 1) (y_ := vx16_)).trans (i_x1 (x_ := vx16_) (by omega)) | have bx17_ := i_x1 (x_ := 1) (by omega)
              refine sm_T_go 2 (c1 := (181, [some (.inr (.inr (some (13, 0)))), some (.inl s_), some (.inl a_), some (.inl b_), some (.inl nb_), some (.inl cy_), some (.inl sa_), some (.inl k_), some (.inl (S_.2.2.1 139 0 (8 * a_ + k_).toNat)), some (.inl (S_.2.2.1 139 0 (8 * b_ + k_).toNat)), some (.inl 0), some (.inl (i_xor 1 vx16_)), none], [.inl k_], Sx11_)) rfl ?_
              refine sm_T_b0 (a := 1) (z := 8) rfl (fun cx18_ => ?_) (fun cx18_ => ?_)
              · have cx18_ : k_ ≠ 0 := of_decide_eq_true cx18_
                obtain ⟨s1_, zs_, z8_⟩ : ∃ s1_, (imq (G1_.length ≤ 1001) (sa_ = s1_)) ∧ (g_sa F_ G_ x_ y_) = ([(g_s1 F_ G1_ s1_ (r0_ :: r_) (s0_ :: t_)).1], (g_s1 F_ G1_ s1_ (r0_ :: r_) (s0_ :: t_)).2) := by rcases z8_ with q_ | q_; omega; exact q_.2
                have l2_ := (g_an_le (F_ := F_) (G_ := (g_xo F_ G1_ r0_ s0_).2) (a_ := s1_) (b_ := i_xor (g_xo F_ G1_ r0_ s0_).1 1)).1
                refine sm_T_go 3 (c1 := (194, [some (.inr (.inr (some (13, 0)))), some (.inl s_), some (.inl a_), some (.inl b_), some (.inl nb_), some (.inl cy_), some (.inl sa_), some (.inl k_), some (.inl (S_.2.2.1 139 0 (8 * a_ + k_).toNat)), some (.inl (S_.2.2.1 139 0 (8 * b_ + k_).toNat)), some (.inl 0), some (.inl (i_xor 1 vx16_)), none], [.inl (i_xor 1 vx16_), .inl sa_, .inr (.inr (some (13, 0)))], Sx11_)) rfl ?_
                refine sm_T_cal (d1 := 0) (Q1 := vq_328 sa_ (i_xor 1 vx16_) F_ (g_xo F_ G1_ r0_ s0_).2 s1_ (i_xor (g_xo F_ G1_ r0_ s0_).1 1) Sx11_) rfl rfl (by decide) (vc_328 sa_ (i_xor 1 vx16_) F_ (g_xo F_ G1_ r0_ s0_).2 s1_ (i_xor (g_xo F_ G1_ r0_ s0_).1 1) Sx11_ hIx12_ (by exact e180_.1) (by omega) (by omega) (by (intro z_; rw [i_xc, e180_.2.1 (by omega)]; exact ⟨zs_ (by omega), rfl⟩))) (fun u_ Sx19_ px22_ => ?_)
                obtain ⟨vx24_, rfl, hIx20_, hFx21_, px22_⟩ := px22_
                have hFx23_ : ai_fr (sx_W vw_331s) S0_ Sx19_ := ai_fr_tr hFx15_ (fr_le hFx21_ rfl)
                have e185_ := px22_
                have f194_ : Sx19_.2.2.1 139 0 = S_.2.2.1 139 0 := (fr_arr hFx21_ rfl).trans f173_
                have g9_ : ∀ z9_ : Int, ∀ j9_ : Nat, (sm_aI Sx19_ 139 0 (8 * a_ + k_).toNat z9_).2.2.1 139 0 j9_ = if j9_ = (8 * a_ + k_).toNat then z9_ else S_.2.2.1 139 0 j9_ := fun z9_ j9_ => by rw [rd_eq, f194_]
                refine sm_T_go 5 (c1 := (206, [some (.inr (.inr (some (13, 0)))), some (.inl s_), some (.inl a_), some (.inl b_), some (.inl nb_), some (.inl cy_), some (.inl vx24_), some (.inl k_), some (.inl (S_.2.2.1 139 0 (8 * a_ + k_).toNat)), some (.inl (S_.2.2.1 139 0 (8 * b_ + k_).toNat)), some (.inl 0), some (.inl (i_xor 1 vx16_)), none], [.inl a_, .inl 8, .inr (.inr (some (139, 0)))], Sx19_)) rfl ?_
                refine sm_T_bin (w := 8 * a_) rfl (bi_mul (by omega) (by omega) (by omega)) ?_
                refine sm_T_go 1 (c1 := (209, [some (.inr (.inr (some (13, 0)))), some (.inl s_), some (.inl a_), some (.inl b_), some (.inl nb_), some (.inl cy_), some (.inl vx24_), some (.inl k_), some (.inl (S_.2.2.1 139 0 (8 * a_ + k_).toNat)), some (.inl (S_.2.2.1 139 0 (8 * b_ + k_).toNat)), some (.inl 0), some (.inl (i_xor 1 vx16_)), none], [.inl k_, .inl (8 * a_), .inr (.inr (some (139, 0)))], Sx19_)) rfl ?_
                refine sm_T_bin (w := 8 * a_ + k_) rfl (bi_add (by omega) (by omega) (by omega)) ?_
                refine sm_T_go 1 (c1 := (212, [some (.inr (.inr (some (13, 0)))), some (.inl s_), some (.inl a_), some (.inl b_), some (.inl nb_), some (.inl cy_), some (.inl vx24_), some (.inl k_), some (.inl (S_.2.2.1 139 0 (8 * a_ + k_).toNat)), some (.inl (S_.2.2.1 139 0 (8 * b_ + k_).toNat)), some (.inl 0), some (.inl (i_xor 1 vx16_)), none], [.inl 0, .inl (8 * a_ + k_), .inr (.inr (some (139, 0)))], Sx19_)) rfl ?_
                refine sm_T_iast (n := 8192) rfl rfl (by omega) (by omega) ?_
                have hIx25_ : gi (sm_aI Sx19_ 139 0 (8 * a_ + k_).toNat 0) := gi_aI hIx20_ (show 0 ≤ 0 ∧ 0 ≤ 2047 from ⟨by omega, by omega⟩)
                have hFx26_ : ai_fr (sx_W vw_331s) S0_ (sm_aI Sx19_ 139 0 (8 * a_ + k_).toNat 0) := ai_fr_tr hFx23_ (ai_fr_aI rfl)
                refine sm_T_inc (a := 7) (z := 1) (v := k_) (w := k_ + 1) rfl rfl (by omega) (by omega) (by omega) ?_
                refine sm_T_go 1 (c1 := (17, [some (.inr (.inr (some (13, 0)))), some (.inl s_), some (.inl a_), some (.inl b_), some (.inl nb_), some (.inl cy_), some (.inl vx24_), some (.inl (k_ + 1)), some (.inl (S_.2.2.1 139 0 (8 * a_ + k_).toNat)), some (.inl (S_.2.2.1 139 0 (8 * b_ + k_).toNat)), some (.inl 0), some (.inl (i_xor 1 vx16_)), none], [], sm_aI Sx19_ 139 0 (8 * a_ + k_).toNat 0)) rfl ?_
                refine sm_T_wk [some (.inr (.inr (some (13, 0)))), some (.inl s_), some (.inl a_), some (.inl b_), some (.inl nb_), some (.inl cy_), some (.inl vx24_), some (.inl (k_ + 1)), none, none, none, none, none] (by exact ⟨rfl, rfl, rfl, rfl, rfl, rfl, rfl, rfl, trivial⟩) ?_
                refine ih_ nb_ cy_ vx24_ (k_ + 1) (sm_aI Sx19_ 139 0 (8 * a_ + k_).toNat 0) hIx25_ hFx26_ ⟨?_, ?_, ?_, ?_, trivial⟩ ?_
                · omega
                · omega
                · first | (refine ⟨(g_xo F_ G1_ r0_ s0_).2, d_ ++ [0], r_, e_ ++ [s0_], t_, rgl_st e180_.1, ?_, ?_, ?_, ?_, ?_, fun z_ => ?_, by omega, Or.inr ⟨by omega, i_xor (g_xo F_ G1_ r0_ s0_).1 1, fun z_ => by rw [i_xc, e180_.2.1 z_], rfl⟩⟩) | (refine ⟨(g_e3 F_ G1_ s1_ r0_ s0_).2, d_ ++ [0], r_, e_ ++ [s0_], t_, rgl_st e185_.1, ?_, ?_, ?_, ?_, ?_, fun z_ => ?_, ?_, Or.inr ⟨by omega, (g_e3 F_ G1_ s1_ r0_ s0_).1, fun z_ => e185_.2.1 z_, by rw [z8_]; rfl⟩⟩; rotate_right; (show _ ≤ (g_an F_ (g_xo F_ G1_ r0_ s0_).2 s1_ (i_xor (g_xo F_ G1_ r0_ s0_).1 1)).2.length; omega))
                  · simp only [List.length_append, List.length_cons, List.length_nil]; push_cast; omega
                  · simp only [List.length_append, List.length_cons, List.length_nil]; push_cast; omega
                  · simp only [List.length_cons] at z3_; omega
                  · simp only [List.length_cons] at z4_; push_cast at z4_; omega
                  · rw [z5_, List.append_assoc]; rfl
                  · have q0_ : G1_.length ≤ 1001 := by first | omega | (have zz_ : (g_an F_ (g_xo F_ G1_ r0_ s0_).2 s1_ (i_xor (g_xo F_ G1_ r0_ s0_).1 1)).2.length ≤ 1001 := z_; omega)
                    have q1_ := z6_ q0_
                    refine ⟨?_, ?_⟩
                    · exact rwv_set (q_ := (8 * a_ + k_).toNat) q1_.1 (by omega) (fun j9_ => by rw [g9_])
                    · exact rwv_cg q1_.2 (fun j9_ hj_ => by rw [g9_, if_neg (by omega)])
                · intro j_ hj_
                  rw [g9_, if_neg (by omega)]
                  exact h2_ j_ hj_
                · omega
              · have cx18_ : ¬ (k_ ≠ 0) := of_decide_eq_false cx18_
                obtain ⟨rfl, rfl, rfl⟩ : G1_ = G_ ∧ x_ = r0_ :: r_ ∧ y_ = s0_ :: t_ := by rcases z8_ with q_ | q_; exact ⟨q_.2.1, q_.2.2.1.symm, q_.2.2.2.symm⟩; omega
                refine sm_T_go 7 (c1 := (206, [some (.inr (.inr (some (13, 0)))), some (.inl s_), some (.inl a_), some (.inl b_), some (.inl nb_), some (.inl cy_), some (.inl (i_xor 1 vx16_)), some (.inl k_), some (.inl (S_.2.2.1 139 0 (8 * a_ + k_).toNat)), some (.inl (S_.2.2.1 139 0 (8 * b_ + k_).toNat)), some (.inl 0), some (.inl (i_xor 1 vx16_)), none], [.inl a_, .inl 8, .inr (.inr (some (139, 0)))], Sx11_)) rfl ?_
                refine sm_T_bin (w := 8 * a_) rfl (bi_mul (by omega) (by omega) (by omega)) ?_
                refine sm_T_go 1 (c1 := (209, [some (.inr (.inr (some (13, 0)))), some (.inl s_), some (.inl a_), some (.inl b_), some (.inl nb_), some (.inl cy_), some (.inl (i_xor 1 vx16_)), some (.inl k_), some (.inl (S_.2.2.1 139 0 (8 * a_ + k_).toNat)), some (.inl (S_.2.2.1 139 0 (8 * b_ + k_).toNat)), some (.inl 0), some (.inl (i_xor 1 vx16_)), none], [.inl k_, .inl (8 * a_), .inr (.inr (some (139, 0)))], Sx11_)) rfl ?_
                refine sm_T_bin (w := 8 * a_ + k_) rfl (bi_add (by omega) (by omega) (by omega)) ?_
                refine sm_T_go 1 (c1 := (212, [some (.inr (.inr (some (13, 0)))), some (.inl s_), some (.inl a_), some (.inl b_), some (.inl nb_), some (.inl cy_), some (.inl (i_xor 1 vx16_)), some (.inl k_), some (.inl (S_.2.2.1 139 0 (8 * a_ + k_).toNat)), some (.inl (S_.2.2.1 139 0 (8 * b_ + k_).toNat)), some (.inl 0), some (.inl (i_xor 1 vx16_)), none], [.inl 0, .inl (8 * a_ + k_), .inr (.inr (some (139, 0)))], Sx11_)) rfl ?_
                refine sm_T_iast (n := 8192) rfl rfl (by omega) (by omega) ?_
                have hIx27_ : gi (sm_aI Sx11_ 139 0 (8 * a_ + k_).toNat 0) := gi_aI hIx12_ (show 0 ≤ 0 ∧ 0 ≤ 2047 from ⟨by omega, by omega⟩)
                have hFx28_ : ai_fr (sx_W vw_331s) S0_ (sm_aI Sx11_ 139 0 (8 * a_ + k_).toNat 0) := ai_fr_tr hFx15_ (ai_fr_aI rfl)
                refine sm_T_inc (a := 7) (z := 1) (v := k_) (w := k_ + 1) rfl rfl (by omega) (by omega) (by omega) ?_
                refine sm_T_go 1 (c1 := (17, [some (.inr (.inr (some (13, 0)))), some (.inl s_), some (.inl a_), some (.inl b_), some (.inl nb_), some (.inl cy_), some (.inl (i_xor 1 vx16_)), some (.inl (k_ + 1)), some (.inl (S_.2.2.1 139 0 (8 * a_ + k_).toNat)), some (.inl (S_.2.2.1 139 0 (8 * b_ + k_).toNat)), some (.inl 0), some (.inl (i_xor 1 vx16_)), none], [], sm_aI Sx11_ 139 0 (8 * a_ + k_).toNat 0)) rfl ?_
                refine sm_T_wk [some (.inr (.inr (some (13, 0)))), some (.inl s_), some (.inl a_), some (.inl b_), some (.inl nb_), some (.inl cy_), some (.inl (i_xor 1 vx16_)), some (.inl (k_ + 1)), none, none, none, none, none] (by exact ⟨rfl, rfl, rfl, rfl, rfl, rfl, rfl, rfl, trivial⟩) ?_
                refine ih_ nb_ cy_ (i_xor 1 vx16_) (k_ + 1) (sm_aI Sx11_ 139 0 (8 * a_ + k_).toNat 0) hIx27_ hFx28_ ⟨?_, ?_, ?_, ?_, trivial⟩ ?_
                · omega
                · omega
                · first | (refine ⟨(g_xo F_ G1_ r0_ s0_).2, d_ ++ [0], r_, e_ ++ [s0_], t_, rgl_st e180_.1, ?_, ?_, ?_, ?_, ?_, fun z_ => ?_, by omega, Or.inr ⟨by omega, i_xor (g_xo F_ G1_ r0_ s0_).1 1, fun z_ => by rw [i_xc, e180_.2.1 z_], rfl⟩⟩) | (refine ⟨(g_e3 F_ G1_ s1_ r0_ s0_).2, d_ ++ [0], r_, e_ ++ [s0_], t_, rgl_st e185_.1, ?_, ?_, ?_, ?_, ?_, fun z_ => ?_, ?_, Or.inr ⟨by omega, (g_e3 F_ G1_ s1_ r0_ s0_).1, fun z_ => e185_.2.1 z_, by rw [z8_]; rfl⟩⟩; rotate_right; (show _ ≤ (g_an F_ (g_xo F_ G1_ r0_ s0_).2 s1_ (i_xor (g_xo F_ G1_ r0_ s0_).1 1)).2.length; omega))
                  · simp only [List.length_append, List.length_cons, List.length_nil]; push_cast; omega
                  · simp only [List.length_append, List.length_cons, List.length_nil]; push_cast; omega
                  · simp only [List.length_cons] at z3_; omega
                  · simp only [List.length_cons] at z4_; push_cast at z4_; omega
                  · rw [z5_, List.append_assoc]; rfl
                  · have q0_ : G1_.length ≤ 1001 := by first | omega | (have zz_ : (g_an F_ (g_xo F_ G1_ r0_ s0_).2 s1_ (i_xor (g_xo F_ G1_ r0_ s0_).1 1)).2.length ≤ 1001 := z_; omega)
                    have q1_ := z6_ q0_
                    refine ⟨?_, ?_⟩
                    · exact rwv_set (q_ := (8 * a_ + k_).toNat) q1_.1 (by omega) (fun j9_ => by rw [g9_])
                    · exact rwv_cg q1_.2 (fun j9_ hj_ => by rw [g9_, if_neg (by omega)])
                · intro j_ hj_
                  rw [g9_, if_neg (by omega)]
                  exact h2_ j_ hj_
                · omega
            · have cx10_ : ¬ (s_ ≠ 43) := of_decide_eq_false cx10_
              exfalso; omega
          · have cx9_ : ¬ (s_ ≠ 94) := of_decide_eq_false cx9_
            exfalso; omega
        · have cx8_ : ¬ (s_ ≠ 124) := of_decide_eq_false cx8_
          exfalso; omega
      · have cx7_ : ¬ (s_ ≠ 38) := of_decide_eq_false cx7_
        exfalso; omega
set_option maxHeartbeats 1500000 in
set_option maxRecDepth 20000 in
theorem vc_331s {sc_ : Nat × (Nat → Int)} (s_ : Int) (a_ : Int) (b_ : Int) (F_ : Nat) (G_ : pGr) (x_ : List Int) (y_ : List Int) (S0_ : sm_S) (hI_ : gi S0_) (hg_ : rgl F_ G_ S0_) (ha_ : 0 ≤ a_ ∧ a_ + 1 ≤ b_ ∧ b_ ≤ 1023) (hw_ : S0_.2.2.1 138 0 a_.toNat = (x_.length : Int)) (hn_ : x_.length = y_.length ∧ 1 ≤ x_.length ∧ x_.length ≤ 8) (hr_ : imq (G_.length ≤ 1001) (rwv (S0_.2.2.1 139 0) (8 * a_.toNat) x_ ∧ rwv (S0_.2.2.1 139 0) (8 * b_.toNat) y_)) (hs_ : s_ = 257) : sm_T (mt_P sc_) 3 331 (0, [some (.inr (.inr (some (13, 0)))), some (.inl s_), some (.inl a_), some (.inl b_), none, none, none, none, none, none, none, none, none], [], S0_) (fun ro9_ => ∃ u_ S1_, ro9_ = (.inl u_, S1_, 0) ∧ vq_331s s_ a_ b_ F_ G_ x_ y_ S0_ u_ S1_) := by
  have hF_ : ai_fr (sx_W vw_331s) S0_ S0_ := ai_fr_rf
  refine sm_T_go 3 (c1 := (5, [some (.inr (.inr (some (13, 0)))), some (.inl s_), some (.inl a_), some (.inl b_), none, none, none, none, none, none, none, none, none], [.inl a_, .inr (.inr (some (138, 0)))], S0_)) rfl ?_
  refine sm_T_iald (n := 1024) rfl rfl (by omega) (by omega) ?_
  have bx1_ : (-2147483648) ≤ S0_.2.2.1 138 0 a_.toNat ∧ S0_.2.2.1 138 0 a_.toNat ≤ 2147483647 := hI_.2 138 0 _
  refine sm_T_go 7 (c1 := (17, [some (.inr (.inr (some (13, 0)))), some (.inl s_), some (.inl a_), some (.inl b_), some (.inl (S0_.2.2.1 138 0 a_.toNat)), some (.inl 0), some (.inl 1), some (.inl 0), none, none, none, none, none], [], S0_)) rfl ?_
  refine (vl_331s s_ a_ b_ F_ G_ x_ y_ S0_ hg_ ha_ hw_ hn_ hr_ hs_ _) (S0_.2.2.1 138 0 a_.toNat) 0 1 0 S0_ hI_ hF_ ⟨?_, ?_, ?_, ?_, trivial⟩ (Nat.lt_succ_self _)
  · omega
  · omega
  · exact ⟨G_, [], x_, [], y_, hg_, rfl, rfl, hn_.1, by omega, rfl, hr_, Nat.le_refl _, Or.inl ⟨rfl, rfl, rfl, rfl⟩⟩
  · (intro j_ hj_; rfl)
def vw_331 : sx_Wl := vw_331w
def vq_331 (s_ : Int) (a_ : Int) (b_ : Int) (F_ : Nat) (G_ : pGr) (x_ : List Int) (y_ : List Int) (kk_ : Int) (S0_ : sm_S) (u_ : Option sm_V) (S1_ : sm_S) : Prop := u_ = none ∧ gi S1_ ∧ ai_fr (sx_W vw_331) S0_ S1_ ∧ (rgl F_ (g_op F_ kk_ G_ x_ y_).2 S1_ ∧ (imq ((g_op F_ kk_ G_ x_ y_).2.length ≤ 1001) (rwv (S1_.2.2.1 139 0) (8 * a_.toNat) (g_op F_ kk_ G_ x_ y_).1)) ∧ ∀ j_ : Nat, j_ < 8 * a_.toNat ∨ 8 * a_.toNat + 8 ≤ j_ → S1_.2.2.1 139 0 j_ = S0_.2.2.1 139 0 j_)
theorem vc_331 {sc_ : Nat × (Nat → Int)} (s_ : Int) (a_ : Int) (b_ : Int) (F_ : Nat) (G_ : pGr) (x_ : List Int) (y_ : List Int) (kk_ : Int) (S0_ : sm_S) (hI_ : gi S0_) (hg_ : rgl F_ G_ S0_) (ha_ : 0 ≤ a_ ∧ a_ + 1 ≤ b_ ∧ b_ ≤ 1023) (hw_ : S0_.2.2.1 138 0 a_.toNat = (x_.length : Int)) (hn_ : x_.length = y_.length ∧ 1 ≤ x_.length ∧ x_.length ≤ 8) (hr_ : imq (G_.length ≤ 1001) (rwv (S0_.2.2.1 139 0) (8 * a_.toNat) x_ ∧ rwv (S0_.2.2.1 139 0) (8 * b_.toNat) y_)) (hs_ : (s_ = 124 ∧ kk_ = 1) ∨ (s_ = 94 ∧ kk_ = 2) ∨ (s_ = 38 ∧ kk_ = 3) ∨ (s_ = 257 ∧ kk_ = 4) ∨ (s_ = 43 ∧ kk_ = 5)) : sm_T (mt_P sc_) 3 331 (0, [some (.inr (.inr (some (13, 0)))), some (.inl s_), some (.inl a_), some (.inl b_), none, none, none, none, none, none, none, none, none], [], S0_) (fun r_ => ∃ u_ S1_, r_ = (.inl u_, S1_, 0) ∧ vq_331 s_ a_ b_ F_ G_ x_ y_ kk_ S0_ u_ S1_) := by
  by_cases g4_ : kk_ = 4
  · subst g4_
    exact vc_331s s_ a_ b_ F_ G_ x_ y_ S0_ hI_ hg_ ha_ hw_ hn_ hr_ (by omega)
  · by_cases g5_ : kk_ = 5
    · subst g5_
      exact vc_331p s_ a_ b_ F_ G_ x_ y_ S0_ hI_ hg_ ha_ hw_ hn_ hr_ (by omega)
    · exact vc_331w s_ a_ b_ F_ G_ x_ y_ kk_ S0_ hI_ hg_ ha_ hw_ hn_ hr_ (by omega)
end
/-! 99.zc2e -/
section
/-! M_.choice -/
def vw_332 : sx_Wl := ([(13, 37)], [139, 140, 141, 142, 143], [])
def vq_332 (ci_ : Int) (F_ : Nat) (G_ : pGr) (c_ : Int) (va_ : List Int) (ve_ : List Int) (S0_ : sm_S) (u_ : Option sm_V) (S1_ : sm_S) : Prop := u_ = none ∧ gi S1_ ∧ ai_fr (sx_W vw_332) S0_ S1_ ∧ (rgl F_ (g_ch F_ c_ G_ va_ ve_).2 S1_ ∧ (imq ((g_ch F_ c_ G_ va_ ve_).2.length ≤ 1001) (rwv (S1_.2.2.1 139 0) (8 * ci_.toNat) (g_ch F_ c_ G_ va_ ve_).1)) ∧ ∀ j_ : Nat, j_ < 8 * ci_.toNat ∨ 8 * ci_.toNat + 8 ≤ j_ → S1_.2.2.1 139 0 j_ = S0_.2.2.1 139 0 j_)
set_option maxHeartbeats 1500000 in
theorem vl_332 {sc_ : Nat × (Nat → Int)} (ci_ : Int) (F_ : Nat) (G_ : pGr) (c_ : Int) (va_ : List Int) (ve_ : List Int) (S0_ : sm_S) (hg_ : rgl F_ G_ S0_) (ha_ : 0 ≤ ci_ ∧ ci_ ≤ 1021) (hw_ : S0_.2.2.1 138 0 (ci_.toNat + 1) = (va_.length : Int)) (hn_ : va_.length = ve_.length ∧ va_.length ≤ 8) (hr_ : imq (G_.length ≤ 1001) (rwv (S0_.2.2.1 139 0) (8 * ci_.toNat) [c_] ∧ rwv (S0_.2.2.1 139 0) (8 * (ci_.toNat + 1)) va_ ∧ rwv (S0_.2.2.1 139 0) (8 * (ci_.toNat + 2)) ve_)) : ∀ nn_ : Nat, (∀ (cb_ : Int) (k_ : Int) (S_ : sm_S), gi S_ → ai_fr (sx_W vw_332) S0_ S_ → ((0 ≤ k_ ∧ k_ ≤ (va_.length : Int) ∧ 0 ≤ cb_ ∧ cb_ ≤ 2047) ∧ (∃ (G1_ : pGr) (d_ r_ t_ e1_ e2_ : List Int), rgl F_ G1_ S_ ∧ (d_.length : Int) = k_ ∧ (e1_.length : Int) = k_ ∧ (e2_.length : Int) = k_ ∧ r_.length = t_.length ∧ k_ + r_.length = va_.length ∧ va_ = e1_ ++ r_ ∧ ve_ = e2_ ++ t_ ∧ (imq (G1_.length ≤ 1001) (cb_ = c_ ∧ rwv (S_.2.2.1 139 0) (8 * ci_.toNat) d_ ∧ rwv (S_.2.2.1 139 0) (8 * (ci_.toNat + 1)) va_ ∧ rwv (S_.2.2.1 139 0) (8 * (ci_.toNat + 2)) ve_)) ∧ G_.length ≤ G1_.length ∧ (g_ch F_ c_ G_ va_ ve_) = (d_ ++ (g_ch F_ c_ G1_ r_ t_).1, (g_ch F_ c_ G1_ r_ t_).2)) ∧ (∀ j_ : Nat, j_ < 8 * ci_.toNat ∨ 8 * ci_.toNat + 8 ≤ j_ → S_.2.2.1 139 0 j_ = S0_.2.2.1 139 0 j_) ∧ True) → (((va_.length : Int) - k_).toNat) < nn_ → sm_T (mt_P sc_) 3 332 (12, [some (.inr (.inr (some (13, 0)))), some (.inl ci_), some (.inl cb_), some (.inl k_), none, none], [], S_) (fun ro9_ => ∃ u_ S1_, ro9_ = (.inl u_, S1_, 0) ∧ vq_332 ci_ F_ G_ c_ va_ ve_ S0_ u_ S1_)) := by
  intro nn_
  induction nn_ with
  | zero => exact fun _ _ _ _ _ _ h_ => absurd h_ (Nat.not_lt_zero _)
  | succ nn_ ih_ =>
    rintro cb_ k_ S_ hI_ hF_ ⟨h0_, h1_, h2_, -⟩ hm_
    obtain ⟨G1_, d_, r_, t_, e1_, e2_, z1_, z2_, z2b, z2c, z3_, z4_, z5_, z5b, z6_, z7_, z8_⟩ := h1_
    have wt : S_.2.2.1 138 0 (ci_ + 1).toNat = (va_.length : Int) := by rw [show (ci_ + 1).toNat = ci_.toNat + 1 by omega, fr_arr (t := 138) (i := 0) hF_ rfl]; exact hw_
    refine sm_T_go 5 (c1 := (19, [some (.inr (.inr (some (13, 0)))), some (.inl ci_), some (.inl cb_), some (.inl k_), none, none], [.inl 1, .inl ci_, .inr (.inr (some (138, 0))), .inl k_], S_)) rfl ?_
    refine sm_T_bin (w := ci_ + 1) rfl (bi_add (by omega) (by omega) (by omega)) ?_
    refine sm_T_iald (n := 1024) rfl rfl (by omega) (by omega) ?_
    have bx1_ : (-2147483648) ≤ S_.2.2.1 138 0 (ci_ + 1).toNat ∧ S_.2.2.1 138 0 (ci_ + 1).toNat ≤ 2147483647 := hI_.2 138 0 _
    refine sm_T_br (a := 3) (z := 72) rfl (fun cx2_ => ?_) (fun cx2_ => ?_)
    · have cx2_ : (S_.2.2.1 138 0 (ci_ + 1).toNat) ≤ k_ := of_decide_eq_true cx2_
      refine sm_T_rv rfl ⟨_, _, rfl, rfl, hI_, hF_, ?_⟩
      have kr_ : r_ = [] := List.eq_nil_of_length_eq_zero (by omega)
      have ks_ : t_ = [] := List.eq_nil_of_length_eq_zero (by omega)
      rw [kr_, ks_] at z8_
      have q8_ : g_ch F_ c_ G1_ [] [] = ([], G1_) := rfl
      rw [q8_, List.append_nil] at z8_
      rw [z8_]
      exact ⟨z1_, fun z_ => (z6_ z_).2.1, h2_⟩
    · have cx2_ : ¬ ((S_.2.2.1 138 0 (ci_ + 1).toNat) ≤ k_) := of_decide_eq_false cx2_
      obtain ⟨r0_, r_, rfl⟩ : ∃ r0_ r1_, r_ = r0_ :: r1_ := by cases r_ with | nil => (simp only [List.length_nil] at z4_; omega) | cons p_ q_ => exact ⟨p_, q_, rfl⟩
      obtain ⟨s0_, t_, rfl⟩ : ∃ s0_ s1_, t_ = s0_ :: s1_ := by cases t_ with | nil => (simp only [List.length_nil, List.length_cons] at z3_ z4_; omega) | cons p_ q_ => exact ⟨p_, q_, rfl⟩
      have rx : imq (G1_.length ≤ 1001) (S_.2.2.1 139 0 (8 * ci_ + k_ + 8).toNat = r0_ ∧ S_.2.2.1 139 0 (8 * ci_ + k_ + 16).toNat = s0_) := fun z_ => by rw [show (8 * ci_ + k_ + 8).toNat = 8 * (ci_.toNat + 1) + e1_.length by omega, show (8 * ci_ + k_ + 16).toNat = 8 * (ci_.toNat + 2) + e2_.length by omega]; exact ⟨rwv_m (by rw [← z5_]; exact (z6_ z_).2.2.1), rwv_m (by rw [← z5b]; exact (z6_ z_).2.2.2)⟩
      have l1_ := (g_an_le (F_ := F_) (G_ := G1_) (a_ := c_) (b_ := r0_)).1
      have l2_ := (g_an_le (F_ := F_) (G_ := (g_an F_ G1_ c_ r0_).2) (a_ := i_xor c_ 1) (b_ := s0_)).1
      have l3_ := g_or_le (F_ := F_) (G_ := (g_an F_ (g_an F_ G1_ c_ r0_).2 (i_xor c_ 1) s0_).2) (a_ := (g_an F_ G1_ c_ r0_).1) (b_ := (g_an F_ (g_an F_ G1_ c_ r0_).2 (i_xor c_ 1) s0_).1)
      refine sm_T_go 6 (c1 := (33, [some (.inr (.inr (some (13, 0)))), some (.inl ci_), some (.inl cb_), some (.inl k_), none, none], [.inl ci_, .inl 8, .inr (.inr (some (139, 0))), .inl cb_, .inr (.inr (some (13, 0)))], S_)) rfl ?_
      refine sm_T_bin (w := 8 * ci_) rfl (bi_mul (by omega) (by omega) (by omega)) ?_
      refine sm_T_go 1 (c1 := (36, [some (.inr (.inr (some (13, 0)))), some (.inl ci_), some (.inl cb_), some (.inl k_), none, none], [.inl 8, .inl (8 * ci_), .inr (.inr (some (139, 0))), .inl cb_, .inr (.inr (some (13, 0)))], S_)) rfl ?_
      refine sm_T_bin (w := 8 * ci_ + 8) rfl (bi_add (by omega) (by omega) (by omega)) ?_
      refine sm_T_go 1 (c1 := (38, [some (.inr (.inr (some (13, 0)))), some (.inl ci_), some (.inl cb_), some (.inl k_), none, none], [.inl k_, .inl (8 * ci_ + 8), .inr (.inr (some (139, 0))), .inl cb_, .inr (.inr (some (13, 0)))], S_)) rfl ?_
      refine sm_T_bin (w := 8 * ci_ + k_ + 8) rfl (bi_add (by omega) (by omega) (by omega)) ?_
      refine sm_T_iald (n := 8192) rfl rfl (by omega) (by omega) ?_
      have bx3_ : 0 ≤ S_.2.2.1 139 0 (8 * ci_ + k_ + 8).toNat ∧ S_.2.2.1 139 0 (8 * ci_ + k_ + 8).toNat ≤ 2047 := hI_.2 139 0 _
      refine sm_T_cal (d1 := 0) (Q1 := vq_328 cb_ (S_.2.2.1 139 0 (8 * ci_ + k_ + 8).toNat) F_ G1_ c_ r0_ S_) rfl rfl (by decide) (vc_328 cb_ (S_.2.2.1 139 0 (8 * ci_ + k_ + 8).toNat) F_ G1_ c_ r0_ S_ hI_ (by exact z1_) (by omega) (by omega) (by (intro z_; exact ⟨(z6_ z_).1, (rx z_).1⟩))) (fun u_ Sx4_ px7_ => ?_)
      obtain ⟨vx9_, rfl, hIx5_, hFx6_, px7_⟩ := px7_
      have hFx8_ : ai_fr (sx_W vw_332) S0_ Sx4_ := ai_fr_tr hF_ (fr_le hFx6_ rfl)
      have e58_ := px7_
      have f40_ : Sx4_.2.2.1 139 0 = S_.2.2.1 139 0 := fr_arr hFx6_ rfl
      refine sm_T_go 4 (c1 := (48, [some (.inr (.inr (some (13, 0)))), some (.inl ci_), some (.inl cb_), some (.inl k_), some (.inl vx9_), none], [.inl 1, .inl cb_, .inr (.inr (some (13, 0)))], Sx4_)) rfl ?_
      refine sm_T_bin (w := (i_xor cb_ 1)) rfl rfl ?_
      have bx10_ := i_x1 (x_ := cb_) (by omega)
      refine sm_T_go 4 (c1 := (56, [some (.inr (.inr (some (13, 0)))), some (.inl ci_), some (.inl cb_), some (.inl k_), some (.inl vx9_), none], [.inl ci_, .inl 8, .inr (.inr (some (139, 0))), .inl (i_xor cb_ 1), .inr (.inr (some (13, 0)))], Sx4_)) rfl ?_
      refine sm_T_bin (w := 8 * ci_) rfl (bi_mul (by omega) (by omega) (by omega)) ?_
      refine sm_T_go 1 (c1 := (59, [some (.inr (.inr (some (13, 0)))), some (.inl ci_), some (.inl cb_), some (.inl k_), some (.inl vx9_), none], [.inl 16, .inl (8 * ci_), .inr (.inr (some (139, 0))), .inl (i_xor cb_ 1), .inr (.inr (some (13, 0)))], Sx4_)) rfl ?_
      refine sm_T_bin (w := 8 * ci_ + 16) rfl (bi_add (by omega) (by omega) (by omega)) ?_
      refine sm_T_go 1 (c1 := (61, [some (.inr (.inr (some (13, 0)))), some (.inl ci_), some (.inl cb_), some (.inl k_), some (.inl vx9_), none], [.inl k_, .inl (8 * ci_ + 16), .inr (.inr (some (139, 0))), .inl (i_xor cb_ 1), .inr (.inr (some (13, 0)))], Sx4_)) rfl ?_
      refine sm_T_bin (w := 8 * ci_ + k_ + 16) rfl (bi_add (by omega) (by omega) (by omega)) ?_
      refine sm_T_iald (n := 8192) rfl rfl (by omega) (by omega) ?_
      have bx11_ : 0 ≤ Sx4_.2.2.1 139 0 (8 * ci_ + k_ + 16).toNat ∧ Sx4_.2.2.1 139 0 (8 * ci_ + k_ + 16).toNat ≤ 2047 := hIx5_.2 139 0 _
      refine sm_T_cal (d1 := 0) (Q1 := vq_328 (i_xor cb_ 1) (Sx4_.2.2.1 139 0 (8 * ci_ + k_ + 16).toNat) F_ (g_an F_ G1_ c_ r0_).2 (i_xor c_ 1) s0_ Sx4_) rfl rfl (by decide) (vc_328 (i_xor cb_ 1) (Sx4_.2.2.1 139 0 (8 * ci_ + k_ + 16).toNat) F_ (g_an F_ G1_ c_ r0_).2 (i_xor c_ 1) s0_ Sx4_ hIx5_ (by exact e58_.1) (by omega) (by omega) (by (intro z_; refine ⟨by rw [(z6_ (by omega)).1], ?_⟩; rw [f40_]; exact (rx (by omega)).2))) (fun u_ Sx12_ px15_ => ?_)
      obtain ⟨vx17_, rfl, hIx13_, hFx14_, px15_⟩ := px15_
      have hFx16_ : ai_fr (sx_W vw_332) S0_ Sx12_ := ai_fr_tr hFx8_ (fr_le hFx14_ rfl)
      have e83_ := px15_
      have f63_ : Sx12_.2.2.1 139 0 = S_.2.2.1 139 0 := (fr_arr hFx14_ rfl).trans f40_
      refine sm_T_go 5 (c1 := (75, [some (.inr (.inr (some (13, 0)))), some (.inl ci_), some (.inl cb_), some (.inl k_), some (.inl vx9_), some (.inl vx17_)], [.inl ci_, .inl 8, .inr (.inr (some (139, 0)))], Sx12_)) rfl ?_
      refine sm_T_bin (w := 8 * ci_) rfl (bi_mul (by omega) (by omega) (by omega)) ?_
      refine sm_T_go 1 (c1 := (77, [some (.inr (.inr (some (13, 0)))), some (.inl ci_), some (.inl cb_), some (.inl k_), some (.inl vx9_), some (.inl vx17_)], [.inl k_, .inl (8 * ci_), .inr (.inr (some (139, 0)))], Sx12_)) rfl ?_
      refine sm_T_bin (w := 8 * ci_ + k_) rfl (bi_add (by omega) (by omega) (by omega)) ?_
      refine sm_T_go 3 (c1 := (83, [some (.inr (.inr (some (13, 0)))), some (.inl ci_), some (.inl cb_), some (.inl k_), some (.inl vx9_), some (.inl vx17_)], [.inl vx17_, .inl vx9_, .inr (.inr (some (13, 0))), .inl (8 * ci_ + k_), .inr (.inr (some (139, 0)))], Sx12_)) rfl ?_
      refine sm_T_cal (d1 := 1) (Q1 := vq_329 vx9_ vx17_ F_ (g_an F_ (g_an F_ G1_ c_ r0_).2 (i_xor c_ 1) s0_).2 (g_an F_ G1_ c_ r0_).1 (g_an F_ (g_an F_ G1_ c_ r0_).2 (i_xor c_ 1) s0_).1 Sx12_) rfl rfl (by decide) (vc_329 vx9_ vx17_ F_ (g_an F_ (g_an F_ G1_ c_ r0_).2 (i_xor c_ 1) s0_).2 (g_an F_ G1_ c_ r0_).1 (g_an F_ (g_an F_ G1_ c_ r0_).2 (i_xor c_ 1) s0_).1 Sx12_ hIx13_ (by exact e83_.1) (by omega) (by omega) (by (intro z_; exact ⟨e58_.2.1 (by omega), e83_.2.1 (by omega)⟩))) (fun u_ Sx18_ px21_ => ?_)
      obtain ⟨vx23_, rfl, hIx19_, hFx20_, px21_⟩ := px21_
      have hFx22_ : ai_fr (sx_W vw_332) S0_ Sx18_ := ai_fr_tr hFx16_ (fr_le hFx20_ rfl)
      have e100_ := px21_
      have f83_ : Sx18_.2.2.1 139 0 = S_.2.2.1 139 0 := (fr_arr hFx20_ rfl).trans f63_
      have g9_ : ∀ z9_ : Int, ∀ j9_ : Nat, (sm_aI Sx18_ 139 0 (8 * ci_ + k_).toNat z9_).2.2.1 139 0 j9_ = if j9_ = (8 * ci_ + k_).toNat then z9_ else S_.2.2.1 139 0 j9_ := fun z9_ j9_ => by rw [rd_eq, f83_]
      refine sm_T_iast (n := 8192) rfl rfl (by omega) (by omega) ?_
      have hIx24_ : gi (sm_aI Sx18_ 139 0 (8 * ci_ + k_).toNat vx23_) := gi_aI hIx19_ (show 0 ≤ vx23_ ∧ vx23_ ≤ 2047 from ⟨by omega, by omega⟩)
      have hFx25_ : ai_fr (sx_W vw_332) S0_ (sm_aI Sx18_ 139 0 (8 * ci_ + k_).toNat vx23_) := ai_fr_tr hFx22_ (ai_fr_aI rfl)
      refine sm_T_inc (a := 3) (z := 1) (v := k_) (w := k_ + 1) rfl rfl (by omega) (by omega) (by omega) ?_
      refine sm_T_go 1 (c1 := (12, [some (.inr (.inr (some (13, 0)))), some (.inl ci_), some (.inl cb_), some (.inl (k_ + 1)), some (.inl vx9_), some (.inl vx17_)], [], sm_aI Sx18_ 139 0 (8 * ci_ + k_).toNat vx23_)) rfl ?_
      refine sm_T_wk [some (.inr (.inr (some (13, 0)))), some (.inl ci_), some (.inl cb_), some (.inl (k_ + 1)), none, none] (by exact ⟨rfl, rfl, rfl, rfl, trivial⟩) ?_
      refine ih_ cb_ (k_ + 1) (sm_aI Sx18_ 139 0 (8 * ci_ + k_).toNat vx23_) hIx24_ hFx25_ ⟨?_, ?_, ?_, trivial⟩ ?_
      · omega
      · refine ⟨(g_c3 F_ G1_ c_ r0_ s0_).2, d_ ++ [(g_c3 F_ G1_ c_ r0_ s0_).1], r_, t_, e1_ ++ [r0_], e2_ ++ [s0_], rgl_st e100_.1, ?_, ?_, ?_, ?_, ?_, ?_, ?_, fun z_ => ?_, ?_, ?_⟩
        · simp only [List.length_append, List.length_cons, List.length_nil]; push_cast; omega
        · simp only [List.length_append, List.length_cons, List.length_nil]; push_cast; omega
        · simp only [List.length_append, List.length_cons, List.length_nil]; push_cast; omega
        · simp only [List.length_cons] at z3_; omega
        · simp only [List.length_cons] at z4_; push_cast at z4_; omega
        · rw [z5_, List.append_assoc]; rfl
        · rw [z5b, List.append_assoc]; rfl
        · have zz_ : (g_or F_ (g_an F_ (g_an F_ G1_ c_ r0_).2 (i_xor c_ 1) s0_).2 (g_an F_ G1_ c_ r0_).1 (g_an F_ (g_an F_ G1_ c_ r0_).2 (i_xor c_ 1) s0_).1).2.length ≤ 1001 := z_
          have q1_ := z6_ (by omega)
          refine ⟨q1_.1, ?_, ?_, ?_⟩
          · exact rwv_ap (q_ := (8 * ci_ + k_).toNat) q1_.2.1 (by omega) (fun j_ => by rw [g9_, e100_.2.1 z_]; rfl)
          · exact rwv_cg q1_.2.2.1 (fun j_ hj_ => by rw [g9_, if_neg (by omega)])
          · exact rwv_cg q1_.2.2.2 (fun j_ hj_ => by rw [g9_, if_neg (by omega)])
        · show _ ≤ (g_or F_ (g_an F_ (g_an F_ G1_ c_ r0_).2 (i_xor c_ 1) s0_).2 (g_an F_ G1_ c_ r0_).1 (g_an F_ (g_an F_ G1_ c_ r0_).2 (i_xor c_ 1) s0_).1).2.length; omega
        · rw [z8_]; exact g_z2_c
      · intro j_ hj_
        rw [g9_, if_neg (by omega)]
        exact h2_ j_ hj_
      · omega
set_option maxHeartbeats 1500000 in
theorem vc_332 {sc_ : Nat × (Nat → Int)} (ci_ : Int) (F_ : Nat) (G_ : pGr) (c_ : Int) (va_ : List Int) (ve_ : List Int) (S0_ : sm_S) (hI_ : gi S0_) (hg_ : rgl F_ G_ S0_) (ha_ : 0 ≤ ci_ ∧ ci_ ≤ 1021) (hw_ : S0_.2.2.1 138 0 (ci_.toNat + 1) = (va_.length : Int)) (hn_ : va_.length = ve_.length ∧ va_.length ≤ 8) (hr_ : imq (G_.length ≤ 1001) (rwv (S0_.2.2.1 139 0) (8 * ci_.toNat) [c_] ∧ rwv (S0_.2.2.1 139 0) (8 * (ci_.toNat + 1)) va_ ∧ rwv (S0_.2.2.1 139 0) (8 * (ci_.toNat + 2)) ve_)) : sm_T (mt_P sc_) 3 332 (0, [some (.inr (.inr (some (13, 0)))), some (.inl ci_), none, none, none, none], [], S0_) (fun ro9_ => ∃ u_ S1_, ro9_ = (.inl u_, S1_, 0) ∧ vq_332 ci_ F_ G_ c_ va_ ve_ S0_ u_ S1_) := by
  have hF_ : ai_fr (sx_W vw_332) S0_ S0_ := ai_fr_rf
  refine sm_T_go 4 (c1 := (7, [some (.inr (.inr (some (13, 0)))), some (.inl ci_), none, none, none, none], [.inl ci_, .inl 8, .inr (.inr (some (139, 0)))], S0_)) rfl ?_
  refine sm_T_bin (w := 8 * ci_) rfl (bi_mul (by omega) (by omega) (by omega)) ?_
  refine sm_T_iald (n := 8192) rfl rfl (by omega) (by omega) ?_
  have bx1_ : 0 ≤ S0_.2.2.1 139 0 (8 * ci_).toNat ∧ S0_.2.2.1 139 0 (8 * ci_).toNat ≤ 2047 := hI_.2 139 0 _
  refine sm_T_go 3 (c1 := (12, [some (.inr (.inr (some (13, 0)))), some (.inl ci_), some (.inl (S0_.2.2.1 139 0 (8 * ci_).toNat)), some (.inl 0), none, none], [], S0_)) rfl ?_
  refine (vl_332 ci_ F_ G_ c_ va_ ve_ S0_ hg_ ha_ hw_ hn_ hr_ _) (S0_.2.2.1 139 0 (8 * ci_).toNat) 0 S0_ hI_ hF_ ⟨?_, ?_, ?_, trivial⟩ (Nat.lt_succ_self _)
  · omega
  · refine ⟨G_, [], va_, ve_, [], [], hg_, rfl, rfl, rfl, hn_.1, by omega, rfl, rfl, fun z_ => ⟨?_, fun k9_ z9_ e9_ => by simp at e9_, (hr_ z_).2.1, (hr_ z_).2.2⟩, Nat.le_refl _, rfl⟩
    have q_ := (hr_ z_).1 0 c_ rfl
    rw [show (8 * ci_).toNat = 8 * ci_.toNat + 0 by omega]
    exact q_
  · (intro j_ hj_; rfl)
end
