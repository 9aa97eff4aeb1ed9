/-! 99.ztK -/
section
/-! next values and beginning: the class; written by wip/p55/gen/vg -/

/-! next values and beginning -/
abbrev gN : Type := (Nat → Int) × Int
def bho (det_ : Int) (R_ : Nat) : Nat → Int → Int
  | 0, B_ => B_
  | j_ + 1, B_ => i_or (bho det_ R_ j_ B_) (i_shl (i_shr det_ (j_ : Int) % 2) ((R_ + j_ : Nat) : Int))
theorem bho_s {det_ : Int} {R_ j_ : Nat} {B_ : Int} : bho det_ R_ (j_ + 1) B_ = i_or (bho det_ R_ j_ B_) (i_shl (i_shr det_ (j_ : Int) % 2) ((R_ + j_ : Nat) : Int)) := rfl
def nho (I_ R_ w_ : Nat) (N_ : Nat → Int) : Nat → Int := fun i_ => if R_ ≤ i_ ∧ i_ < R_ + w_ then 2 * ((1 + I_ + i_ : Nat) : Int) else N_ i_
def nnx (p_ : Nat) (y_ : List Int) (N_ : Nat → Int) : Nat → Int := fun i_ => if p_ ≤ i_ ∧ i_ < p_ + y_.length then y_.getD (i_ - p_) 0 else N_ i_
/-- what a_ store does to_ them -/
def nst (I_ : Nat) (A_ : pA) (m_ : Nat) (k_ : Int) (a_ : Nat) (s_ : gS) (x_ : gN) : gN :=
  if k_ = 13 then (nho I_ s_.1.2.1 (A_.2.2.2.1 (40 * m_ + a_)).toNat x_.1, bho (A_.2.2.2.2 (40 * m_ + a_)) s_.1.2.1 (A_.2.2.2.1 (40 * m_ + a_)).toNat x_.2)
  else if k_ = 14 then (match s_.2.2.2, s_.2.1 a_ with
    | y_ :: _, z_ :: _ => (nnx (z_ / 2 - 1 - I_).toNat y_ x_.1, x_.2)
    | _, _ => x_)
  else x_
/-- what a_ word does to_ them -/
def nw (I_ : Nat) (A_ : pA) (Y_ : Nat → gQ → gE → gN → gN) (m_ : Nat) (w_ : Int) (s_ : gS) (x_ : gN) : gN :=
  if w_ % 32 = 17 then (match s_.2.2.1 (w_ / 32 % 64).toNat with
    | some o_ => Y_ (w_ / 2048).toNat s_.1 o_ x_
    | none => x_)
  else if w_ % 32 ≤ 11 then x_
  else nst I_ A_ m_ (w_ % 32) (w_ / 32 % 64).toNat s_ x_
def ncd (F_ I_ : Nat) (A_ : pA) (X_ : Nat → gQ → gE → Option (gQ × gE)) (Y_ : Nat → gQ → gE → gN → gN) (m_ : Nat) : List Int → gS → gN → gN
  | [], _, x_ => x_
  | w_ :: c_, s_, x_ => match ew F_ I_ A_ X_ m_ w_ s_ with
    | some s1_ => ncd F_ I_ A_ X_ Y_ m_ c_ s1_ (nw I_ A_ Y_ m_ w_ s_ x_)
    | none => x_
def nxm (F_ I_ : Nat) (A_ : pA) (C_ : Nat → List Int) : Nat → Nat → gQ → gE → gN → gN
  | 0, _, _, _, x_ => x_
  | f_ + 1, d_, q_, e_, x_ => ncd F_ I_ A_ (exm F_ I_ A_ C_ f_) (nxm F_ I_ A_ C_ f_) d_ (C_ d_) (q_, e_, fun _ => none, []) x_
theorem ncd_c {F_ I_ m_ : Nat} {A_ : pA} {X_ : Nat → gQ → gE → Option (gQ × gE)} {Y_ : Nat → gQ → gE → gN → gN} {w_ : Int} {c_ : List Int} {s_ s1_ : gS} {x_ : gN} (h_ : ew F_ I_ A_ X_ m_ w_ s_ = some s1_) : ncd F_ I_ A_ X_ Y_ m_ (w_ :: c_) s_ x_ = ncd F_ I_ A_ X_ Y_ m_ c_ s1_ (nw I_ A_ Y_ m_ w_ s_ x_) := by
  show (match ew F_ I_ A_ X_ m_ w_ s_ with
    | some s1_ => ncd F_ I_ A_ X_ Y_ m_ c_ s1_ (nw I_ A_ Y_ m_ w_ s_ x_)
    | none => x_) = _
  rw [h_]
theorem nst_o {I_ m_ a_ : Nat} {A_ : pA} {k_ : Int} {s_ : gS} {x_ : gN} (h3_ : k_ ≠ 13) (h4_ : k_ ≠ 14) : nst I_ A_ m_ k_ a_ s_ x_ = x_ := by
  unfold nst
  rw [if_neg h3_, if_neg h4_]
theorem nst_h {I_ m_ a_ : Nat} {A_ : pA} {s_ : gS} {x_ : gN} : nst I_ A_ m_ 13 a_ s_ x_ = (nho I_ s_.1.2.1 (A_.2.2.2.1 (40 * m_ + a_)).toNat x_.1, bho (A_.2.2.2.2 (40 * m_ + a_)) s_.1.2.1 (A_.2.2.2.1 (40 * m_ + a_)).toNat x_.2) := by
  unfold nst
  rw [if_pos rfl]
theorem nst_n {I_ m_ a_ : Nat} {A_ : pA} {s_ : gS} {x_ : gN} {y_ y2_ : List Int} {l_ : gV} {z_ : Int} (hV_ : s_.2.2.2 = y_ :: l_) (hE_ : s_.2.1 a_ = z_ :: y2_) : nst I_ A_ m_ 14 a_ s_ x_ = (nnx (z_ / 2 - 1 - I_).toNat y_ x_.1, x_.2) := by
  unfold nst
  rw [if_neg (by decide), if_pos rfl, hV_, hE_]
/-- the_ class holds them -/
def cxn (dd_ R_ : Nat) (x_ : gN) (S_ : sm_S) : Prop := S_.1 3 dd_ 5 = x_.2 ∧ ∀ i_, i_ < R_ → S_.2.2.1 46 (0 + dd_) i_ = x_.1 i_
theorem cxn_fr {w_ : sx_Wl} {dd_ R_ : Nat} {x_ : gN} {S_ S'_ : sm_S} (h_ : cxn dd_ R_ x_ S_) (g_ : ai_fr (sx_W w_) S_ S'_) (h2_ : (sx_W w_).1 3 5 = false := by rfl) (h4_ : (sx_W w_).2.1 46 = false := by rfl) : cxn dd_ R_ x_ S'_ := by
  unfold cxn
  rw [g_.1 3 dd_ 5 h2_, fr_arr (t := 46) g_ h4_]
  exact h_
theorem cxn_cp {dd_ R_ p_ q_ n_ : Nat} {st_ : Nat → Int} {x_ : gN} {S_ S'_ : sm_S} {y_ : List Int} (h_ : cxn dd_ R_ x_ S_) (e5_ : S'_.1 3 dd_ 5 = S_.1 3 dd_ 5) (e46_ : S'_.2.2.1 46 (0 + dd_) = sm_cp st_ (S_.2.2.1 46 (0 + dd_)) p_ q_ n_) (hy_ : rwv st_ p_ y_) (hn_ : n_ = y_.length) : cxn dd_ R_ (nnx q_ y_ x_.1, x_.2) S'_ := by
  refine ⟨e5_.trans h_.1, fun i_ hi_ => ?_⟩
  rw [e46_]
  show sm_cp st_ (S_.2.2.1 46 (0 + dd_)) p_ q_ n_ i_ = nnx q_ y_ x_.1 i_
  unfold sm_cp nnx
  by_cases c_ : q_ ≤ i_ ∧ i_ < q_ + n_
  · have l9_ : i_ - q_ < y_.length := by omega
    have e_ := hy_ (i_ - q_) y_[i_ - q_] (List.getElem?_eq_getElem l9_)
    rw [if_pos c_, if_pos (by omega), List.getD_eq_getElem?_getD, List.getElem?_eq_getElem l9_]
    first | exact e_ | (rw [show p_ + i_ - q_ = p_ + (i_ - q_) by omega]; exact e_)
  · rw [if_neg c_, if_neg (by omega)]
    exact h_.2 i_ hi_

/-! Builder.store -/
def vw_38n : sx_Wl := ([(1, 3), (1, 6), (1, 9), (3, 5)], [26, 46], [])
def vq_38n (k_ : Int) (m_ : Int) (f_ : Int) (a_ : Int) (d_ : Int) (tb_ : Nat → Int) (tn_ : Nat) (A_ : pA) (mm_ : Nat) (ff_ : Nat) (aa_ : Nat) (dd_ : Nat) (F_ : Nat) (I_ : Nat) (s_ : gS) (r_ : gS) (fc0_ : Nat) (x0_ : gN) (S0_ : sm_S) (u_ : Option sm_V) (S1_ : sm_S) : Prop := u_ = none ∧ gi S1_ ∧ ai_fr (sx_W vw_38n) S0_ S1_ ∧ (idf dd_ S0_ S1_ ∧ (cxs dd_ F_ I_ ff_ fc0_ r_ S1_ ∧ fun_ ff_ fc0_ (S0_.2.2.1 26 0) (S1_.2.2.1 26 0) ∧ cxn dd_ r_.1.2.1 (nst I_ A_ mm_ k_ aa_ s_ x0_) S1_))
set_option maxHeartbeats 2000000 in
set_option maxRecDepth 20000 in
theorem vl_38n {sc_ : Nat × (Nat → Int)} (k_ : Int) (m_ : Int) (f_ : Int) (a_ : Int) (d_ : Int) (tb_ : Nat → Int) (tn_ : Nat) (A_ : pA) (mm_ : Nat) (ff_ : Nat) (aa_ : Nat) (dd_ : Nat) (F_ : Nat) (I_ : Nat) (s_ : gS) (r_ : gS) (fc0_ : Nat) (x0_ : gN) (S0_ : sm_S) (hI0_ : gi S0_) (hd_ : S0_.2.1 1 0 1 = some dd_) (hk0_ : 12 ≤ k_ ∧ k_ ≤ 16) (hd0_ : 0 ≤ d_ ∧ d_ ≤ 1048576) (hm1_ : m_ = (mm_ : Int) ∧ mm_ ≤ 15) (hf1_ : f_ = (ff_ : Int)) (ha1_ : a_ = (aa_ : Int) ∧ aa_ ≤ 63) (her_ : ∀ k9_, k9_ ≤ mm_ → er1 tb_ tn_ A_ k9_ S0_) (hA_ : a_ok tb_ tn_ A_ mm_) (hx_ : cxs dd_ F_ I_ ff_ fc0_ s_ S0_) (hok_ : s_.1.1.length ≤ 1000) (he_ : e_st I_ A_ mm_ k_ aa_ d_ s_ = some r_) (hlw_ : lwS F_ s_) (hRF_ : 1 + I_ + r_.1.2.1 ≤ F_) (hn_ : cxn dd_ s_.1.2.1 x0_ S0_) : ∀ nn_ : Nat, (∀ (sy_ : Int) (j_ : Int) (S_ : sm_S), gi S_ → ai_fr (sx_W vw_38n) S0_ S_ → ((k_ = 13) ∧ (0 ≤ j_ ∧ sy_ = 40 * m_ + a_ ∧ j_ ≤ 8) ∧ (rwv (S_.2.2.1 26 0) (8 * (40 * ff_ + aa_)) (r_bt I_ s_.1.2.1 j_.toNat)) ∧ (∀ j9_, j9_ < 8 * (40 * ff_ + aa_) ∨ 8 * (40 * ff_ + aa_) + 8 ≤ j9_ → S_.2.2.1 26 0 j9_ = S0_.2.2.1 26 0 j9_) ∧ ((S_.1 1 0 9) = (s_.1.2.1 : Int) + j_ ∧ j_ ≤ A_.2.2.2.1 (40 * mm_ + aa_)) ∧ ((S_.1 1 0 3) = (s_.1.2.2 : Int)) ∧ ((S_.1 1 0 6) = S0_.1 1 0 6 ∧ (∀ j9_, S_.2.2.1 27 0 j9_ = S0_.2.2.1 27 0 j9_) ∧ (∀ j9_, S_.2.2.1 28 0 j9_ = S0_.2.2.1 28 0 j9_) ∧ S_.1 3 dd_ 1 = (I_ : Int)) ∧ (cgl dd_ F_ s_.1.1 S_) ∧ (cxb dd_ (s_.1.2.1 + j_.toNat) S_) ∧ (cxn dd_ (s_.1.2.1 + j_.toNat) (nho I_ s_.1.2.1 j_.toNat x0_.1, bho (A_.2.2.2.2 (40 * mm_ + aa_)) s_.1.2.1 j_.toNat x0_.2) S_) ∧ (idf dd_ S0_ S_) ∧ True) → ((8 - j_).toNat) < nn_ → sm_T (mt_P sc_) 1 38 (50, [some (.inr (.inr (some (1, 0)))), some (.inl k_), some (.inl m_), some (.inl f_), some (.inl a_), some (.inl d_), some (.inl sy_), some (.inl j_), none], [], S_) (fun ro9_ => ∃ u_ S1_, ro9_ = (.inl u_, S1_, 0) ∧ vq_38n k_ m_ f_ a_ d_ tb_ tn_ A_ mm_ ff_ aa_ dd_ F_ I_ s_ r_ fc0_ x0_ S0_ u_ S1_)) := by
  intro nn_
  induction nn_ with
  | zero => exact fun _ _ _ _ _ _ h_ => absurd h_ (Nat.not_lt_zero _)
  | succ nn_ ih_ =>
    rintro sy_ j_ S_ hI_ hF_ ⟨hk_, h0_, h1_, h2_, h3_, h4_, h5_, h6_, h7_, h8_, hD_, -⟩ hm_
    obtain ⟨x1_, x2_, x3_, x4_, x5_, x6_, x7_, x8_, x9_⟩ := id hx_
    have x9a := x9_.1
    have cb_ := cgl_b x1_
    have c12_ : 0 ≤ S0_.1 3 dd_ 1 ∧ 0 ≤ S0_.1 3 dd_ 2 := ⟨(hI0_.1 3 dd_ 1 rfl).1, (hI0_.1 3 dd_ 2 rfl).1⟩
    have A40_ := (hA_.2 mm_ (Nat.le_refl _)).1
    have tp9_ := x8_.1
    have tq9_ : S0_.1 1 0 6 ≤ 512 := (hI0_.1 1 0 6 rfl).2
    obtain ⟨aM_, hO_, w1_, w8_, r6_, er⟩ := e_st13 (show e_st I_ A_ mm_ 13 aa_ d_ s_ = some r_ by rw [← hk_]; exact he_)
    have w80_ : S_.2.2.1 80 0 sy_.toNat = A_.2.2.2.1 (40 * mm_ + aa_) := by rw [show sy_.toNat = 40 * mm_ + aa_ by omega, fr_arr (t := 80) (i := 0) hF_ rfl]; exact ((her_ mm_ (Nat.le_refl _)).2 aa_ (by omega)).2.2.1
    have w81_ : S_.2.2.1 81 0 sy_.toNat = A_.2.2.2.2 (40 * mm_ + aa_) := by rw [show sy_.toNat = 40 * mm_ + aa_ by omega, fr_arr (t := 81) (i := 0) hF_ rfl]; exact ((her_ mm_ (Nat.le_refl _)).2 aa_ (by omega)).2.2.2
    have h3a := h3_.1
    have h5d := h5_.2.2.2
    have hd2_ : S_.1 3 dd_ 2 = S0_.1 3 dd_ 2 := hF_.1 3 dd_ 2 rfl
    refine sm_T_go 5 (c1 := (61, [some (.inr (.inr (some (1, 0)))), some (.inl k_), some (.inl m_), some (.inl f_), some (.inl a_), some (.inl d_), some (.inl sy_), some (.inl j_), none], [.inl sy_, .inr (.inr (some (80, 0))), .inl j_], S_)) rfl ?_
    refine sm_T_iald (n := 640) rfl rfl (by omega) (by omega) ?_
    have bx1_ : 0 ≤ S_.2.2.1 80 0 sy_.toNat ∧ S_.2.2.1 80 0 sy_.toNat ≤ 8 := hI_.2 80 0 _
    refine sm_T_br (a := 3) (z := 99) rfl (fun cx2_ => ?_) (fun cx2_ => ?_)
    · have cx2_ : (S_.2.2.1 80 0 sy_.toNat) ≤ j_ := of_decide_eq_true cx2_
      refine sm_T_rv rfl ⟨_, _, rfl, rfl, hI_, hF_, ?_⟩
      refine ⟨hD_, ?_⟩
      rw [er]
      have jw_ : j_.toNat = (A_.2.2.2.1 (40 * mm_ + aa_)).toNat := by omega
      rw [jw_] at h1_
      refine ⟨⟨h6_, by rw [h3a]; push_cast; omega, h4_, x4_, x5_, x6_, cfr_st x7_ x5_ (by omega) hO_ (by rw [r_bt_l]; omega) h1_ h2_, ⟨by rw [h5_.1]; exact x8_.1, svl_up x8_.2 (fun z_ => z_) (fun j9_ _ => h5_.2.1 j9_) (fun j9_ _ => h5_.2.2.1 j9_)⟩, ⟨h5_.2.2.2, by rw [jw_] at h7_; exact h7_⟩⟩, fun j9_ q1_ q2_ => h2_ j9_ (by omega), by (rw [jw_] at h8_; rw [hk_, nst_h]; exact h8_)⟩
    · have cx2_ : ¬ ((S_.2.2.1 80 0 sy_.toNat) ≤ j_) := of_decide_eq_false cx2_
      refine sm_T_go 3 (c1 := (68, [some (.inr (.inr (some (1, 0)))), some (.inl k_), some (.inl m_), some (.inl f_), some (.inl a_), some (.inl d_), some (.inl sy_), some (.inl j_), none], [.inr (.inr (some (1, 0))), .inl 1, .inl 2], S_)) rfl ?_
      refine sm_T_gr rfl rfl ((hF_.2.1 1 0 1 rfl).trans hd_) ?_
      have bx3_ : 0 ≤ S_.1 3 dd_ 1 ∧ S_.1 3 dd_ 1 ≤ 320 := hI_.1 3 dd_ 1 rfl
      refine sm_T_go 1 (c1 := (74, [some (.inr (.inr (some (1, 0)))), some (.inl k_), some (.inl m_), some (.inl f_), some (.inl a_), some (.inl d_), some (.inl sy_), some (.inl j_), none], [.inl (S_.1 3 dd_ 1), .inl 1, .inl 2], S_)) rfl ?_
      refine sm_T_bin (w := (S_.1 3 dd_ 1) + 1) rfl (bi_add (by omega) (by omega) (by omega)) ?_
      have bx4_ : 0 ≤ S_.1 1 0 9 ∧ S_.1 1 0 9 ≤ 6 := hI_.1 1 0 9 rfl
      refine sm_T_go 2 (c1 := (79, [some (.inr (.inr (some (1, 0)))), some (.inl k_), some (.inl m_), some (.inl f_), some (.inl a_), some (.inl d_), some (.inl sy_), some (.inl j_), none], [.inl (S_.1 1 0 9), .inl ((S_.1 3 dd_ 1) + 1), .inl 2], S_)) rfl ?_
      refine sm_T_bin (w := (S_.1 3 dd_ 1) + (S_.1 1 0 9) + 1) rfl (bi_add (by omega) (by omega) (by omega)) ?_
      refine sm_T_bin (w := 2 * (S_.1 3 dd_ 1) + 2 * (S_.1 1 0 9) + 2) rfl (bi_mul (by omega) (by omega) (by omega)) ?_
      refine sm_T_go 5 (c1 := (90, [some (.inr (.inr (some (1, 0)))), some (.inl k_), some (.inl m_), some (.inl f_), some (.inl a_), some (.inl d_), some (.inl sy_), some (.inl j_), some (.inl (2 * (S_.1 3 dd_ 1) + 2 * (S_.1 1 0 9) + 2))], [.inl a_, .inl f_, .inr (.inr (some (26, 0)))], S_)) rfl ?_
      refine sm_T_cal (d1 := 0) (Q1 := vq_35 f_ a_ S_) rfl rfl (by decide) (vc_35 f_ a_ S_ hI_ (by omega) (by omega)) (fun u_ Sx5_ px8_ => ?_)
      obtain ⟨rfl, vx10_, rfl, px8_⟩ := px8_
      have e90_ := px8_
      have ec : (vx10_ + j_).toNat = 8 * (40 * ff_ + aa_) + j_.toNat := by omega
      refine sm_T_go 1 (c1 := (95, [some (.inr (.inr (some (1, 0)))), some (.inl k_), some (.inl m_), some (.inl f_), some (.inl a_), some (.inl d_), some (.inl sy_), some (.inl j_), some (.inl (2 * (S_.1 3 dd_ 1) + 2 * (S_.1 1 0 9) + 2))], [.inl j_, .inl vx10_, .inr (.inr (some (26, 0)))], S_)) rfl ?_
      refine sm_T_bin (w := vx10_ + j_) rfl (bi_add (by omega) (by omega) (by omega)) ?_
      refine sm_T_go 1 (c1 := (98, [some (.inr (.inr (some (1, 0)))), some (.inl k_), some (.inl m_), some (.inl f_), some (.inl a_), some (.inl d_), some (.inl sy_), some (.inl j_), some (.inl (2 * (S_.1 3 dd_ 1) + 2 * (S_.1 1 0 9) + 2))], [.inl (2 * (S_.1 3 dd_ 1) + 2 * (S_.1 1 0 9) + 2), .inl (vx10_ + j_), .inr (.inr (some (26, 0)))], S_)) rfl ?_
      refine sm_T_iast (n := 64320) rfl rfl (by omega) (by omega) ?_
      have hIx11_ : gi (sm_aI S_ 26 0 (vx10_ + j_).toNat (2 * (S_.1 3 dd_ 1) + 2 * (S_.1 1 0 9) + 2)) := gi_aI hI_ (show 0 ≤ 2 * (S_.1 3 dd_ 1) + 2 * (S_.1 1 0 9) + 2 ∧ 2 * (S_.1 3 dd_ 1) + 2 * (S_.1 1 0 9) + 2 ≤ 2025 from ⟨by omega, by omega⟩)
      have hFx12_ : ai_fr (sx_W vw_38n) S0_ (sm_aI S_ 26 0 (vx10_ + j_).toNat (2 * (S_.1 3 dd_ 1) + 2 * (S_.1 1 0 9) + 2)) := ai_fr_tr hF_ (ai_fr_aI rfl)
      have hDx13_ : idf dd_ S0_ (sm_aI S_ 26 0 (vx10_ + j_).toNat (2 * (S_.1 3 dd_ 1) + 2 * (S_.1 1 0 9) + 2)) := idf_aI hD_ (Or.inl (by decide))
      refine sm_T_go 1 (c1 := (100, [some (.inr (.inr (some (1, 0)))), some (.inl k_), some (.inl m_), some (.inl f_), some (.inl a_), some (.inl d_), some (.inl sy_), some (.inl j_), some (.inl (2 * (S_.1 3 dd_ 1) + 2 * (S_.1 1 0 9) + 2))], [.inr (.inr (some (1, 0)))], sm_aI S_ 26 0 (vx10_ + j_).toNat (2 * (S_.1 3 dd_ 1) + 2 * (S_.1 1 0 9) + 2))) rfl ?_
      refine sm_T_gr rfl rfl ((hFx12_.2.1 1 0 1 rfl).trans hd_) ?_
      refine sm_T_go 4 (c1 := (112, [some (.inr (.inr (some (1, 0)))), some (.inl k_), some (.inl m_), some (.inl f_), some (.inl a_), some (.inl d_), some (.inl sy_), some (.inl j_), some (.inl (2 * (S_.1 3 dd_ 1) + 2 * (S_.1 1 0 9) + 2))], [.inl (2 * (S_.1 3 dd_ 1) + 2 * (S_.1 1 0 9) + 2), .inl (S_.1 1 0 9), .inr (.inr (some (46, (0 + dd_))))], sm_aI S_ 26 0 (vx10_ + j_).toNat (2 * (S_.1 3 dd_ 1) + 2 * (S_.1 1 0 9) + 2))) rfl ?_
      refine sm_T_iast (n := 6) rfl rfl (by omega) (by omega) ?_
      have hIx14_ : gi (sm_aI (sm_aI S_ 26 0 (vx10_ + j_).toNat (2 * (S_.1 3 dd_ 1) + 2 * (S_.1 1 0 9) + 2)) 46 (0 + dd_) (S_.1 1 0 9).toNat (2 * (S_.1 3 dd_ 1) + 2 * (S_.1 1 0 9) + 2)) := gi_aI hIx11_ (show 0 ≤ 2 * (S_.1 3 dd_ 1) + 2 * (S_.1 1 0 9) + 2 ∧ 2 * (S_.1 3 dd_ 1) + 2 * (S_.1 1 0 9) + 2 ≤ 2025 from ⟨by omega, by omega⟩)
      have hFx15_ : ai_fr (sx_W vw_38n) S0_ (sm_aI (sm_aI S_ 26 0 (vx10_ + j_).toNat (2 * (S_.1 3 dd_ 1) + 2 * (S_.1 1 0 9) + 2)) 46 (0 + dd_) (S_.1 1 0 9).toNat (2 * (S_.1 3 dd_ 1) + 2 * (S_.1 1 0 9) + 2)) := ai_fr_tr hFx12_ (ai_fr_aI rfl)
      have hDx16_ : idf dd_ S0_ (sm_aI (sm_aI S_ 26 0 (vx10_ + j_).toNat (2 * (S_.1 3 dd_ 1) + 2 * (S_.1 1 0 9) + 2)) 46 (0 + dd_) (S_.1 1 0 9).toNat (2 * (S_.1 3 dd_ 1) + 2 * (S_.1 1 0 9) + 2)) := idf_aI hDx13_ (Or.inr rfl)
      refine sm_T_go 1 (c1 := (114, [some (.inr (.inr (some (1, 0)))), some (.inl k_), some (.inl m_), some (.inl f_), some (.inl a_), some (.inl d_), some (.inl sy_), some (.inl j_), some (.inl (2 * (S_.1 3 dd_ 1) + 2 * (S_.1 1 0 9) + 2))], [.inr (.inr (some (1, 0)))], sm_aI (sm_aI S_ 26 0 (vx10_ + j_).toNat (2 * (S_.1 3 dd_ 1) + 2 * (S_.1 1 0 9) + 2)) 46 (0 + dd_) (S_.1 1 0 9).toNat (2 * (S_.1 3 dd_ 1) + 2 * (S_.1 1 0 9) + 2))) rfl ?_
      refine sm_T_gr rfl rfl ((hFx15_.2.1 1 0 1 rfl).trans hd_) ?_
      have bx17_ : 0 ≤ S_.1 3 dd_ 5 ∧ S_.1 3 dd_ 5 ≤ 63 := hI_.1 3 dd_ 5 rfl
      refine sm_T_go 6 (c1 := (130, [some (.inr (.inr (some (1, 0)))), some (.inl k_), some (.inl m_), some (.inl f_), some (.inl a_), some (.inl d_), some (.inl sy_), some (.inl j_), some (.inl (2 * (S_.1 3 dd_ 1) + 2 * (S_.1 1 0 9) + 2))], [.inl sy_, .inr (.inr (some (81, 0))), .inl (S_.1 3 dd_ 5), .inr (.inr (some (3, dd_)))], sm_aI (sm_aI S_ 26 0 (vx10_ + j_).toNat (2 * (S_.1 3 dd_ 1) + 2 * (S_.1 1 0 9) + 2)) 46 (0 + dd_) (S_.1 1 0 9).toNat (2 * (S_.1 3 dd_ 1) + 2 * (S_.1 1 0 9) + 2))) rfl ?_
      refine sm_T_iald (n := 640) rfl rfl (by omega) (by omega) ?_
      have bx18_ : 0 ≤ S_.2.2.1 81 0 sy_.toNat ∧ S_.2.2.1 81 0 sy_.toNat ≤ 255 := hI_.2 81 0 _
      refine sm_T_go 1 (c1 := (133, [some (.inr (.inr (some (1, 0)))), some (.inl k_), some (.inl m_), some (.inl f_), some (.inl a_), some (.inl d_), some (.inl sy_), some (.inl j_), some (.inl (2 * (S_.1 3 dd_ 1) + 2 * (S_.1 1 0 9) + 2))], [.inl j_, .inl (S_.2.2.1 81 0 sy_.toNat), .inl (S_.1 3 dd_ 5), .inr (.inr (some (3, dd_)))], sm_aI (sm_aI S_ 26 0 (vx10_ + j_).toNat (2 * (S_.1 3 dd_ 1) + 2 * (S_.1 1 0 9) + 2)) 46 (0 + dd_) (S_.1 1 0 9).toNat (2 * (S_.1 3 dd_ 1) + 2 * (S_.1 1 0 9) + 2))) rfl ?_
      refine sm_T_bin (w := (i_shr (S_.2.2.1 81 0 sy_.toNat) j_)) rfl rfl ?_
      refine sm_T_go 1 (c1 := (135, [some (.inr (.inr (some (1, 0)))), some (.inl k_), some (.inl m_), some (.inl f_), some (.inl a_), some (.inl d_), some (.inl sy_), some (.inl j_), some (.inl (2 * (S_.1 3 dd_ 1) + 2 * (S_.1 1 0 9) + 2))], [.inl 1, .inl (i_shr (S_.2.2.1 81 0 sy_.toNat) j_), .inl (S_.1 3 dd_ 5), .inr (.inr (some (3, dd_)))], sm_aI (sm_aI S_ 26 0 (vx10_ + j_).toNat (2 * (S_.1 3 dd_ 1) + 2 * (S_.1 1 0 9) + 2)) 46 (0 + dd_) (S_.1 1 0 9).toNat (2 * (S_.1 3 dd_ 1) + 2 * (S_.1 1 0 9) + 2))) rfl ?_
      refine sm_T_bin (w := ((i_shr (S_.2.2.1 81 0 sy_.toNat) j_) % 2)) rfl (bi_msk (k := 1) (by decide)) ?_
      refine sm_T_go 2 (c1 := (140, [some (.inr (.inr (some (1, 0)))), some (.inl k_), some (.inl m_), some (.inl f_), some (.inl a_), some (.inl d_), some (.inl sy_), some (.inl j_), some (.inl (2 * (S_.1 3 dd_ 1) + 2 * (S_.1 1 0 9) + 2))], [.inl (S_.1 1 0 9), .inl ((i_shr (S_.2.2.1 81 0 sy_.toNat) j_) % 2), .inl (S_.1 3 dd_ 5), .inr (.inr (some (3, dd_)))], sm_aI (sm_aI S_ 26 0 (vx10_ + j_).toNat (2 * (S_.1 3 dd_ 1) + 2 * (S_.1 1 0 9) + 2)) 46 (0 + dd_) (S_.1 1 0 9).toNat (2 * (S_.1 3 dd_ 1) + 2 * (S_.1 1 0 9) + 2))) rfl ?_
      refine sm_T_bin (w := (i_shl ((i_shr (S_.2.2.1 81 0 sy_.toNat) j_) % 2) (S_.1 1 0 9))) rfl rfl ?_
      have bx19_ := i_shb (x_ := ((i_shr (S_.2.2.1 81 0 sy_.toNat) j_) % 2)) (y_ := (S_.1 1 0 9)) (by omega) (by omega)
      refine sm_T_bin (w := (i_or (S_.1 3 dd_ 5) (i_shl ((i_shr (S_.2.2.1 81 0 sy_.toNat) j_) % 2) (S_.1 1 0 9)))) rfl rfl ?_
      have bx20_ := i_orb (x_ := (S_.1 3 dd_ 5)) (y_ := (i_shl ((i_shr (S_.2.2.1 81 0 sy_.toNat) j_) % 2) (S_.1 1 0 9))) (by omega) (by omega)
      have hIx21_ : gi (sm_pI (sm_aI (sm_aI S_ 26 0 (vx10_ + j_).toNat (2 * (S_.1 3 dd_ 1) + 2 * (S_.1 1 0 9) + 2)) 46 (0 + dd_) (S_.1 1 0 9).toNat (2 * (S_.1 3 dd_ 1) + 2 * (S_.1 1 0 9) + 2)) 3 dd_ 5 (i_or (S_.1 3 dd_ 5) (i_shl ((i_shr (S_.2.2.1 81 0 sy_.toNat) j_) % 2) (S_.1 1 0 9)))) := gi_pI hIx14_ (show 0 ≤ (i_or (S_.1 3 dd_ 5) (i_shl ((i_shr (S_.2.2.1 81 0 sy_.toNat) j_) % 2) (S_.1 1 0 9))) ∧ (i_or (S_.1 3 dd_ 5) (i_shl ((i_shr (S_.2.2.1 81 0 sy_.toNat) j_) % 2) (S_.1 1 0 9))) ≤ 63 from ⟨by omega, by omega⟩)
      have hFx22_ : ai_fr (sx_W vw_38n) S0_ (sm_pI (sm_aI (sm_aI S_ 26 0 (vx10_ + j_).toNat (2 * (S_.1 3 dd_ 1) + 2 * (S_.1 1 0 9) + 2)) 46 (0 + dd_) (S_.1 1 0 9).toNat (2 * (S_.1 3 dd_ 1) + 2 * (S_.1 1 0 9) + 2)) 3 dd_ 5 (i_or (S_.1 3 dd_ 5) (i_shl ((i_shr (S_.2.2.1 81 0 sy_.toNat) j_) % 2) (S_.1 1 0 9)))) := ai_fr_tr hFx15_ (ai_fr_pI rfl)
      have hDx23_ : idf dd_ S0_ (sm_pI (sm_aI (sm_aI S_ 26 0 (vx10_ + j_).toNat (2 * (S_.1 3 dd_ 1) + 2 * (S_.1 1 0 9) + 2)) 46 (0 + dd_) (S_.1 1 0 9).toNat (2 * (S_.1 3 dd_ 1) + 2 * (S_.1 1 0 9) + 2)) 3 dd_ 5 (i_or (S_.1 3 dd_ 5) (i_shl ((i_shr (S_.2.2.1 81 0 sy_.toNat) j_) % 2) (S_.1 1 0 9)))) := idf_pI hDx16_ (Or.inr rfl)
      refine sm_T_go 5 (c1 := (151, [some (.inr (.inr (some (1, 0)))), some (.inl k_), some (.inl m_), some (.inl f_), some (.inl a_), some (.inl d_), some (.inl sy_), some (.inl j_), some (.inl (2 * (S_.1 3 dd_ 1) + 2 * (S_.1 1 0 9) + 2))], [.inl 1, .inl (S_.1 1 0 9), .inr (.inr (some (1, 0)))], sm_pI (sm_aI (sm_aI S_ 26 0 (vx10_ + j_).toNat (2 * (S_.1 3 dd_ 1) + 2 * (S_.1 1 0 9) + 2)) 46 (0 + dd_) (S_.1 1 0 9).toNat (2 * (S_.1 3 dd_ 1) + 2 * (S_.1 1 0 9) + 2)) 3 dd_ 5 (i_or (S_.1 3 dd_ 5) (i_shl ((i_shr (S_.2.2.1 81 0 sy_.toNat) j_) % 2) (S_.1 1 0 9))))) rfl ?_
      refine sm_T_bin (w := (S_.1 1 0 9) + 1) rfl (bi_add (by omega) (by omega) (by omega)) ?_
      have hIx24_ : gi (sm_pI (sm_pI (sm_aI (sm_aI S_ 26 0 (vx10_ + j_).toNat (2 * (S_.1 3 dd_ 1) + 2 * (S_.1 1 0 9) + 2)) 46 (0 + dd_) (S_.1 1 0 9).toNat (2 * (S_.1 3 dd_ 1) + 2 * (S_.1 1 0 9) + 2)) 3 dd_ 5 (i_or (S_.1 3 dd_ 5) (i_shl ((i_shr (S_.2.2.1 81 0 sy_.toNat) j_) % 2) (S_.1 1 0 9)))) 1 0 9 ((S_.1 1 0 9) + 1)) := gi_pI hIx21_ (show 0 ≤ (S_.1 1 0 9) + 1 ∧ (S_.1 1 0 9) + 1 ≤ 6 from ⟨by omega, by omega⟩)
      have hFx25_ : ai_fr (sx_W vw_38n) S0_ (sm_pI (sm_pI (sm_aI (sm_aI S_ 26 0 (vx10_ + j_).toNat (2 * (S_.1 3 dd_ 1) + 2 * (S_.1 1 0 9) + 2)) 46 (0 + dd_) (S_.1 1 0 9).toNat (2 * (S_.1 3 dd_ 1) + 2 * (S_.1 1 0 9) + 2)) 3 dd_ 5 (i_or (S_.1 3 dd_ 5) (i_shl ((i_shr (S_.2.2.1 81 0 sy_.toNat) j_) % 2) (S_.1 1 0 9)))) 1 0 9 ((S_.1 1 0 9) + 1)) := ai_fr_tr hFx22_ (ai_fr_pI rfl)
      have hDx26_ : idf dd_ S0_ (sm_pI (sm_pI (sm_aI (sm_aI S_ 26 0 (vx10_ + j_).toNat (2 * (S_.1 3 dd_ 1) + 2 * (S_.1 1 0 9) + 2)) 46 (0 + dd_) (S_.1 1 0 9).toNat (2 * (S_.1 3 dd_ 1) + 2 * (S_.1 1 0 9) + 2)) 3 dd_ 5 (i_or (S_.1 3 dd_ 5) (i_shl ((i_shr (S_.2.2.1 81 0 sy_.toNat) j_) % 2) (S_.1 1 0 9)))) 1 0 9 ((S_.1 1 0 9) + 1)) := idf_pI hDx23_ (Or.inl (by decide))
      refine sm_T_go 1 (c1 := (155, [some (.inr (.inr (some (1, 0)))), some (.inl k_), some (.inl m_), some (.inl f_), some (.inl a_), some (.inl d_), some (.inl sy_), some (.inl j_), some (.inl (2 * (S_.1 3 dd_ 1) + 2 * (S_.1 1 0 9) + 2))], [], sm_pI (sm_pI (sm_aI (sm_aI S_ 26 0 (vx10_ + j_).toNat (2 * (S_.1 3 dd_ 1) + 2 * (S_.1 1 0 9) + 2)) 46 (0 + dd_) (S_.1 1 0 9).toNat (2 * (S_.1 3 dd_ 1) + 2 * (S_.1 1 0 9) + 2)) 3 dd_ 5 (i_or (S_.1 3 dd_ 5) (i_shl ((i_shr (S_.2.2.1 81 0 sy_.toNat) j_) % 2) (S_.1 1 0 9)))) 1 0 9 ((S_.1 1 0 9) + 1))) rfl ?_
      refine sm_T_inc (a := 7) (z := 1) (v := j_) (w := j_ + 1) rfl rfl (by omega) (by omega) (by omega) ?_
      refine sm_T_go 1 (c1 := (50, [some (.inr (.inr (some (1, 0)))), some (.inl k_), some (.inl m_), some (.inl f_), some (.inl a_), some (.inl d_), some (.inl sy_), some (.inl (j_ + 1)), some (.inl (2 * (S_.1 3 dd_ 1) + 2 * (S_.1 1 0 9) + 2))], [], sm_pI (sm_pI (sm_aI (sm_aI S_ 26 0 (vx10_ + j_).toNat (2 * (S_.1 3 dd_ 1) + 2 * (S_.1 1 0 9) + 2)) 46 (0 + dd_) (S_.1 1 0 9).toNat (2 * (S_.1 3 dd_ 1) + 2 * (S_.1 1 0 9) + 2)) 3 dd_ 5 (i_or (S_.1 3 dd_ 5) (i_shl ((i_shr (S_.2.2.1 81 0 sy_.toNat) j_) % 2) (S_.1 1 0 9)))) 1 0 9 ((S_.1 1 0 9) + 1))) rfl ?_
      refine sm_T_wk [some (.inr (.inr (some (1, 0)))), some (.inl k_), some (.inl m_), some (.inl f_), some (.inl a_), some (.inl d_), some (.inl sy_), some (.inl (j_ + 1)), none] (by exact ⟨rfl, rfl, rfl, rfl, rfl, rfl, rfl, rfl, trivial⟩) ?_
      refine ih_ sy_ (j_ + 1) (sm_pI (sm_pI (sm_aI (sm_aI S_ 26 0 (vx10_ + j_).toNat (2 * (S_.1 3 dd_ 1) + 2 * (S_.1 1 0 9) + 2)) 46 (0 + dd_) (S_.1 1 0 9).toNat (2 * (S_.1 3 dd_ 1) + 2 * (S_.1 1 0 9) + 2)) 3 dd_ 5 (i_or (S_.1 3 dd_ 5) (i_shl ((i_shr (S_.2.2.1 81 0 sy_.toNat) j_) % 2) (S_.1 1 0 9)))) 1 0 9 ((S_.1 1 0 9) + 1)) hIx24_ hFx25_ ⟨?_, ?_, ?_, ?_, ?_, ?_, ?_, ?_, ?_, ?_, ?_, trivial⟩ ?_
      · exact hk_
      · omega
      · rw [show (j_ + 1).toNat = j_.toNat + 1 by omega, r_bt_s]
        refine rwv_ap (q_ := 8 * (40 * ff_ + aa_) + j_.toNat) h1_ (by rw [r_bt_l]) (fun j9_ => ?_)
        (try simp only [rd_eq, rd_ne, rf_eq, rf_nk, rf_nt, rd_fa, rd_af, rd_fl, rd_al, rd_lf, rd_la, rd_leq, rd_lne, rd_fr, rd_ar, ne_eq, Nat.reduceEqDiff, not_false_eq_true])
        rw [ec]
        by_cases q9_ : j9_ = 8 * (40 * ff_ + aa_) + j_.toNat
        · rw [if_pos q9_, if_pos q9_]; push_cast; omega
        · rw [if_neg q9_, if_neg q9_]
      · intro j9_ q_
        (try simp only [rd_eq, rd_ne, rf_eq, rf_nk, rf_nt, rd_fa, rd_af, rd_fl, rd_al, rd_lf, rd_la, rd_leq, rd_lne, rd_fr, rd_ar, ne_eq, Nat.reduceEqDiff, not_false_eq_true])
        rw [ec, if_neg (by omega)]
        exact h2_ j9_ q_
      · (try simp only [rd_eq, rd_ne, rf_eq, rf_nk, rf_nt, rd_fa, rd_af, rd_fl, rd_al, rd_lf, rd_la, rd_leq, rd_lne, rd_fr, rd_ar, ne_eq, Nat.reduceEqDiff, not_false_eq_true]); omega
      · (show S_.1 1 0 3 = _; exact h4_)
      · refine ⟨h5_.1, fun j9_ => ?_, fun j9_ => ?_, ?_⟩
        · (try simp only [rd_eq, rd_ne, rf_eq, rf_nk, rf_nt, rd_fa, rd_af, rd_fl, rd_al, rd_lf, rd_la, rd_leq, rd_lne, rd_fr, rd_ar, ne_eq, Nat.reduceEqDiff, not_false_eq_true]); exact h5_.2.1 j9_
        · (try simp only [rd_eq, rd_ne, rf_eq, rf_nk, rf_nt, rd_fa, rd_af, rd_fl, rd_al, rd_lf, rd_la, rd_leq, rd_lne, rd_fr, rd_ar, ne_eq, Nat.reduceEqDiff, not_false_eq_true]); exact h5_.2.2.1 j9_
        · (try simp only [rd_eq, rd_ne, rf_eq, rf_nk, rf_nt, rd_fa, rd_af, rd_fl, rd_al, rd_lf, rd_la, rd_leq, rd_lne, rd_fr, rd_ar, ne_eq, Nat.reduceEqDiff, not_false_eq_true]); exact h5d
      · exact cgl_fr (w_ := ([(1, 9), (3, 5)], [26, 46], [])) h6_ (ai_fr_tr (ai_fr_tr (ai_fr_tr (ai_fr_aI rfl) (ai_fr_aI rfl)) (ai_fr_pI rfl)) (ai_fr_pI rfl)) rfl rfl rfl rfl rfl rfl rfl rfl
      · refine ⟨?_, ?_⟩
        (try simp only [rd_eq, rd_ne, rf_eq, rf_nk, rf_nt, rd_fa, rd_af, rd_fl, rd_al, rd_lf, rd_la, rd_leq, rd_lne, rd_fr, rd_ar, ne_eq, Nat.reduceEqDiff, not_false_eq_true])
        rw [show (j_ + 1).toNat = j_.toNat + 1 by omega, ← Nat.add_assoc, show S_.1 1 0 9 = ((s_.1.2.1 + j_.toNat : Nat) : Int) by omega]
        exact bg_up h7_.1.1 h7_.1.2 (by omega) (by omega)
        intro k9_ hk9_
        have nn_ := cgl_n h6_ hok_
        have q7_ := h7_.2 k9_
        have rF_ : 1 + I_ + (s_.1.2.1 + (A_.2.2.2.1 (40 * mm_ + aa_)).toNat) ≤ F_ := by rw [er] at hRF_; exact hRF_
        (try simp only [rd_eq, rd_ne, rf_eq, rf_nk, rf_nt, rd_fa, rd_af, rd_fl, rd_al, rd_lf, rd_la, rd_leq, rd_lne, rd_fr, rd_ar, ne_eq, Nat.reduceEqDiff, not_false_eq_true])
        by_cases q9_ : k9_ = (S_.1 1 0 9).toNat
        · rw [if_pos q9_, nn_]; push_cast; omega
        · rw [if_neg q9_]; exact q7_ (by omega)
      · have r9_ : (S_.1 1 0 9) = ((s_.1.2.1 + j_.toNat : Nat) : Int) := by omega
        have d9_ := h8_.1
        refine ⟨?_, fun i9_ hi9_ => ?_⟩
        · rw [show (j_ + 1).toNat = j_.toNat + 1 by omega]; show _ = bho (A_.2.2.2.2 (40 * mm_ + aa_)) s_.1.2.1 (j_.toNat + 1) x0_.2; rw [bho_s, show ((j_.toNat : Nat) : Int) = j_ by omega]; have d8_ : S_.1 3 dd_ 5 = bho (A_.2.2.2.2 (40 * mm_ + aa_)) s_.1.2.1 j_.toNat x0_.2 := d9_; (try simp only [rd_eq, rd_ne, rf_eq, rf_nk, rf_nt, rd_fa, rd_af, rd_fl, rd_al, rd_lf, rd_la, rd_leq, rd_lne, rd_fr, rd_ar, ne_eq, Nat.reduceEqDiff, not_false_eq_true]); rw [r9_, w81_, d8_]
        · have q8_ := h8_.2 i9_; show _ = nho I_ s_.1.2.1 (j_ + 1).toNat x0_.1 i9_; rw [show (j_ + 1).toNat = j_.toNat + 1 by omega]; (try simp only [rd_eq, rd_ne, rf_eq, rf_nk, rf_nt, rd_fa, rd_af, rd_fl, rd_al, rd_lf, rd_la, rd_leq, rd_lne, rd_fr, rd_ar, ne_eq, Nat.reduceEqDiff, not_false_eq_true]); by_cases q9_ : i9_ = (S_.1 1 0 9).toNat; (rw [if_pos q9_]; unfold nho; rw [if_pos (by omega)]; push_cast; omega); (rw [if_neg q9_]; refine (q8_ (by omega)).trans ?_; show nho I_ s_.1.2.1 j_.toNat x0_.1 i9_ = _; unfold nho; by_cases q7_ : s_.1.2.1 ≤ i9_ ∧ i9_ < s_.1.2.1 + j_.toNat; (rw [if_pos q7_, if_pos (by omega)]); (rw [if_neg q7_, if_neg (by omega)]))
      · exact hDx26_
      · omega
set_option maxHeartbeats 2000000 in
set_option maxRecDepth 20000 in
theorem vc_38n {sc_ : Nat × (Nat → Int)} (k_ : Int) (m_ : Int) (f_ : Int) (a_ : Int) (d_ : Int) (tb_ : Nat → Int) (tn_ : Nat) (A_ : pA) (mm_ : Nat) (ff_ : Nat) (aa_ : Nat) (dd_ : Nat) (F_ : Nat) (I_ : Nat) (s_ : gS) (r_ : gS) (fc0_ : Nat) (x0_ : gN) (S0_ : sm_S) (hI_ : gi S0_) (hI0_ : gi S0_) (hd_ : S0_.2.1 1 0 1 = some dd_) (hk0_ : 12 ≤ k_ ∧ k_ ≤ 16) (hd0_ : 0 ≤ d_ ∧ d_ ≤ 1048576) (hm1_ : m_ = (mm_ : Int) ∧ mm_ ≤ 15) (hf1_ : f_ = (ff_ : Int)) (ha1_ : a_ = (aa_ : Int) ∧ aa_ ≤ 63) (her_ : ∀ k9_, k9_ ≤ mm_ → er1 tb_ tn_ A_ k9_ S0_) (hA_ : a_ok tb_ tn_ A_ mm_) (hx_ : cxs dd_ F_ I_ ff_ fc0_ s_ S0_) (hok_ : s_.1.1.length ≤ 1000) (he_ : e_st I_ A_ mm_ k_ aa_ d_ s_ = some r_) (hlw_ : lwS F_ s_) (hRF_ : 1 + I_ + r_.1.2.1 ≤ F_) (hn_ : cxn dd_ s_.1.2.1 x0_ S0_) : sm_T (mt_P sc_) 1 38 (0, [some (.inr (.inr (some (1, 0)))), some (.inl k_), some (.inl m_), some (.inl f_), some (.inl a_), some (.inl d_), none, none, none], [], S0_) (fun ro9_ => ∃ u_ S1_, ro9_ = (.inl u_, S1_, 0) ∧ vq_38n k_ m_ f_ a_ d_ tb_ tn_ A_ mm_ ff_ aa_ dd_ F_ I_ s_ r_ fc0_ x0_ S0_ u_ S1_) := by
  have hF_ : ai_fr (sx_W vw_38n) S0_ S0_ := ai_fr_rf
  have hD_ : idf dd_ S0_ S0_ := idf_rf
  obtain ⟨x1_, x2_, x3_, x4_, x5_, x6_, x7_, x8_, x9_⟩ := id hx_
  have x9a := x9_.1
  have cb_ := cgl_b x1_
  have c12_ : 0 ≤ S0_.1 3 dd_ 1 ∧ 0 ≤ S0_.1 3 dd_ 2 := ⟨(hI0_.1 3 dd_ 1 rfl).1, (hI0_.1 3 dd_ 2 rfl).1⟩
  have A40_ := (hA_.2 mm_ (Nat.le_refl _)).1
  have tp9_ := x8_.1
  have tq9_ : S0_.1 1 0 6 ≤ 512 := (hI0_.1 1 0 6 rfl).2
  refine sm_T_go 2 (c1 := (3, [some (.inr (.inr (some (1, 0)))), some (.inl k_), some (.inl m_), some (.inl f_), some (.inl a_), some (.inl d_), none, none, none], [.inl 40, .inl m_], S0_)) rfl ?_
  refine sm_T_bin (w := 40 * m_) rfl (bi_mul (by omega) (by omega) (by omega)) ?_
  refine sm_T_go 1 (c1 := (6, [some (.inr (.inr (some (1, 0)))), some (.inl k_), some (.inl m_), some (.inl f_), some (.inl a_), some (.inl d_), none, none, none], [.inl a_, .inl (40 * m_)], S0_)) rfl ?_
  refine sm_T_bin (w := 40 * m_ + a_) rfl (bi_add (by omega) (by omega) (by omega)) ?_
  refine sm_T_go 3 (c1 := (12, [some (.inr (.inr (some (1, 0)))), some (.inl k_), some (.inl m_), some (.inl f_), some (.inl a_), some (.inl d_), some (.inl (40 * m_ + a_)), none, none], [.inl 15, .inl k_], S0_)) rfl ?_
  refine sm_T_br (a := 1) (z := 29) rfl (fun cx1_ => ?_) (fun cx1_ => ?_)
  · have cx1_ : k_ ≠ 15 := of_decide_eq_true cx1_
    refine sm_T_go 2 (c1 := (44, [some (.inr (.inr (some (1, 0)))), some (.inl k_), some (.inl m_), some (.inl f_), some (.inl a_), some (.inl d_), some (.inl (40 * m_ + a_)), none, none], [.inl 13, .inl k_], S0_)) rfl ?_
    refine sm_T_br (a := 1) (z := 118) rfl (fun cx2_ => ?_) (fun cx2_ => ?_)
    · have cx2_ : k_ ≠ 13 := of_decide_eq_true cx2_
      obtain ⟨aM_, x_, l_, hsV_, hcs_⟩ := e_stp he_ (by omega) (by omega)
      rw [hsV_] at x8_
      have hxl_ : lwl (F_ + s_.1.1.length) x_ := by have q9_ := hlw_.2.2.2; rw [hsV_] at q9_; exact (lwV_c.mp q9_).1
      have x8b : x_.length ≤ 8 := x8_.2.2.1.2
      have tp_ : S0_.1 1 0 6 = (l_.length : Int) + 1 := by rw [x8_.1]; simp only [List.length_cons]; push_cast; omega
      have bx3_ : 0 ≤ S0_.1 1 0 6 ∧ S0_.1 1 0 6 ≤ 512 := hI_.1 1 0 6 rfl
      refine sm_T_go 4 (c1 := (168, [some (.inr (.inr (some (1, 0)))), some (.inl k_), some (.inl m_), some (.inl f_), some (.inl a_), some (.inl d_), some (.inl (40 * m_ + a_)), none, none], [.inl 1, .inl (S0_.1 1 0 6), .inr (.inr (some (1, 0)))], S0_)) rfl ?_
      refine sm_T_bin (w := (S0_.1 1 0 6) - 1) rfl (bi_sub (by omega) (by omega) (by omega)) ?_
      have hIx4_ : gi (sm_pI S0_ 1 0 6 ((S0_.1 1 0 6) - 1)) := gi_pI hI_ (show 0 ≤ (S0_.1 1 0 6) - 1 ∧ (S0_.1 1 0 6) - 1 ≤ 512 from ⟨by omega, by omega⟩)
      have hFx5_ : ai_fr (sx_W vw_38n) S0_ (sm_pI S0_ 1 0 6 ((S0_.1 1 0 6) - 1)) := ai_fr_tr hF_ (ai_fr_pI rfl)
      have hDx6_ : idf dd_ S0_ (sm_pI S0_ 1 0 6 ((S0_.1 1 0 6) - 1)) := idf_pI hD_ (Or.inl (by decide))
      refine sm_T_go 3 (c1 := (175, [some (.inr (.inr (some (1, 0)))), some (.inl k_), some (.inl m_), some (.inl f_), some (.inl a_), some (.inl d_), some (.inl (40 * m_ + a_)), none, none], [.inl 14, .inl k_], sm_pI S0_ 1 0 6 ((S0_.1 1 0 6) - 1))) rfl ?_
      refine sm_T_br (a := 1) (z := 63) rfl (fun cx7_ => ?_) (fun cx7_ => ?_)
      · have cx7_ : k_ ≠ 14 := of_decide_eq_true cx7_
        refine sm_T_go 2 (c1 := (241, [some (.inr (.inr (some (1, 0)))), some (.inl k_), some (.inl m_), some (.inl f_), some (.inl a_), some (.inl d_), some (.inl (40 * m_ + a_)), none, none], [.inl 12, .inl k_], sm_pI S0_ 1 0 6 ((S0_.1 1 0 6) - 1))) rfl ?_
        refine sm_T_br (a := 1) (z := 12) rfl (fun cx8_ => ?_) (fun cx8_ => ?_)
        · have cx8_ : k_ ≠ 12 := of_decide_eq_true cx8_
          obtain ⟨hk_, o_, hO_, d40_, xl_, er⟩ : k_ = 16 ∧ ∃ o_, s_.2.2.1 aa_ = some o_ ∧ (0 ≤ d_ ∧ d_ < 40) ∧ x_.length ≤ 8 ∧ r_ = (s_.1, s_.2.1, up1 s_.2.2.1 aa_ (some (up1 o_ d_.toNat x_)), l_) := by rcases hcs_ with q_ | q_ | q_; (exact absurd q_.1 (by omega)); (exact absurd q_.1 (by omega)); (exact q_)
          obtain ⟨xE_, P_, xP_⟩ := id x7_
          have yP_ := xP_ aa_ (by omega) o_ hO_
          have y2_ := yP_.2.1
          have pt_ : S0_.2.2.1 26 0 (8 * (40 * f_ + a_)).toNat = (P_ aa_ : Int) := by rw [show (8 * (40 * f_ + a_)).toNat = 8 * (40 * ff_ + aa_) by omega]; exact yP_.1
          refine sm_T_go 4 (c1 := (260, [some (.inr (.inr (some (1, 0)))), some (.inl k_), some (.inl m_), some (.inl f_), some (.inl a_), some (.inl d_), some (.inl (40 * m_ + a_)), none, none], [.inl a_, .inl f_, .inr (.inr (some (26, 0)))], sm_pI S0_ 1 0 6 ((S0_.1 1 0 6) - 1))) rfl ?_
          refine sm_T_cal (d1 := 0) (Q1 := vq_35 f_ a_ (sm_pI S0_ 1 0 6 ((S0_.1 1 0 6) - 1))) rfl rfl (by decide) (vc_35 f_ a_ (sm_pI S0_ 1 0 6 ((S0_.1 1 0 6) - 1)) hIx4_ (by omega) (by omega)) (fun u_ Sx9_ px12_ => ?_)
          obtain ⟨rfl, vx14_, rfl, px12_⟩ := px12_
          have e260_ := px12_
          have pt2_ : S0_.2.2.1 26 0 vx14_.toNat = (P_ aa_ : Int) := by rw [e260_]; exact pt_
          refine sm_T_iald (n := 64320) rfl rfl (by omega) (by omega) ?_
          have bx15_ : 0 ≤ S0_.2.2.1 26 0 vx14_.toNat ∧ S0_.2.2.1 26 0 vx14_.toNat ≤ 2025 := hI_.2 26 0 _
          refine sm_T_go 1 (c1 := (266, [some (.inr (.inr (some (1, 0)))), some (.inl k_), some (.inl m_), some (.inl f_), some (.inl a_), some (.inl d_), some (.inl (40 * m_ + a_)), none, none], [.inl d_, .inl (S0_.2.2.1 26 0 vx14_.toNat)], sm_pI S0_ 1 0 6 ((S0_.1 1 0 6) - 1))) rfl ?_
          refine sm_T_cal (d1 := 0) (Q1 := vq_35 (S0_.2.2.1 26 0 vx14_.toNat) d_ (sm_pI S0_ 1 0 6 ((S0_.1 1 0 6) - 1))) rfl rfl (by decide) (vc_35 (S0_.2.2.1 26 0 vx14_.toNat) d_ (sm_pI S0_ 1 0 6 ((S0_.1 1 0 6) - 1)) hIx4_ (by omega) (by omega)) (fun u_ Sx16_ px19_ => ?_)
          obtain ⟨rfl, vx21_, rfl, px19_⟩ := px19_
          have e266_ := px19_
          have ec : vx21_.toNat = 8 * (40 * P_ aa_ + d_.toNat) := by rw [e266_, pt2_]; omega
          refine sm_T_go 6 (c1 := (281, [some (.inr (.inr (some (1, 0)))), some (.inl k_), some (.inl m_), some (.inl f_), some (.inl a_), some (.inl d_), some (.inl (40 * m_ + a_)), some (.inl vx21_), none], [.inl 8, .inl ((S0_.1 1 0 6) - 1), .inr (.inr (some (27, 0)))], sm_pI S0_ 1 0 6 ((S0_.1 1 0 6) - 1))) rfl ?_
          refine sm_T_bin (w := 8 * (S0_.1 1 0 6) - 8) rfl (bi_mul (by omega) (by omega) (by omega)) ?_
          refine sm_T_go 4 (c1 := (290, [some (.inr (.inr (some (1, 0)))), some (.inl k_), some (.inl m_), some (.inl f_), some (.inl a_), some (.inl d_), some (.inl (40 * m_ + a_)), some (.inl vx21_), none], [.inl 8, .inl vx21_, .inr (.inr (some (26, 0))), .inl (8 * (S0_.1 1 0 6) - 8), .inr (.inr (some (27, 0)))], sm_pI S0_ 1 0 6 ((S0_.1 1 0 6) - 1))) rfl ?_
          refine sm_T_nt (u := none) (S1 := sm_acI (sm_pI S0_ 1 0 6 ((S0_.1 1 0 6) - 1)) 27 0 26 0 (8 * (S0_.1 1 0 6) - 8).toNat vx21_.toNat (8 : Int).toNat) rfl rfl (nt_acI (sc := sc_) (t := 27) (i := 0) (t' := 26) (i' := 0) (x := 8 * (S0_.1 1 0 6) - 8) (y := vx21_) (m := 8) (n := 4096) (n1 := 64320) rfl rfl (by omega) (by omega) (by omega) (by omega) (by omega)) ?_
          have hIx22_ : gi (sm_acI (sm_pI S0_ 1 0 6 ((S0_.1 1 0 6) - 1)) 27 0 26 0 (8 * (S0_.1 1 0 6) - 8).toNat vx21_.toNat (8 : Int).toNat) := gi_ac hIx4_ (by decide) (by decide)
          have hFx23_ : ai_fr (sx_W vw_38n) S0_ (sm_acI (sm_pI S0_ 1 0 6 ((S0_.1 1 0 6) - 1)) 27 0 26 0 (8 * (S0_.1 1 0 6) - 8).toNat vx21_.toNat (8 : Int).toNat) := ai_fr_tr hFx5_ (fr_ac rfl)
          have hDx24_ : idf dd_ S0_ (sm_acI (sm_pI S0_ 1 0 6 ((S0_.1 1 0 6) - 1)) 27 0 26 0 (8 * (S0_.1 1 0 6) - 8).toNat vx21_.toNat (8 : Int).toNat) := idf_ac hDx6_ (Or.inl (by decide))
          refine sm_T_rv rfl ⟨_, _, rfl, rfl, hIx22_, hFx23_, ?_⟩
          refine ⟨hDx24_, ?_⟩
          rw [er]
          first | (have f26_ : ((sm_acI (sm_pI S0_ 1 0 6 ((S0_.1 1 0 6) - 1)) 27 0 26 0 (8 * (S0_.1 1 0 6) - 8).toNat vx21_.toNat (8 : Int).toNat)).2.2.1 26 0 = sm_cp (S0_.2.2.1 27 0) (S0_.2.2.1 26 0) (8 * l_.length) (8 * (40 * ff_ + aa_)) 8 := (by rw [← ec, show 8 * l_.length = (8 * S0_.1 1 0 6 - 8).toNat by omega]; exact sm_acI_at); have hl1_ : rwv (S0_.2.2.1 27 0) (8 * l_.length) x_ := x8_.2.2.2.1 hok_; refine ⟨⟨cgl_fr (w_ := ([(1, 6)], [26], [])) x1_ (ai_fr_tr (ai_fr_pI rfl) (fr_ac rfl)) rfl rfl rfl rfl rfl rfl rfl rfl, x2_, x3_, x4_, x5_, x6_, cfr_st x7_ x5_ (by omega) hO_ xl_ (by rw [f26_]; exact rwv_cp hl1_ xl_) (fun j_ q1_ => by rw [f26_, sm_cp_o q1_]), ⟨by show S0_.1 1 0 6 - 1 = (l_.length : Int); omega, svl_pop x8_.2 (fun j_ => congrFun (sm_acI_ne (by omega)) j_) (fun j_ => congrFun (sm_acI_ne (by omega)) j_)⟩, cxe_fr (w_ := ([(1, 6)], [26], [])) x9_ (ai_fr_tr (ai_fr_pI rfl) (fr_ac rfl)) rfl rfl rfl rfl⟩, fun j_ q1_ q2_ => by rw [f26_, sm_cp_o (by omega)], by (rw [hk_, nst_o (by decide) (by decide)]; exact cxn_fr (w_ := ([(1, 6)], [26], [])) hn_ (ai_fr_tr (ai_fr_pI rfl) (fr_ac rfl)))⟩) | (have f26_ : ((sm_acI (sm_pI S0_ 1 0 6 ((S0_.1 1 0 6) - 1)) 27 0 26 0 (8 * (S0_.1 1 0 6) - 8).toNat vx21_.toNat (8 : Int).toNat)).2.2.1 26 0 = sm_cp (S0_.2.2.1 27 0) (S0_.2.2.1 26 0) (8 * l_.length) (8 * (40 * P_ aa_ + d_.toNat)) 8 := (by rw [← ec, show 8 * l_.length = (8 * S0_.1 1 0 6 - 8).toNat by omega]; exact sm_acI_at); have hl1_ : rwv (S0_.2.2.1 27 0) (8 * l_.length) x_ := x8_.2.2.2.1 hok_; refine ⟨⟨cgl_fr (w_ := ([(1, 6)], [26], [])) x1_ (ai_fr_tr (ai_fr_pI rfl) (fr_ac rfl)) rfl rfl rfl rfl rfl rfl rfl rfl, x2_, x3_, x4_, x5_, x6_, cfr_ag (p_ := P_ aa_) x7_ x5_ (by omega) hO_ (by omega) xl_ yP_.1 (by rw [f26_]; exact rwv_cp hl1_ xl_) (fun j_ q1_ => by rw [f26_, sm_cp_o q1_]), ⟨by show S0_.1 1 0 6 - 1 = (l_.length : Int); omega, svl_pop x8_.2 (fun j_ => congrFun (sm_acI_ne (by omega)) j_) (fun j_ => congrFun (sm_acI_ne (by omega)) j_)⟩, cxe_fr (w_ := ([(1, 6)], [26], [])) x9_ (ai_fr_tr (ai_fr_pI rfl) (fr_ac rfl)) rfl rfl rfl rfl⟩, fun j_ q1_ q2_ => by rw [f26_, sm_cp_o (by omega)], by (rw [hk_, nst_o (by decide) (by decide)]; exact cxn_fr (w_ := ([(1, 6)], [26], [])) hn_ (ai_fr_tr (ai_fr_pI rfl) (fr_ac rfl)))⟩) | (have f26_ : ∀ j_, ((sm_acI (sm_pI S0_ 1 0 6 ((S0_.1 1 0 6) - 1)) 27 0 26 0 (8 * (S0_.1 1 0 6) - 8).toNat vx21_.toNat (8 : Int).toNat)).2.2.1 26 0 j_ = S0_.2.2.1 26 0 j_ := (fun j_ => congrFun (sm_acI_ne (by omega)) j_); exact ⟨⟨cgl_fr (w_ := ([(1, 6)], [46], [])) x1_ (ai_fr_tr (ai_fr_pI rfl) (fr_ac rfl)) rfl rfl rfl rfl rfl rfl rfl rfl, x2_, x3_, x4_, x5_, x6_, cfr_cg x7_ f26_, ⟨by show S0_.1 1 0 6 - 1 = (l_.length : Int); omega, svl_pop x8_.2 (fun j_ => congrFun (sm_acI_ne (by omega)) j_) (fun j_ => congrFun (sm_acI_ne (by omega)) j_)⟩, ⟨x9_.1, x9_.2.1, nxb_cp x9_.2.2 rfl sm_acI_at (x_ := x_) (by rw [show (8 * S0_.1 1 0 6 - 8).toNat = 8 * l_.length by omega]; exact x8_.2.2.2.1 hok_) (by omega) (fun z9_ hz9_ => by have q9_ := hxl_ z9_ hz9_; unfold lz at q9_; rw [cgl_n x1_ hok_]; exact q9_)⟩⟩, fun j_ q1_ q2_ => f26_ j_, by (rw [hk_, nst_n hsV_ hz_]; exact cxn_cp hn_ rfl (by rw [fq9_]; exact sm_acI_at) (by rw [show (8 * S0_.1 1 0 6 - 8).toNat = 8 * l_.length by omega]; exact x8_.2.2.2.1 hok_) (by omega))⟩)
        · have cx8_ : ¬ (k_ ≠ 12) := of_decide_eq_false cx8_
          have hk_ : k_ = 12 := by omega
          obtain ⟨hO_, xl_, er⟩ : s_.2.2.1 aa_ = none ∧ x_.length ≤ 8 ∧ r_ = (s_.1, up1 s_.2.1 aa_ x_, s_.2.2.1, l_) := by rcases hcs_ with q_ | q_ | q_; (exact q_.2); (exact absurd q_.1 (by omega)); (exact absurd q_.1 (by omega))
          refine sm_T_go 2 (c1 := (247, [some (.inr (.inr (some (1, 0)))), some (.inl k_), some (.inl m_), some (.inl f_), some (.inl a_), some (.inl d_), some (.inl (40 * m_ + a_)), none, none], [.inl a_, .inl f_], sm_pI S0_ 1 0 6 ((S0_.1 1 0 6) - 1))) rfl ?_
          refine sm_T_cal (d1 := 0) (Q1 := vq_35 f_ a_ (sm_pI S0_ 1 0 6 ((S0_.1 1 0 6) - 1))) rfl rfl (by decide) (vc_35 f_ a_ (sm_pI S0_ 1 0 6 ((S0_.1 1 0 6) - 1)) hIx4_ (by omega) (by omega)) (fun u_ Sx25_ px28_ => ?_)
          obtain ⟨rfl, vx30_, rfl, px28_⟩ := px28_
          have e247_ := px28_
          have ec : vx30_.toNat = 8 * (40 * ff_ + aa_) := by omega
          refine sm_T_go 7 (c1 := (281, [some (.inr (.inr (some (1, 0)))), some (.inl k_), some (.inl m_), some (.inl f_), some (.inl a_), some (.inl d_), some (.inl (40 * m_ + a_)), some (.inl vx30_), none], [.inl 8, .inl ((S0_.1 1 0 6) - 1), .inr (.inr (some (27, 0)))], sm_pI S0_ 1 0 6 ((S0_.1 1 0 6) - 1))) rfl ?_
          refine sm_T_bin (w := 8 * (S0_.1 1 0 6) - 8) rfl (bi_mul (by omega) (by omega) (by omega)) ?_
          refine sm_T_go 4 (c1 := (290, [some (.inr (.inr (some (1, 0)))), some (.inl k_), some (.inl m_), some (.inl f_), some (.inl a_), some (.inl d_), some (.inl (40 * m_ + a_)), some (.inl vx30_), none], [.inl 8, .inl vx30_, .inr (.inr (some (26, 0))), .inl (8 * (S0_.1 1 0 6) - 8), .inr (.inr (some (27, 0)))], sm_pI S0_ 1 0 6 ((S0_.1 1 0 6) - 1))) rfl ?_
          refine sm_T_nt (u := none) (S1 := sm_acI (sm_pI S0_ 1 0 6 ((S0_.1 1 0 6) - 1)) 27 0 26 0 (8 * (S0_.1 1 0 6) - 8).toNat vx30_.toNat (8 : Int).toNat) rfl rfl (nt_acI (sc := sc_) (t := 27) (i := 0) (t' := 26) (i' := 0) (x := 8 * (S0_.1 1 0 6) - 8) (y := vx30_) (m := 8) (n := 4096) (n1 := 64320) rfl rfl (by omega) (by omega) (by omega) (by omega) (by omega)) ?_
          have hIx31_ : gi (sm_acI (sm_pI S0_ 1 0 6 ((S0_.1 1 0 6) - 1)) 27 0 26 0 (8 * (S0_.1 1 0 6) - 8).toNat vx30_.toNat (8 : Int).toNat) := gi_ac hIx4_ (by decide) (by decide)
          have hFx32_ : ai_fr (sx_W vw_38n) S0_ (sm_acI (sm_pI S0_ 1 0 6 ((S0_.1 1 0 6) - 1)) 27 0 26 0 (8 * (S0_.1 1 0 6) - 8).toNat vx30_.toNat (8 : Int).toNat) := ai_fr_tr hFx5_ (fr_ac rfl)
          have hDx33_ : idf dd_ S0_ (sm_acI (sm_pI S0_ 1 0 6 ((S0_.1 1 0 6) - 1)) 27 0 26 0 (8 * (S0_.1 1 0 6) - 8).toNat vx30_.toNat (8 : Int).toNat) := idf_ac hDx6_ (Or.inl (by decide))
          refine sm_T_rv rfl ⟨_, _, rfl, rfl, hIx31_, hFx32_, ?_⟩
          refine ⟨hDx33_, ?_⟩
          rw [er]
          first | (have f26_ : ((sm_acI (sm_pI S0_ 1 0 6 ((S0_.1 1 0 6) - 1)) 27 0 26 0 (8 * (S0_.1 1 0 6) - 8).toNat vx30_.toNat (8 : Int).toNat)).2.2.1 26 0 = sm_cp (S0_.2.2.1 27 0) (S0_.2.2.1 26 0) (8 * l_.length) (8 * (40 * ff_ + aa_)) 8 := (by rw [← ec, show 8 * l_.length = (8 * S0_.1 1 0 6 - 8).toNat by omega]; exact sm_acI_at); have hl1_ : rwv (S0_.2.2.1 27 0) (8 * l_.length) x_ := x8_.2.2.2.1 hok_; refine ⟨⟨cgl_fr (w_ := ([(1, 6)], [26], [])) x1_ (ai_fr_tr (ai_fr_pI rfl) (fr_ac rfl)) rfl rfl rfl rfl rfl rfl rfl rfl, x2_, x3_, x4_, x5_, x6_, cfr_st x7_ x5_ (by omega) hO_ xl_ (by rw [f26_]; exact rwv_cp hl1_ xl_) (fun j_ q1_ => by rw [f26_, sm_cp_o q1_]), ⟨by show S0_.1 1 0 6 - 1 = (l_.length : Int); omega, svl_pop x8_.2 (fun j_ => congrFun (sm_acI_ne (by omega)) j_) (fun j_ => congrFun (sm_acI_ne (by omega)) j_)⟩, cxe_fr (w_ := ([(1, 6)], [26], [])) x9_ (ai_fr_tr (ai_fr_pI rfl) (fr_ac rfl)) rfl rfl rfl rfl⟩, fun j_ q1_ q2_ => by rw [f26_, sm_cp_o (by omega)], by (rw [hk_, nst_o (by decide) (by decide)]; exact cxn_fr (w_ := ([(1, 6)], [26], [])) hn_ (ai_fr_tr (ai_fr_pI rfl) (fr_ac rfl)))⟩) | (have f26_ : ((sm_acI (sm_pI S0_ 1 0 6 ((S0_.1 1 0 6) - 1)) 27 0 26 0 (8 * (S0_.1 1 0 6) - 8).toNat vx30_.toNat (8 : Int).toNat)).2.2.1 26 0 = sm_cp (S0_.2.2.1 27 0) (S0_.2.2.1 26 0) (8 * l_.length) (8 * (40 * P_ aa_ + d_.toNat)) 8 := (by rw [← ec, show 8 * l_.length = (8 * S0_.1 1 0 6 - 8).toNat by omega]; exact sm_acI_at); have hl1_ : rwv (S0_.2.2.1 27 0) (8 * l_.length) x_ := x8_.2.2.2.1 hok_; refine ⟨⟨cgl_fr (w_ := ([(1, 6)], [26], [])) x1_ (ai_fr_tr (ai_fr_pI rfl) (fr_ac rfl)) rfl rfl rfl rfl rfl rfl rfl rfl, x2_, x3_, x4_, x5_, x6_, cfr_ag (p_ := P_ aa_) x7_ x5_ (by omega) hO_ (by omega) xl_ yP_.1 (by rw [f26_]; exact rwv_cp hl1_ xl_) (fun j_ q1_ => by rw [f26_, sm_cp_o q1_]), ⟨by show S0_.1 1 0 6 - 1 = (l_.length : Int); omega, svl_pop x8_.2 (fun j_ => congrFun (sm_acI_ne (by omega)) j_) (fun j_ => congrFun (sm_acI_ne (by omega)) j_)⟩, cxe_fr (w_ := ([(1, 6)], [26], [])) x9_ (ai_fr_tr (ai_fr_pI rfl) (fr_ac rfl)) rfl rfl rfl rfl⟩, fun j_ q1_ q2_ => by rw [f26_, sm_cp_o (by omega)], by (rw [hk_, nst_o (by decide) (by decide)]; exact cxn_fr (w_ := ([(1, 6)], [26], [])) hn_ (ai_fr_tr (ai_fr_pI rfl) (fr_ac rfl)))⟩) | (have f26_ : ∀ j_, ((sm_acI (sm_pI S0_ 1 0 6 ((S0_.1 1 0 6) - 1)) 27 0 26 0 (8 * (S0_.1 1 0 6) - 8).toNat vx30_.toNat (8 : Int).toNat)).2.2.1 26 0 j_ = S0_.2.2.1 26 0 j_ := (fun j_ => congrFun (sm_acI_ne (by omega)) j_); exact ⟨⟨cgl_fr (w_ := ([(1, 6)], [46], [])) x1_ (ai_fr_tr (ai_fr_pI rfl) (fr_ac rfl)) rfl rfl rfl rfl rfl rfl rfl rfl, x2_, x3_, x4_, x5_, x6_, cfr_cg x7_ f26_, ⟨by show S0_.1 1 0 6 - 1 = (l_.length : Int); omega, svl_pop x8_.2 (fun j_ => congrFun (sm_acI_ne (by omega)) j_) (fun j_ => congrFun (sm_acI_ne (by omega)) j_)⟩, ⟨x9_.1, x9_.2.1, nxb_cp x9_.2.2 rfl sm_acI_at (x_ := x_) (by rw [show (8 * S0_.1 1 0 6 - 8).toNat = 8 * l_.length by omega]; exact x8_.2.2.2.1 hok_) (by omega) (fun z9_ hz9_ => by have q9_ := hxl_ z9_ hz9_; unfold lz at q9_; rw [cgl_n x1_ hok_]; exact q9_)⟩⟩, fun j_ q1_ q2_ => f26_ j_, by (rw [hk_, nst_n hsV_ hz_]; exact cxn_cp hn_ rfl (by rw [fq9_]; exact sm_acI_at) (by rw [show (8 * S0_.1 1 0 6 - 8).toNat = 8 * l_.length by omega]; exact x8_.2.2.2.1 hok_) (by omega))⟩)
      · have cx7_ : ¬ (k_ ≠ 14) := of_decide_eq_false cx7_
        have hk_ : k_ = 14 := by omega
        obtain ⟨z_, y_, hz_, z1_, z2_, er⟩ : ∃ z_ y_, s_.2.1 aa_ = z_ :: y_ ∧ 2 * (1 + (I_ : Int)) ≤ z_ ∧ z_ / 2 - 1 - I_ + x_.length ≤ 6 ∧ r_ = (s_.1, s_.2.1, s_.2.2.1, l_) := by rcases hcs_ with q_ | q_ | q_; (exact absurd q_.1 (by omega)); (exact q_.2); (exact absurd q_.1 (by omega))
        have pz_ : S0_.2.2.1 26 0 (8 * (40 * f_ + a_)).toNat = z_ := by rw [show (8 * (40 * f_ + a_)).toNat = 8 * (40 * ff_ + aa_) + 0 by omega]; exact (x7_.1 aa_ (by omega)).1 0 z_ (by rw [hz_]; rfl)
        have wt : S0_.2.2.1 28 0 (S0_.1 1 0 6 - 1).toNat = (x_.length : Int) := by rw [show (S0_.1 1 0 6 - 1).toNat = l_.length by omega]; exact x8_.2.1
        refine sm_T_go 4 (c1 := (185, [some (.inr (.inr (some (1, 0)))), some (.inl k_), some (.inl m_), some (.inl f_), some (.inl a_), some (.inl d_), some (.inl (40 * m_ + a_)), none, none], [.inl a_, .inl f_, .inr (.inr (some (26, 0)))], sm_pI S0_ 1 0 6 ((S0_.1 1 0 6) - 1))) rfl ?_
        refine sm_T_cal (d1 := 0) (Q1 := vq_35 f_ a_ (sm_pI S0_ 1 0 6 ((S0_.1 1 0 6) - 1))) rfl rfl (by decide) (vc_35 f_ a_ (sm_pI S0_ 1 0 6 ((S0_.1 1 0 6) - 1)) hIx4_ (by omega) (by omega)) (fun u_ Sx34_ px37_ => ?_)
        obtain ⟨rfl, vx39_, rfl, px37_⟩ := px37_
        have e185_ := px37_
        have pz2_ : S0_.2.2.1 26 0 vx39_.toNat = z_ := by rw [e185_]; exact pz_
        have fq9_ : (z_ / 2 - 1 - I_).toNat = (S0_.2.2.1 26 0 vx39_.toNat / 2 - S0_.1 3 dd_ 1 - 1).toNat := by rw [pz2_]; omega
        refine sm_T_iald (n := 64320) rfl rfl (by omega) (by omega) ?_
        have bx40_ : 0 ≤ S0_.2.2.1 26 0 vx39_.toNat ∧ S0_.2.2.1 26 0 vx39_.toNat ≤ 2025 := hI_.2 26 0 _
        refine sm_T_go 1 (c1 := (190, [some (.inr (.inr (some (1, 0)))), some (.inl k_), some (.inl m_), some (.inl f_), some (.inl a_), some (.inl d_), some (.inl (40 * m_ + a_)), none, none], [.inl 1, .inl (S0_.2.2.1 26 0 vx39_.toNat)], sm_pI S0_ 1 0 6 ((S0_.1 1 0 6) - 1))) rfl ?_
        refine sm_T_bin (w := ((S0_.2.2.1 26 0 vx39_.toNat) / 2)) rfl (bi_shr (k := 1) (by decide) (by omega) (by omega)) ?_
        refine sm_T_go 1 (c1 := (192, [some (.inr (.inr (some (1, 0)))), some (.inl k_), some (.inl m_), some (.inl f_), some (.inl a_), some (.inl d_), some (.inl (40 * m_ + a_)), none, none], [.inl 1, .inl ((S0_.2.2.1 26 0 vx39_.toNat) / 2)], sm_pI S0_ 1 0 6 ((S0_.1 1 0 6) - 1))) rfl ?_
        refine sm_T_bin (w := ((S0_.2.2.1 26 0 vx39_.toNat) / 2) - 1) rfl (bi_sub (by omega) (by omega) (by omega)) ?_
        refine sm_T_go 1 (c1 := (194, [some (.inr (.inr (some (1, 0)))), some (.inl k_), some (.inl m_), some (.inl f_), some (.inl a_), some (.inl d_), some (.inl (40 * m_ + a_)), none, none], [.inr (.inr (some (1, 0))), .inl (((S0_.2.2.1 26 0 vx39_.toNat) / 2) - 1)], sm_pI S0_ 1 0 6 ((S0_.1 1 0 6) - 1))) rfl ?_
        refine sm_T_gr rfl rfl ((hFx5_.2.1 1 0 1 rfl).trans hd_) ?_
        have bx41_ : 0 ≤ S0_.1 3 dd_ 1 ∧ S0_.1 3 dd_ 1 ≤ 320 := hI_.1 3 dd_ 1 rfl
        refine sm_T_go 1 (c1 := (200, [some (.inr (.inr (some (1, 0)))), some (.inl k_), some (.inl m_), some (.inl f_), some (.inl a_), some (.inl d_), some (.inl (40 * m_ + a_)), none, none], [.inl (S0_.1 3 dd_ 1), .inl (((S0_.2.2.1 26 0 vx39_.toNat) / 2) - 1)], sm_pI S0_ 1 0 6 ((S0_.1 1 0 6) - 1))) rfl ?_
        refine sm_T_bin (w := ((S0_.2.2.1 26 0 vx39_.toNat) / 2) - (S0_.1 3 dd_ 1) - 1) rfl (bi_sub (by omega) (by omega) (by omega)) ?_
        refine sm_T_go 6 (c1 := (213, [some (.inr (.inr (some (1, 0)))), some (.inl k_), some (.inl m_), some (.inl f_), some (.inl a_), some (.inl d_), some (.inl (40 * m_ + a_)), some (.inl (((S0_.2.2.1 26 0 vx39_.toNat) / 2) - (S0_.1 3 dd_ 1) - 1)), none], [.inl 8, .inl ((S0_.1 1 0 6) - 1), .inr (.inr (some (27, 0)))], sm_pI S0_ 1 0 6 ((S0_.1 1 0 6) - 1))) rfl ?_
        refine sm_T_bin (w := 8 * (S0_.1 1 0 6) - 8) rfl (bi_mul (by omega) (by omega) (by omega)) ?_
        refine sm_T_go 1 (c1 := (215, [some (.inr (.inr (some (1, 0)))), some (.inl k_), some (.inl m_), some (.inl f_), some (.inl a_), some (.inl d_), some (.inl (40 * m_ + a_)), some (.inl (((S0_.2.2.1 26 0 vx39_.toNat) / 2) - (S0_.1 3 dd_ 1) - 1)), none], [.inr (.inr (some (1, 0))), .inl (8 * (S0_.1 1 0 6) - 8), .inr (.inr (some (27, 0)))], sm_pI S0_ 1 0 6 ((S0_.1 1 0 6) - 1))) rfl ?_
        refine sm_T_gr rfl rfl ((hFx5_.2.1 1 0 1 rfl).trans hd_) ?_
        refine sm_T_go 6 (c1 := (231, [some (.inr (.inr (some (1, 0)))), some (.inl k_), some (.inl m_), some (.inl f_), some (.inl a_), some (.inl d_), some (.inl (40 * m_ + a_)), some (.inl (((S0_.2.2.1 26 0 vx39_.toNat) / 2) - (S0_.1 3 dd_ 1) - 1)), none], [.inl ((S0_.1 1 0 6) - 1), .inr (.inr (some (28, 0))), .inl (((S0_.2.2.1 26 0 vx39_.toNat) / 2) - (S0_.1 3 dd_ 1) - 1), .inr (.inr (some (46, (0 + dd_)))), .inl (8 * (S0_.1 1 0 6) - 8), .inr (.inr (some (27, 0)))], sm_pI S0_ 1 0 6 ((S0_.1 1 0 6) - 1))) rfl ?_
        refine sm_T_iald (n := 512) rfl rfl (by omega) (by omega) ?_
        have bx42_ : 0 ≤ S0_.2.2.1 28 0 ((S0_.1 1 0 6) - 1).toNat ∧ S0_.2.2.1 28 0 ((S0_.1 1 0 6) - 1).toNat ≤ 8 := hI_.2 28 0 _
        refine sm_T_go 0 (c1 := (232, [some (.inr (.inr (some (1, 0)))), some (.inl k_), some (.inl m_), some (.inl f_), some (.inl a_), some (.inl d_), some (.inl (40 * m_ + a_)), some (.inl (((S0_.2.2.1 26 0 vx39_.toNat) / 2) - (S0_.1 3 dd_ 1) - 1)), none], [.inl (S0_.2.2.1 28 0 ((S0_.1 1 0 6) - 1).toNat), .inl (((S0_.2.2.1 26 0 vx39_.toNat) / 2) - (S0_.1 3 dd_ 1) - 1), .inr (.inr (some (46, (0 + dd_)))), .inl (8 * (S0_.1 1 0 6) - 8), .inr (.inr (some (27, 0)))], sm_pI S0_ 1 0 6 ((S0_.1 1 0 6) - 1))) rfl ?_
        refine sm_T_nt (u := none) (S1 := sm_acI (sm_pI S0_ 1 0 6 ((S0_.1 1 0 6) - 1)) 27 0 46 (0 + dd_) (8 * (S0_.1 1 0 6) - 8).toNat (((S0_.2.2.1 26 0 vx39_.toNat) / 2) - (S0_.1 3 dd_ 1) - 1).toNat (S0_.2.2.1 28 0 ((S0_.1 1 0 6) - 1).toNat).toNat) rfl rfl (nt_acI (sc := sc_) (t := 27) (i := 0) (t' := 46) (i' := (0 + dd_)) (x := 8 * (S0_.1 1 0 6) - 8) (y := ((S0_.2.2.1 26 0 vx39_.toNat) / 2) - (S0_.1 3 dd_ 1) - 1) (m := (S0_.2.2.1 28 0 ((S0_.1 1 0 6) - 1).toNat)) (n := 4096) (n1 := 6) rfl rfl (by omega) (by omega) (by omega) (by omega) (by omega)) ?_
        have hIx43_ : gi (sm_acI (sm_pI S0_ 1 0 6 ((S0_.1 1 0 6) - 1)) 27 0 46 (0 + dd_) (8 * (S0_.1 1 0 6) - 8).toNat (((S0_.2.2.1 26 0 vx39_.toNat) / 2) - (S0_.1 3 dd_ 1) - 1).toNat (S0_.2.2.1 28 0 ((S0_.1 1 0 6) - 1).toNat).toNat) := gi_ac hIx4_ (by decide) (by decide)
        have hFx44_ : ai_fr (sx_W vw_38n) S0_ (sm_acI (sm_pI S0_ 1 0 6 ((S0_.1 1 0 6) - 1)) 27 0 46 (0 + dd_) (8 * (S0_.1 1 0 6) - 8).toNat (((S0_.2.2.1 26 0 vx39_.toNat) / 2) - (S0_.1 3 dd_ 1) - 1).toNat (S0_.2.2.1 28 0 ((S0_.1 1 0 6) - 1).toNat).toNat) := ai_fr_tr hFx5_ (fr_ac rfl)
        have hDx45_ : idf dd_ S0_ (sm_acI (sm_pI S0_ 1 0 6 ((S0_.1 1 0 6) - 1)) 27 0 46 (0 + dd_) (8 * (S0_.1 1 0 6) - 8).toNat (((S0_.2.2.1 26 0 vx39_.toNat) / 2) - (S0_.1 3 dd_ 1) - 1).toNat (S0_.2.2.1 28 0 ((S0_.1 1 0 6) - 1).toNat).toNat) := idf_ac hDx6_ (Or.inr rfl)
        refine sm_T_go 1 (c1 := (293, [some (.inr (.inr (some (1, 0)))), some (.inl k_), some (.inl m_), some (.inl f_), some (.inl a_), some (.inl d_), some (.inl (40 * m_ + a_)), some (.inl (((S0_.2.2.1 26 0 vx39_.toNat) / 2) - (S0_.1 3 dd_ 1) - 1)), none], [], sm_acI (sm_pI S0_ 1 0 6 ((S0_.1 1 0 6) - 1)) 27 0 46 (0 + dd_) (8 * (S0_.1 1 0 6) - 8).toNat (((S0_.2.2.1 26 0 vx39_.toNat) / 2) - (S0_.1 3 dd_ 1) - 1).toNat (S0_.2.2.1 28 0 ((S0_.1 1 0 6) - 1).toNat).toNat)) rfl ?_
        refine sm_T_rv rfl ⟨_, _, rfl, rfl, hIx43_, hFx44_, ?_⟩
        refine ⟨hDx45_, ?_⟩
        rw [er]
        first | (have f26_ : ((sm_acI (sm_pI S0_ 1 0 6 ((S0_.1 1 0 6) - 1)) 27 0 46 (0 + dd_) (8 * (S0_.1 1 0 6) - 8).toNat (((S0_.2.2.1 26 0 vx39_.toNat) / 2) - (S0_.1 3 dd_ 1) - 1).toNat (S0_.2.2.1 28 0 ((S0_.1 1 0 6) - 1).toNat).toNat)).2.2.1 26 0 = sm_cp (S0_.2.2.1 27 0) (S0_.2.2.1 26 0) (8 * l_.length) (8 * (40 * ff_ + aa_)) 8 := (by rw [← ec, show 8 * l_.length = (8 * S0_.1 1 0 6 - 8).toNat by omega]; exact sm_acI_at); have hl1_ : rwv (S0_.2.2.1 27 0) (8 * l_.length) x_ := x8_.2.2.2.1 hok_; refine ⟨⟨cgl_fr (w_ := ([(1, 6)], [26], [])) x1_ (ai_fr_tr (ai_fr_pI rfl) (fr_ac rfl)) rfl rfl rfl rfl rfl rfl rfl rfl, x2_, x3_, x4_, x5_, x6_, cfr_st x7_ x5_ (by omega) hO_ xl_ (by rw [f26_]; exact rwv_cp hl1_ xl_) (fun j_ q1_ => by rw [f26_, sm_cp_o q1_]), ⟨by show S0_.1 1 0 6 - 1 = (l_.length : Int); omega, svl_pop x8_.2 (fun j_ => congrFun (sm_acI_ne (by omega)) j_) (fun j_ => congrFun (sm_acI_ne (by omega)) j_)⟩, cxe_fr (w_ := ([(1, 6)], [26], [])) x9_ (ai_fr_tr (ai_fr_pI rfl) (fr_ac rfl)) rfl rfl rfl rfl⟩, fun j_ q1_ q2_ => by rw [f26_, sm_cp_o (by omega)], by (rw [hk_, nst_o (by decide) (by decide)]; exact cxn_fr (w_ := ([(1, 6)], [26], [])) hn_ (ai_fr_tr (ai_fr_pI rfl) (fr_ac rfl)))⟩) | (have f26_ : ((sm_acI (sm_pI S0_ 1 0 6 ((S0_.1 1 0 6) - 1)) 27 0 46 (0 + dd_) (8 * (S0_.1 1 0 6) - 8).toNat (((S0_.2.2.1 26 0 vx39_.toNat) / 2) - (S0_.1 3 dd_ 1) - 1).toNat (S0_.2.2.1 28 0 ((S0_.1 1 0 6) - 1).toNat).toNat)).2.2.1 26 0 = sm_cp (S0_.2.2.1 27 0) (S0_.2.2.1 26 0) (8 * l_.length) (8 * (40 * P_ aa_ + d_.toNat)) 8 := (by rw [← ec, show 8 * l_.length = (8 * S0_.1 1 0 6 - 8).toNat by omega]; exact sm_acI_at); have hl1_ : rwv (S0_.2.2.1 27 0) (8 * l_.length) x_ := x8_.2.2.2.1 hok_; refine ⟨⟨cgl_fr (w_ := ([(1, 6)], [26], [])) x1_ (ai_fr_tr (ai_fr_pI rfl) (fr_ac rfl)) rfl rfl rfl rfl rfl rfl rfl rfl, x2_, x3_, x4_, x5_, x6_, cfr_ag (p_ := P_ aa_) x7_ x5_ (by omega) hO_ (by omega) xl_ yP_.1 (by rw [f26_]; exact rwv_cp hl1_ xl_) (fun j_ q1_ => by rw [f26_, sm_cp_o q1_]), ⟨by show S0_.1 1 0 6 - 1 = (l_.length : Int); omega, svl_pop x8_.2 (fun j_ => congrFun (sm_acI_ne (by omega)) j_) (fun j_ => congrFun (sm_acI_ne (by omega)) j_)⟩, cxe_fr (w_ := ([(1, 6)], [26], [])) x9_ (ai_fr_tr (ai_fr_pI rfl) (fr_ac rfl)) rfl rfl rfl rfl⟩, fun j_ q1_ q2_ => by rw [f26_, sm_cp_o (by omega)], by (rw [hk_, nst_o (by decide) (by decide)]; exact cxn_fr (w_ := ([(1, 6)], [26], [])) hn_ (ai_fr_tr (ai_fr_pI rfl) (fr_ac rfl)))⟩) | (have f26_ : ∀ j_, ((sm_acI (sm_pI S0_ 1 0 6 ((S0_.1 1 0 6) - 1)) 27 0 46 (0 + dd_) (8 * (S0_.1 1 0 6) - 8).toNat (((S0_.2.2.1 26 0 vx39_.toNat) / 2) - (S0_.1 3 dd_ 1) - 1).toNat (S0_.2.2.1 28 0 ((S0_.1 1 0 6) - 1).toNat).toNat)).2.2.1 26 0 j_ = S0_.2.2.1 26 0 j_ := (fun j_ => congrFun (sm_acI_ne (by omega)) j_); exact ⟨⟨cgl_fr (w_ := ([(1, 6)], [46], [])) x1_ (ai_fr_tr (ai_fr_pI rfl) (fr_ac rfl)) rfl rfl rfl rfl rfl rfl rfl rfl, x2_, x3_, x4_, x5_, x6_, cfr_cg x7_ f26_, ⟨by show S0_.1 1 0 6 - 1 = (l_.length : Int); omega, svl_pop x8_.2 (fun j_ => congrFun (sm_acI_ne (by omega)) j_) (fun j_ => congrFun (sm_acI_ne (by omega)) j_)⟩, ⟨x9_.1, x9_.2.1, nxb_cp x9_.2.2 rfl sm_acI_at (x_ := x_) (by rw [show (8 * S0_.1 1 0 6 - 8).toNat = 8 * l_.length by omega]; exact x8_.2.2.2.1 hok_) (by omega) (fun z9_ hz9_ => by have q9_ := hxl_ z9_ hz9_; unfold lz at q9_; rw [cgl_n x1_ hok_]; exact q9_)⟩⟩, fun j_ q1_ q2_ => f26_ j_, by (rw [hk_, nst_n hsV_ hz_]; exact cxn_cp hn_ rfl (by rw [fq9_]; exact sm_acI_at) (by rw [show (8 * S0_.1 1 0 6 - 8).toNat = 8 * l_.length by omega]; exact x8_.2.2.2.1 hok_) (by omega))⟩)
    · have cx2_ : ¬ (k_ ≠ 13) := of_decide_eq_false cx2_
      have hk_ : k_ = 13 := by omega
      obtain ⟨aM_, hO_, w1_, w8_, r6_, er⟩ := e_st13 (show e_st I_ A_ mm_ 13 aa_ d_ s_ = some r_ by rw [← hk_]; exact he_)
      refine sm_T_go 2 (c1 := (50, [some (.inr (.inr (some (1, 0)))), some (.inl k_), some (.inl m_), some (.inl f_), some (.inl a_), some (.inl d_), some (.inl (40 * m_ + a_)), some (.inl 0), none], [], S0_)) rfl ?_
      refine (vl_38n k_ m_ f_ a_ d_ tb_ tn_ A_ mm_ ff_ aa_ dd_ F_ I_ s_ r_ fc0_ x0_ S0_ hI0_ hd_ hk0_ hd0_ hm1_ hf1_ ha1_ her_ hA_ hx_ hok_ he_ hlw_ hRF_ hn_ _) (40 * m_ + a_) 0 S0_ hI_ hF_ ⟨?_, ?_, ?_, ?_, ?_, ?_, ?_, ?_, ?_, ?_, ?_, trivial⟩ (Nat.lt_succ_self _)
      · exact hk_
      · omega
      · (intro k9_ z9_ e9_; simp [r_bt] at e9_)
      · (intro j9_ q_; rfl)
      · omega
      · exact x3_
      · exact ⟨rfl, fun j9_ => rfl, fun j9_ => rfl, x9_.1⟩
      · exact x1_
      · exact x9_.2
      · refine ⟨hn_.1, fun i9_ hi9_ => ?_⟩
        show S0_.2.2.1 46 (0 + dd_) i9_ = nho I_ s_.1.2.1 0 x0_.1 i9_
        unfold nho
        rw [if_neg (by omega)]
        exact hn_.2 i9_ (by omega)
      · exact hD_
  · have cx1_ : ¬ (k_ ≠ 15) := of_decide_eq_false cx1_
    have hk_ : k_ = 15 := by omega
    obtain ⟨aM_, c200_, hE_, hO_, er⟩ := e_st15 (show e_st I_ A_ mm_ 15 aa_ d_ s_ = some r_ by rw [← hk_]; exact he_)
    refine sm_T_go 4 (c1 := (22, [some (.inr (.inr (some (1, 0)))), some (.inl k_), some (.inl m_), some (.inl f_), some (.inl a_), some (.inl d_), some (.inl (40 * m_ + a_)), none, none], [.inl a_, .inl f_, .inr (.inr (some (26, 0)))], S0_)) rfl ?_
    refine sm_T_cal (d1 := 0) (Q1 := vq_35 f_ a_ S0_) rfl rfl (by decide) (vc_35 f_ a_ S0_ hI_ (by omega) (by omega)) (fun u_ Sx46_ px49_ => ?_)
    obtain ⟨rfl, vx51_, rfl, px49_⟩ := px49_
    have e22_ := px49_
    have ec : vx51_.toNat = 8 * (40 * ff_ + aa_) := by omega
    have bx52_ : 0 ≤ S0_.1 1 0 3 ∧ S0_.1 1 0 3 ≤ 201 := hI_.1 1 0 3 rfl
    refine sm_T_go 2 (c1 := (29, [some (.inr (.inr (some (1, 0)))), some (.inl k_), some (.inl m_), some (.inl f_), some (.inl a_), some (.inl d_), some (.inl (40 * m_ + a_)), none, none], [.inl (S0_.1 1 0 3), .inl vx51_, .inr (.inr (some (26, 0)))], S0_)) rfl ?_
    refine sm_T_iast (n := 64320) rfl rfl (by omega) (by omega) ?_
    have hIx53_ : gi (sm_aI S0_ 26 0 vx51_.toNat (S0_.1 1 0 3)) := gi_aI hI_ (show 0 ≤ (S0_.1 1 0 3) ∧ (S0_.1 1 0 3) ≤ 2025 from ⟨by omega, by omega⟩)
    have hFx54_ : ai_fr (sx_W vw_38n) S0_ (sm_aI S0_ 26 0 vx51_.toNat (S0_.1 1 0 3)) := ai_fr_tr hF_ (ai_fr_aI rfl)
    have hDx55_ : idf dd_ S0_ (sm_aI S0_ 26 0 vx51_.toNat (S0_.1 1 0 3)) := idf_aI hD_ (Or.inl (by decide))
    refine sm_T_go 4 (c1 := (36, [some (.inr (.inr (some (1, 0)))), some (.inl k_), some (.inl m_), some (.inl f_), some (.inl a_), some (.inl d_), some (.inl (40 * m_ + a_)), none, none], [.inl 1, .inl (S0_.1 1 0 3), .inr (.inr (some (1, 0)))], sm_aI S0_ 26 0 vx51_.toNat (S0_.1 1 0 3))) rfl ?_
    refine sm_T_bin (w := (S0_.1 1 0 3) + 1) rfl (bi_add (by omega) (by omega) (by omega)) ?_
    have hIx56_ : gi (sm_pI (sm_aI S0_ 26 0 vx51_.toNat (S0_.1 1 0 3)) 1 0 3 ((S0_.1 1 0 3) + 1)) := gi_pI hIx53_ (show 0 ≤ (S0_.1 1 0 3) + 1 ∧ (S0_.1 1 0 3) + 1 ≤ 201 from ⟨by omega, by omega⟩)
    have hFx57_ : ai_fr (sx_W vw_38n) S0_ (sm_pI (sm_aI S0_ 26 0 vx51_.toNat (S0_.1 1 0 3)) 1 0 3 ((S0_.1 1 0 3) + 1)) := ai_fr_tr hFx54_ (ai_fr_pI rfl)
    have hDx58_ : idf dd_ S0_ (sm_pI (sm_aI S0_ 26 0 vx51_.toNat (S0_.1 1 0 3)) 1 0 3 ((S0_.1 1 0 3) + 1)) := idf_pI hDx55_ (Or.inl (by decide))
    refine sm_T_go 1 (c1 := (40, [some (.inr (.inr (some (1, 0)))), some (.inl k_), some (.inl m_), some (.inl f_), some (.inl a_), some (.inl d_), some (.inl (40 * m_ + a_)), none, none], [], sm_pI (sm_aI S0_ 26 0 vx51_.toNat (S0_.1 1 0 3)) 1 0 3 ((S0_.1 1 0 3) + 1))) rfl ?_
    refine sm_T_rv rfl ⟨_, _, rfl, rfl, hIx56_, hFx57_, ?_⟩
    refine ⟨hDx58_, ?_⟩
    rw [er]
    have g26_ : ∀ j_, ((sm_pI (sm_aI S0_ 26 0 vx51_.toNat (S0_.1 1 0 3)) 1 0 3 ((S0_.1 1 0 3) + 1))).2.2.1 26 0 j_ = if j_ = 8 * (40 * ff_ + aa_) then (s_.1.2.2 : Int) else S0_.2.2.1 26 0 j_ := fun j_ => by (try simp only [rd_eq, rd_ne, rf_eq, rf_nk, rf_nt, rd_fa, rd_af, rd_fl, rd_al, rd_lf, rd_la, rd_leq, rd_lne, rd_fr, rd_ar, ne_eq, Nat.reduceEqDiff, not_false_eq_true]); rw [ec, x3_]
    refine ⟨⟨cgl_fr (w_ := ([(1, 3)], [26], [])) x1_ (ai_fr_tr (ai_fr_aI rfl) (ai_fr_pI rfl)) rfl rfl rfl rfl rfl rfl rfl rfl, x2_, ?_, by show s_.1.2.2 + 1 ≤ 201; omega, x5_, by show fc0_ ≤ s_.1.2.2 + 1; omega, cfr_bg x7_ x5_ x6_ (by omega) hE_ hO_ g26_, x8_, cxe_fr (w_ := ([(1, 3)], [26], [])) x9_ (ai_fr_tr (ai_fr_aI rfl) (ai_fr_pI rfl)) rfl rfl rfl rfl⟩, fun j_ h1_ h2_ => ?_, by (rw [hk_, nst_o (by decide) (by decide)]; exact cxn_fr (w_ := ([(1, 3)], [26], [])) hn_ (ai_fr_tr (ai_fr_aI rfl) (ai_fr_pI rfl)))⟩
    · rw [rf_eq, x3_]; push_cast; rfl
    · rw [g26_, if_neg (by omega)]

theorem nw_17 {I_ m_ : Nat} {A_ : pA} {Y_ : Nat → gQ → gE → gN → gN} {w_ : Int} {s_ : gS} {x_ : gN} {o_ : Nat → List Int} (h_ : w_ % 32 = 17) (hO_ : s_.2.2.1 (w_ / 32 % 64).toNat = some o_) : nw I_ A_ Y_ m_ w_ s_ x_ = Y_ (w_ / 2048).toNat s_.1 o_ x_ := by
  unfold nw
  rw [if_pos h_, hO_]
theorem nw_o {I_ m_ : Nat} {A_ : pA} {Y_ : Nat → gQ → gE → gN → gN} {w_ : Int} {s_ : gS} {x_ : gN} (h_ : w_ % 32 ≠ 17) (h2_ : w_ % 32 ≤ 11) : nw I_ A_ Y_ m_ w_ s_ x_ = x_ := by
  unfold nw
  rw [if_neg h_, if_pos h2_]
theorem nw_s {I_ m_ : Nat} {A_ : pA} {Y_ : Nat → gQ → gE → gN → gN} {w_ : Int} {s_ : gS} {x_ : gN} (h_ : w_ % 32 ≠ 17) (h2_ : ¬ w_ % 32 ≤ 11) : nw I_ A_ Y_ m_ w_ s_ x_ = nst I_ A_ m_ (w_ % 32) (w_ / 32 % 64).toNat s_ x_ := by
  unfold nw
  rw [if_neg h_, if_neg h2_]

/-! Builder.execute -/
def vw_36n : sx_Wl := ([(1, 3), (1, 6), (1, 8), (1, 9), (3, 4), (3, 5)], [26, 27, 28, 29, 42, 43, 46], [])
def vq_36n (m_ : Int) (f_ : Int) (dp_ : Int) (tb_ : Nat → Int) (tn_ : Nat) (A_ : pA) (C_ : Nat → List Int) (mm_ : Nat) (ff_ : Nat) (dd_ : Nat) (F_ : Nat) (I_ : Nat) (q_ : gQ) (e_ : gE) (r_ : gQ × gE) (x0_ : gN) (xr : gN) (nf_ : Nat) (S0_ : sm_S) (u_ : Option sm_V) (S1_ : sm_S) : Prop := u_ = none ∧ gi S1_ ∧ ai_fr (sx_W vw_36n) S0_ S1_ ∧ (idf dd_ S0_ S1_ ∧ (cgl dd_ F_ r_.1.1 S1_ ∧ (imq (r_.1.1.length ≤ 1000) (cxo dd_ ff_ q_ r_ S1_ ∧ fun_ ff_ q_.2.2 (S0_.2.2.1 26 0) (S1_.2.2.1 26 0) ∧ cxn dd_ r_.1.2.1 xr S1_))))
set_option maxHeartbeats 2000000 in
theorem vl_36n {sc_ : Nat × (Nat → Int)} (m_ : Int) (f_ : Int) (dp_ : Int) (tb_ : Nat → Int) (tn_ : Nat) (A_ : pA) (C_ : Nat → List Int) (mm_ : Nat) (ff_ : Nat) (dd_ : Nat) (F_ : Nat) (I_ : Nat) (q_ : gQ) (e_ : gE) (r_ : gQ × gE) (x0_ : gN) (xr : gN) (nf_ : Nat) (S0_ : sm_S) (hI0_ : gi S0_) (hd_ : S0_.2.1 1 0 1 = some dd_) (hm1_ : m_ = (mm_ : Int) ∧ mm_ ≤ 15) (hf1_ : f_ = (ff_ : Int)) (hdp_ : 0 ≤ dp_ ∧ dp_ + mm_ ≤ 15) (her_ : ∀ k9_, k9_ ≤ mm_ → er1 tb_ tn_ A_ k9_ S0_) (hA_ : a_ok tb_ tn_ A_ mm_) (hC_ : ccd C_ mm_ S0_) (hx_ : cxs dd_ F_ I_ ff_ q_.2.2 (q_, e_, fun _ => none, []) S0_) (hok_ : q_.1.length ≤ 1000) (hRF_ : 1 + I_ + r_.1.2.1 ≤ F_) (hG_ : gwf F_ q_.1) (hlw_ : ∀ a9_, lwl (F_ + q_.1.length) (e_ a9_)) (hn_ : cxn dd_ q_.2.1 x0_ S0_) (he_ : exm F_ I_ A_ C_ (nf_ + 1) mm_ q_ e_ = some r_) (hxr_ : nxm F_ I_ A_ C_ (nf_ + 1) mm_ q_ e_ x0_ = xr) (ihx_ : ∀ (m_ f_ dp_ : Int) (tb_ : Nat → Int) (tn_ : Nat) (A_ : pA) (C_ : Nat → List Int) (mm_ : Nat) (ff_ : Nat) (dd_ : Nat) (F_ : Nat) (I_ : Nat) (q_ : gQ) (e_ : gE) (r_ : gQ × gE) (x0_ : gN) (xr : gN) (nz : Nat) (S0_ : sm_S) (hI_ : gi S0_) (hI0_ : gi S0_) (hd_ : S0_.2.1 1 0 1 = some dd_) (hm1_ : m_ = (mm_ : Int) ∧ mm_ ≤ 15) (hf1_ : f_ = (ff_ : Int)) (hdp_ : 0 ≤ dp_ ∧ dp_ + mm_ ≤ 15) (her_ : ∀ k9_, k9_ ≤ mm_ → er1 tb_ tn_ A_ k9_ S0_) (hA_ : a_ok tb_ tn_ A_ mm_) (hC_ : ccd C_ mm_ S0_) (hx_ : cxs dd_ F_ I_ ff_ q_.2.2 (q_, e_, fun _ => none, []) S0_) (hok_ : q_.1.length ≤ 1000) (hRF_ : 1 + I_ + r_.1.2.1 ≤ F_) (hG_ : gwf F_ q_.1) (hlw_ : ∀ a9_, lwl (F_ + q_.1.length) (e_ a9_)) (hn_ : cxn dd_ q_.2.1 x0_ S0_) (he_ : exm F_ I_ A_ C_ nf_ mm_ q_ e_ = some r_) (hxr_ : nxm F_ I_ A_ C_ nf_ mm_ q_ e_ x0_ = xr), sm_T (mt_P sc_) (nf_ + 10) 36 (0, [some (.inr (.inr (some (1, 0)))), some (.inl m_), some (.inl f_), some (.inl dp_), none, none, none, none, none, none], [], S0_) (fun r9_ => ∃ u_ S1_, r9_ = (.inl u_, S1_, 0) ∧ vq_36n m_ f_ dp_ tb_ tn_ A_ C_ mm_ ff_ dd_ F_ I_ q_ e_ r_ x0_ xr nz S0_ u_ S1_)) : ∀ nn_ : Nat, (∀ (to_ : Int) (pc_ : Int) (S_ : sm_S), gi S_ → ai_fr (sx_W vw_36n) S0_ S_ → ((0 ≤ pc_ ∧ pc_ ≤ to_ ∧ to_ ≤ 65536) ∧ (∃ (s_ s9_ : gS) (c_ : List Int) (xs : gN), ncd F_ I_ A_ (exm F_ I_ A_ C_ nf_) (nxm F_ I_ A_ C_ nf_) mm_ c_ s_ xs = xr ∧ ec F_ I_ A_ (exm F_ I_ A_ C_ nf_) mm_ c_ s_ = some s9_ ∧ s9_.2.2.2 = [] ∧ r_ = (s9_.1, s9_.2.1) ∧ pc_ + c_.length = to_ ∧ rwv (S0_.2.2.1 74 0) pc_.toNat c_ ∧ cgl dd_ F_ s_.1.1 S_ ∧ (imq (s_.1.1.length ≤ 1000) (cxs dd_ F_ I_ ff_ q_.2.2 s_ S_ ∧ fun_ ff_ q_.2.2 (S0_.2.2.1 26 0) (S_.2.2.1 26 0) ∧ lwS F_ s_ ∧ cxn dd_ s_.1.2.1 xs S_))) ∧ (idf dd_ S0_ S_) ∧ True) → ((to_ - pc_).toNat) < nn_ → sm_T (mt_P sc_) (nf_ + 1 + 10) 36 (24, [some (.inr (.inr (some (1, 0)))), some (.inl m_), some (.inl f_), some (.inl dp_), some (.inl to_), some (.inl pc_), none, none, none, none], [], S_) (fun ro9_ => ∃ u_ S1_, ro9_ = (.inl u_, S1_, 0) ∧ vq_36n m_ f_ dp_ tb_ tn_ A_ C_ mm_ ff_ dd_ F_ I_ q_ e_ r_ x0_ xr nf_ S0_ u_ S1_)) := by
  intro nn_
  induction nn_ with
  | zero => exact fun _ _ _ _ _ _ h_ => absurd h_ (Nat.not_lt_zero _)
  | succ nn_ ih_ =>
    rintro to_ pc_ S_ hI_ hF_ ⟨h0_, h1_, hD_, -⟩ hm_
    obtain ⟨s_, s9_, c_, xs, z8_, z1_, z2_, z3_, z4_, z5_, z6_, z7_⟩ := h1_
    refine sm_T_go 2 (c1 := (28, [some (.inr (.inr (some (1, 0)))), some (.inl m_), some (.inl f_), some (.inl dp_), some (.inl to_), some (.inl pc_), none, none, none, none], [.inl to_, .inl pc_], S_)) rfl ?_
    refine sm_T_br (a := 3) (z := 137) rfl (fun cx1_ => ?_) (fun cx1_ => ?_)
    · have cx1_ : to_ ≤ pc_ := of_decide_eq_true cx1_
      refine sm_T_rv rfl ⟨_, _, rfl, rfl, hI_, hF_, ?_⟩
      refine ⟨hD_, ?_⟩
      first | (have c0_ : c_ = [] := List.eq_nil_of_length_eq_zero (by omega); subst c0_; have es9_ : s_ = s9_ := Option.some.inj z1_; subst es9_; rw [z3_]; refine ⟨z6_, fun z9_ => ?_⟩; obtain ⟨cx_, cf_, -, cn_⟩ := z7_ z9_; refine ⟨⟨cx_.2.2.2.2.2.2.2.2.2, cx_.2.1, cx_.2.2.1, cx_.2.2.2.1, cx_.2.2.2.2.2.1, ?_, cx_.2.2.2.2.2.2.1.1⟩, cf_, by (have z8b : xs = xr := z8_; rw [← z8b]; exact cn_)⟩; have q9_ := cx_.2.2.2.2.2.2.2.1.1; rw [z2_] at q9_; exact q9_) | (have nok : 1000 < s_.1.1.length := (by by_cases z9_ : s_.1.1.length ≤ 1000; (exact absurd ((cgl_f z6_).1.mpr z9_) (by omega)); omega); have le9_ := ec_le (fun d9_ q9_ e9_ x9_ => exm_le nf_ d9_ q9_ e9_ x9_) c_ s_ s9_ z1_; rw [z3_]; refine ⟨cgl_big z6_ nok (by show 1000 < s9_.1.1.length; omega), fun z9_ => absurd z9_ (by show ¬ s9_.1.1.length ≤ 1000; omega)⟩)
    · have cx1_ : ¬ (to_ ≤ pc_) := of_decide_eq_false cx1_
      have bx2_ : 0 ≤ S_.1 1 0 8 ∧ S_.1 1 0 8 ≤ 1 := hI_.1 1 0 8 rfl
      refine sm_T_go 2 (c1 := (35, [some (.inr (.inr (some (1, 0)))), some (.inl m_), some (.inl f_), some (.inl dp_), some (.inl to_), some (.inl pc_), none, none, none, none], [.inl (S_.1 1 0 8)], S_)) rfl ?_
      refine sm_T_b0 (a := 1) (z := 130) rfl (fun cx3_ => ?_) (fun cx3_ => ?_)
      · have cx3_ : (S_.1 1 0 8) ≠ 0 := of_decide_eq_true cx3_
        refine sm_T_rv rfl ⟨_, _, rfl, rfl, hI_, hF_, ?_⟩
        refine ⟨hD_, ?_⟩
        first | (have c0_ : c_ = [] := List.eq_nil_of_length_eq_zero (by omega); subst c0_; have es9_ : s_ = s9_ := Option.some.inj z1_; subst es9_; rw [z3_]; refine ⟨z6_, fun z9_ => ?_⟩; obtain ⟨cx_, cf_, -, cn_⟩ := z7_ z9_; refine ⟨⟨cx_.2.2.2.2.2.2.2.2.2, cx_.2.1, cx_.2.2.1, cx_.2.2.2.1, cx_.2.2.2.2.2.1, ?_, cx_.2.2.2.2.2.2.1.1⟩, cf_, by (have z8b : xs = xr := z8_; rw [← z8b]; exact cn_)⟩; have q9_ := cx_.2.2.2.2.2.2.2.1.1; rw [z2_] at q9_; exact q9_) | (have nok : 1000 < s_.1.1.length := (by by_cases z9_ : s_.1.1.length ≤ 1000; (exact absurd ((cgl_f z6_).1.mpr z9_) (by omega)); omega); have le9_ := ec_le (fun d9_ q9_ e9_ x9_ => exm_le nf_ d9_ q9_ e9_ x9_) c_ s_ s9_ z1_; rw [z3_]; refine ⟨cgl_big z6_ nok (by show 1000 < s9_.1.1.length; omega), fun z9_ => absurd z9_ (by show ¬ s9_.1.1.length ≤ 1000; omega)⟩)
      · have cx3_ : ¬ ((S_.1 1 0 8) ≠ 0) := of_decide_eq_false cx3_
        obtain ⟨w_, c_, rfl⟩ : ∃ w_ c1_, c_ = w_ :: c1_ := by cases c_ with | nil => (simp only [List.length_nil] at z4_; omega) | cons p9_ q9_ => exact ⟨p9_, q9_, rfl⟩
        have hw_ : S_.2.2.1 74 0 pc_.toNat = w_ := by rw [fr_arr (t := 74) (i := 0) hF_ rfl]; exact z5_ 0 w_ rfl
        have sok_ : s_.1.1.length ≤ 1000 := (cgl_f z6_).1.mp (by omega)
        obtain ⟨cx_, cf_, cl_, cn_⟩ := z7_ sok_
        obtain ⟨s1_, hew_, hec_⟩ : ∃ s1_, ew F_ I_ A_ (exm F_ I_ A_ C_ nf_) mm_ w_ s_ = some s1_ ∧ ec F_ I_ A_ (exm F_ I_ A_ C_ nf_) mm_ c_ s1_ = some s9_ := by rw [ec] at z1_; (split at z1_); (rename_i s1_ q1_; exact ⟨s1_, q1_, z1_⟩); (cases z1_)
        have z9c : ncd F_ I_ A_ (exm F_ I_ A_ C_ nf_) (nxm F_ I_ A_ C_ nf_) mm_ c_ s1_ (nw I_ A_ (nxm F_ I_ A_ C_ nf_) mm_ (S_.2.2.1 74 0 pc_.toNat) s_ xs) = xr := by rw [hw_]; exact (ncd_c hew_).symm.trans z8_
        rw [← hw_] at hew_
        have F13_ := (cgl_b z6_).2
        have R9_ := ec_R (exm_w nf_) c_ s1_ s9_ hec_
        have R8_ : 1 + I_ + s9_.1.2.1 ≤ F_ := by rw [z3_] at hRF_; exact hRF_
        have lw1_ : s1_.1.1.length ≤ 1000 → lwS F_ s1_ := fun q9_ => ew_w (exm_w nf_) hew_ (by omega) (by omega) cl_
        have z4b : pc_ + 1 + c_.length = to_ := by simp only [List.length_cons] at z4_; push_cast at z4_; omega
        have cx8_ := cx_.2.2.2.2.2.2.2.1
        have A40_ := (hA_.2 mm_ (Nat.le_refl _)).1
        have her1_ : ∀ k9_, k9_ ≤ mm_ → er1 tb_ tn_ A_ k9_ S_ := fun k9_ h9_ => er1_fr (her_ k9_ h9_) hF_ rfl rfl rfl rfl rfl
        refine sm_T_go 4 (c1 := (47, [some (.inr (.inr (some (1, 0)))), some (.inl m_), some (.inl f_), some (.inl dp_), some (.inl to_), some (.inl pc_), none, none, none, none], [.inl pc_, .inr (.inr (some (74, 0)))], S_)) rfl ?_
        refine sm_T_iald (n := 65536) rfl rfl (by omega) (by omega) ?_
        have bx4_ : 0 ≤ S_.2.2.1 74 0 pc_.toNat ∧ S_.2.2.1 74 0 pc_.toNat ≤ 2147483647 := hI_.2 74 0 _
        refine sm_T_go 3 (c1 := (54, [some (.inr (.inr (some (1, 0)))), some (.inl m_), some (.inl f_), some (.inl dp_), some (.inl to_), some (.inl pc_), some (.inl (S_.2.2.1 74 0 pc_.toNat)), none, none, none], [.inl 31, .inl (S_.2.2.1 74 0 pc_.toNat)], S_)) rfl ?_
        refine sm_T_bin (w := ((S_.2.2.1 74 0 pc_.toNat) % 32)) rfl (bi_msk (k := 5) (by decide)) ?_
        refine sm_T_go 3 (c1 := (60, [some (.inr (.inr (some (1, 0)))), some (.inl m_), some (.inl f_), some (.inl dp_), some (.inl to_), some (.inl pc_), some (.inl (S_.2.2.1 74 0 pc_.toNat)), some (.inl ((S_.2.2.1 74 0 pc_.toNat) % 32)), none, none], [.inl 5, .inl (S_.2.2.1 74 0 pc_.toNat)], S_)) rfl ?_
        refine sm_T_bin (w := ((S_.2.2.1 74 0 pc_.toNat) / 32)) rfl (bi_shr (k := 5) (by decide) (by omega) (by omega)) ?_
        refine sm_T_go 1 (c1 := (63, [some (.inr (.inr (some (1, 0)))), some (.inl m_), some (.inl f_), some (.inl dp_), some (.inl to_), some (.inl pc_), some (.inl (S_.2.2.1 74 0 pc_.toNat)), some (.inl ((S_.2.2.1 74 0 pc_.toNat) % 32)), none, none], [.inl 63, .inl ((S_.2.2.1 74 0 pc_.toNat) / 32)], S_)) rfl ?_
        refine sm_T_bin (w := (((S_.2.2.1 74 0 pc_.toNat) / 32) % 64)) rfl (bi_msk (k := 6) (by decide)) ?_
        refine sm_T_go 3 (c1 := (70, [some (.inr (.inr (some (1, 0)))), some (.inl m_), some (.inl f_), some (.inl dp_), some (.inl to_), some (.inl pc_), some (.inl (S_.2.2.1 74 0 pc_.toNat)), some (.inl ((S_.2.2.1 74 0 pc_.toNat) % 32)), some (.inl (((S_.2.2.1 74 0 pc_.toNat) / 32) % 64)), none], [.inl 11, .inl (S_.2.2.1 74 0 pc_.toNat)], S_)) rfl ?_
        refine sm_T_bin (w := ((S_.2.2.1 74 0 pc_.toNat) / 2048)) rfl (bi_shr (k := 11) (by decide) (by omega) (by omega)) ?_
        refine sm_T_go 3 (c1 := (77, [some (.inr (.inr (some (1, 0)))), some (.inl m_), some (.inl f_), some (.inl dp_), some (.inl to_), some (.inl pc_), some (.inl (S_.2.2.1 74 0 pc_.toNat)), some (.inl ((S_.2.2.1 74 0 pc_.toNat) % 32)), some (.inl (((S_.2.2.1 74 0 pc_.toNat) / 32) % 64)), some (.inl ((S_.2.2.1 74 0 pc_.toNat) / 2048))], [.inl 17, .inl ((S_.2.2.1 74 0 pc_.toNat) % 32)], S_)) rfl ?_
        refine sm_T_br (a := 1) (z := 32) rfl (fun cx5_ => ?_) (fun cx5_ => ?_)
        · have cx5_ : ((S_.2.2.1 74 0 pc_.toNat) % 32) ≠ 17 := of_decide_eq_true cx5_
          refine sm_T_go 2 (c1 := (113, [some (.inr (.inr (some (1, 0)))), some (.inl m_), some (.inl f_), some (.inl dp_), some (.inl to_), some (.inl pc_), some (.inl (S_.2.2.1 74 0 pc_.toNat)), some (.inl ((S_.2.2.1 74 0 pc_.toNat) % 32)), some (.inl (((S_.2.2.1 74 0 pc_.toNat) / 32) % 64)), some (.inl ((S_.2.2.1 74 0 pc_.toNat) / 2048))], [.inl 7, .inl ((S_.2.2.1 74 0 pc_.toNat) % 32)], S_)) rfl ?_
          refine sm_T_br (a := 4) (z := 12) rfl (fun cx6_ => ?_) (fun cx6_ => ?_)
          · have cx6_ : 7 < ((S_.2.2.1 74 0 pc_.toNat) % 32) := of_decide_eq_true cx6_
            refine sm_T_go 2 (c1 := (129, [some (.inr (.inr (some (1, 0)))), some (.inl m_), some (.inl f_), some (.inl dp_), some (.inl to_), some (.inl pc_), some (.inl (S_.2.2.1 74 0 pc_.toNat)), some (.inl ((S_.2.2.1 74 0 pc_.toNat) % 32)), some (.inl (((S_.2.2.1 74 0 pc_.toNat) / 32) % 64)), some (.inl ((S_.2.2.1 74 0 pc_.toNat) / 2048))], [.inl 11, .inl ((S_.2.2.1 74 0 pc_.toNat) % 32)], S_)) rfl ?_
            refine sm_T_br (a := 4) (z := 18) rfl (fun cx7_ => ?_) (fun cx7_ => ?_)
            · have cx7_ : 11 < ((S_.2.2.1 74 0 pc_.toNat) % 32) := of_decide_eq_true cx7_
              have ho_ := ew_s hew_ (by omega) (by omega)
              have hk16_ := e_st_k ho_
              refine sm_T_go 6 (c1 := (156, [some (.inr (.inr (some (1, 0)))), some (.inl m_), some (.inl f_), some (.inl dp_), some (.inl to_), some (.inl pc_), some (.inl (S_.2.2.1 74 0 pc_.toNat)), some (.inl ((S_.2.2.1 74 0 pc_.toNat) % 32)), some (.inl (((S_.2.2.1 74 0 pc_.toNat) / 32) % 64)), some (.inl ((S_.2.2.1 74 0 pc_.toNat) / 2048))], [.inl ((S_.2.2.1 74 0 pc_.toNat) / 2048), .inl (((S_.2.2.1 74 0 pc_.toNat) / 32) % 64), .inl f_, .inl m_, .inl ((S_.2.2.1 74 0 pc_.toNat) % 32), .inr (.inr (some (1, 0)))], S_)) rfl ?_
              refine sm_T_cal (d1 := 1) (Q1 := vq_38n ((S_.2.2.1 74 0 pc_.toNat) % 32) m_ f_ (((S_.2.2.1 74 0 pc_.toNat) / 32) % 64) ((S_.2.2.1 74 0 pc_.toNat) / 2048) tb_ tn_ A_ mm_ ff_ (S_.2.2.1 74 0 pc_.toNat / 32 % 64).toNat dd_ F_ I_ s_ s1_ q_.2.2 xs S_) rfl rfl (by omega) (vc_38n ((S_.2.2.1 74 0 pc_.toNat) % 32) m_ f_ (((S_.2.2.1 74 0 pc_.toNat) / 32) % 64) ((S_.2.2.1 74 0 pc_.toNat) / 2048) tb_ tn_ A_ mm_ ff_ (S_.2.2.1 74 0 pc_.toNat / 32 % 64).toNat dd_ F_ I_ s_ s1_ q_.2.2 xs S_ hI_ (by exact hI_) (by exact cgl_d z6_) (by omega) (by omega) (by exact hm1_) (by exact hf1_) (by omega) (by exact her1_) (by exact hA_) (by exact cx_) (by exact sok_) (by exact ho_) (by exact cl_) (by omega) (by exact cn_)) (fun u_ Sx8_ px11_ => ?_)
              obtain ⟨rfl, hIx9_, hFx10_, px11_⟩ := px11_
              have hFx12_ : ai_fr (sx_W vw_36n) S0_ Sx8_ := ai_fr_tr hF_ (fr_le hFx10_ rfl)
              obtain ⟨dx14_, px11_⟩ := px11_
              have hDx13_ : idf dd_ S0_ Sx8_ := idf_tr hD_ dx14_
              have ex15_ : Sx8_.1 1 0 8 = S_.1 1 0 8 := hFx10_.1 1 0 8 rfl
              have e156_ := px11_
              have new_ : cgl dd_ F_ s1_.1.1 Sx8_ ∧ (imq (s1_.1.1.length ≤ 1000) (cxs dd_ F_ I_ ff_ q_.2.2 s1_ Sx8_ ∧ fun_ ff_ q_.2.2 (S0_.2.2.1 26 0) (Sx8_.2.2.1 26 0) ∧ lwS F_ s1_ ∧ cxn dd_ s1_.1.2.1 (nw I_ A_ (nxm F_ I_ A_ C_ nf_) mm_ (S_.2.2.1 74 0 pc_.toNat) s_ xs) Sx8_)) := ⟨e156_.1.1, fun z9_ => ⟨e156_.1, fun_tr cf_ e156_.2.1, lw1_ z9_, by rw [nw_s (by omega) (by omega)]; exact e156_.2.2⟩⟩
              refine sm_T_inc (a := 5) (z := 1) (v := pc_) (w := pc_ + 1) rfl rfl (by omega) (by omega) (by omega) ?_
              refine sm_T_go 1 (c1 := (24, [some (.inr (.inr (some (1, 0)))), some (.inl m_), some (.inl f_), some (.inl dp_), some (.inl to_), some (.inl (pc_ + 1)), some (.inl (S_.2.2.1 74 0 pc_.toNat)), some (.inl ((S_.2.2.1 74 0 pc_.toNat) % 32)), some (.inl (((S_.2.2.1 74 0 pc_.toNat) / 32) % 64)), some (.inl ((S_.2.2.1 74 0 pc_.toNat) / 2048))], [], Sx8_)) rfl ?_
              refine sm_T_wk [some (.inr (.inr (some (1, 0)))), some (.inl m_), some (.inl f_), some (.inl dp_), some (.inl to_), some (.inl (pc_ + 1)), none, none, none, none] (by exact ⟨rfl, rfl, rfl, rfl, rfl, rfl, trivial⟩) ?_
              refine ih_ to_ (pc_ + 1) Sx8_ hIx9_ hFx12_ ⟨?_, ?_, ?_, trivial⟩ ?_
              · omega
              · exact ⟨s1_, s9_, c_, _, z9c, hec_, z2_, z3_, z4b, by rw [show (pc_ + 1).toNat = pc_.toNat + 1 by omega]; exact rwv_tl z5_, new_.1, new_.2⟩
              · exact hDx13_
              · omega
            · have cx7_ : ¬ (11 < ((S_.2.2.1 74 0 pc_.toNat) % 32)) := of_decide_eq_false cx7_
              obtain ⟨z_, ho_, es_⟩ := ew_l hew_ (by omega) (by omega) (by omega)
              refine sm_T_go 6 (c1 := (141, [some (.inr (.inr (some (1, 0)))), some (.inl m_), some (.inl f_), some (.inl dp_), some (.inl to_), some (.inl pc_), some (.inl (S_.2.2.1 74 0 pc_.toNat)), some (.inl ((S_.2.2.1 74 0 pc_.toNat) % 32)), some (.inl (((S_.2.2.1 74 0 pc_.toNat) / 32) % 64)), some (.inl ((S_.2.2.1 74 0 pc_.toNat) / 2048))], [.inl ((S_.2.2.1 74 0 pc_.toNat) / 2048), .inl (((S_.2.2.1 74 0 pc_.toNat) / 32) % 64), .inl f_, .inl m_, .inl ((S_.2.2.1 74 0 pc_.toNat) % 32), .inr (.inr (some (1, 0)))], S_)) rfl ?_
              refine sm_T_cal (d1 := 1) (Q1 := vq_37 ((S_.2.2.1 74 0 pc_.toNat) % 32) m_ f_ (((S_.2.2.1 74 0 pc_.toNat) / 32) % 64) ((S_.2.2.1 74 0 pc_.toNat) / 2048) tb_ tn_ A_ mm_ ff_ (S_.2.2.1 74 0 pc_.toNat / 32 % 64).toNat s_.1.1 s_.2.1 s_.2.2.1 s_.2.2.2 z_ q_.2.2 s_.1.2.2 S_) rfl rfl (by omega) (vc_37 ((S_.2.2.1 74 0 pc_.toNat) % 32) m_ f_ (((S_.2.2.1 74 0 pc_.toNat) / 32) % 64) ((S_.2.2.1 74 0 pc_.toNat) / 2048) tb_ tn_ A_ mm_ ff_ (S_.2.2.1 74 0 pc_.toNat / 32 % 64).toNat s_.1.1 s_.2.1 s_.2.2.1 s_.2.2.2 z_ q_.2.2 s_.1.2.2 S_ hI_ (by exact hI_) (by omega) (by omega) (by exact hm1_) (by (have c4_ := cx_.2.2.2.1); (have c5_ := cx_.2.2.2.2.1); (have c6_ := cx_.2.2.2.2.2.1); omega) (by omega) (by exact her1_) (by exact hA_) (by exact cx_.2.2.2.2.2.2.1) (by exact cx8_) (by exact sok_) (by exact ho_)) (fun u_ Sx16_ px19_ => ?_)
              obtain ⟨rfl, hIx17_, hFx18_, px19_⟩ := px19_
              have hFx20_ : ai_fr (sx_W vw_36n) S0_ Sx16_ := ai_fr_tr hF_ (fr_le hFx18_ rfl)
              have hDx21_ : idf dd_ S0_ Sx16_ := idf_tr hD_ (idf_fr hFx18_ (by decide) (by decide))
              have ex22_ : Sx16_.1 1 0 8 = S_.1 1 0 8 := hFx18_.1 1 0 8 rfl
              have e141_ := px19_
              have g141_ := cgl_fr z6_ hFx18_ rfl rfl rfl rfl rfl rfl rfl rfl
              have new_ : cgl dd_ F_ s1_.1.1 Sx16_ ∧ (imq (s1_.1.1.length ≤ 1000) (cxs dd_ F_ I_ ff_ q_.2.2 s1_ Sx16_ ∧ fun_ ff_ q_.2.2 (S0_.2.2.1 26 0) (Sx16_.2.2.1 26 0) ∧ lwS F_ s1_ ∧ cxn dd_ s1_.1.2.1 (nw I_ A_ (nxm F_ I_ A_ C_ nf_) mm_ (S_.2.2.1 74 0 pc_.toNat) s_ xs) Sx16_)) := by rw [es_]; refine ⟨g141_, fun z9_ => ⟨⟨g141_, (hFx18_.1 1 0 9 rfl).trans cx_.2.1, (hFx18_.1 1 0 3 rfl).trans cx_.2.2.1, cx_.2.2.2.1, cx_.2.2.2.2.1, cx_.2.2.2.2.2.1, by rw [fr_arr (t := 26) (i := 0) hFx18_ rfl]; exact cx_.2.2.2.2.2.2.1, e141_, cxe_fr cx_.2.2.2.2.2.2.2.2 hFx18_ rfl rfl rfl rfl⟩, by rw [fr_arr (t := 26) (i := 0) hFx18_ rfl]; exact cf_, by rw [← es_]; exact lw1_ (by rw [es_]; exact z9_), by rw [nw_o (by omega) (by omega)]; exact cxn_fr cn_ hFx18_⟩⟩
              refine sm_T_go 1 (c1 := (159, [some (.inr (.inr (some (1, 0)))), some (.inl m_), some (.inl f_), some (.inl dp_), some (.inl to_), some (.inl pc_), some (.inl (S_.2.2.1 74 0 pc_.toNat)), some (.inl ((S_.2.2.1 74 0 pc_.toNat) % 32)), some (.inl (((S_.2.2.1 74 0 pc_.toNat) / 32) % 64)), some (.inl ((S_.2.2.1 74 0 pc_.toNat) / 2048))], [], Sx16_)) rfl ?_
              refine sm_T_inc (a := 5) (z := 1) (v := pc_) (w := pc_ + 1) rfl rfl (by omega) (by omega) (by omega) ?_
              refine sm_T_go 1 (c1 := (24, [some (.inr (.inr (some (1, 0)))), some (.inl m_), some (.inl f_), some (.inl dp_), some (.inl to_), some (.inl (pc_ + 1)), some (.inl (S_.2.2.1 74 0 pc_.toNat)), some (.inl ((S_.2.2.1 74 0 pc_.toNat) % 32)), some (.inl (((S_.2.2.1 74 0 pc_.toNat) / 32) % 64)), some (.inl ((S_.2.2.1 74 0 pc_.toNat) / 2048))], [], Sx16_)) rfl ?_
              refine sm_T_wk [some (.inr (.inr (some (1, 0)))), some (.inl m_), some (.inl f_), some (.inl dp_), some (.inl to_), some (.inl (pc_ + 1)), none, none, none, none] (by exact ⟨rfl, rfl, rfl, rfl, rfl, rfl, trivial⟩) ?_
              refine ih_ to_ (pc_ + 1) Sx16_ hIx17_ hFx20_ ⟨?_, ?_, ?_, trivial⟩ ?_
              · omega
              · exact ⟨s1_, s9_, c_, _, z9c, hec_, z2_, z3_, z4b, by rw [show (pc_ + 1).toNat = pc_.toNat + 1 by omega]; exact rwv_tl z5_, new_.1, new_.2⟩
              · exact hDx21_
              · omega
          · have cx6_ : ¬ (7 < ((S_.2.2.1 74 0 pc_.toNat) % 32)) := of_decide_eq_false cx6_
            obtain ⟨z_, ho_, es_⟩ := ew_o hew_ (by omega) (by omega)
            refine sm_T_go 2 (c1 := (119, [some (.inr (.inr (some (1, 0)))), some (.inl m_), some (.inl f_), some (.inl dp_), some (.inl to_), some (.inl pc_), some (.inl (S_.2.2.1 74 0 pc_.toNat)), some (.inl ((S_.2.2.1 74 0 pc_.toNat) % 32)), some (.inl (((S_.2.2.1 74 0 pc_.toNat) / 32) % 64)), some (.inl ((S_.2.2.1 74 0 pc_.toNat) / 2048))], [.inl ((S_.2.2.1 74 0 pc_.toNat) % 32), .inr (.inr (some (1, 0)))], S_)) rfl ?_
            refine sm_T_cal (d1 := 4) (Q1 := vq_39 ((S_.2.2.1 74 0 pc_.toNat) % 32) dd_ F_ s_.1.1 s_.2.2.2 z_ S_) rfl rfl (by omega) (vc_39 ((S_.2.2.1 74 0 pc_.toNat) % 32) dd_ F_ s_.1.1 s_.2.2.2 z_ S_ hI_ (by exact hI_) (by exact cgl_d z6_) (by exact z6_) (by exact cx8_) (by exact ho_)) (fun u_ Sx23_ px26_ => ?_)
            obtain ⟨rfl, hIx24_, hFx25_, px26_⟩ := px26_
            have hFx27_ : ai_fr (sx_W vw_36n) S0_ Sx23_ := ai_fr_tr hF_ (fr_le hFx25_ rfl)
            obtain ⟨dx29_, px26_⟩ := px26_
            have hDx28_ : idf dd_ S0_ Sx23_ := idf_tr hD_ dx29_
            have e119_ := px26_
            have new_ : cgl dd_ F_ s1_.1.1 Sx23_ ∧ (imq (s1_.1.1.length ≤ 1000) (cxs dd_ F_ I_ ff_ q_.2.2 s1_ Sx23_ ∧ fun_ ff_ q_.2.2 (S0_.2.2.1 26 0) (Sx23_.2.2.1 26 0) ∧ lwS F_ s1_ ∧ cxn dd_ s1_.1.2.1 (nw I_ A_ (nxm F_ I_ A_ C_ nf_) mm_ (S_.2.2.1 74 0 pc_.toNat) s_ xs) Sx23_)) := by rw [es_]; refine ⟨e119_.1, fun z9_ => ⟨⟨e119_.1, (hFx25_.1 1 0 9 rfl).trans cx_.2.1, (hFx25_.1 1 0 3 rfl).trans cx_.2.2.1, cx_.2.2.2.1, cx_.2.2.2.2.1, cx_.2.2.2.2.2.1, by rw [fr_arr (t := 26) (i := 0) hFx25_ rfl]; exact cx_.2.2.2.2.2.2.1, e119_.2, ⟨(hFx25_.1 3 dd_ 1 rfl).trans cx_.2.2.2.2.2.2.2.2.1, by rw [hFx25_.1 3 dd_ 5 rfl]; exact cx_.2.2.2.2.2.2.2.2.2.1, nxb_up cx_.2.2.2.2.2.2.2.2.2.2 (fr_arr hFx25_ rfl) (by have n9_ := cgl_n z6_ sok_; have n8_ := cgl_n e119_.1 z9_; have n7_ := e_op_le ho_; omega)⟩⟩, by rw [fr_arr (t := 26) (i := 0) hFx25_ rfl]; exact cf_, by rw [← es_]; exact lw1_ (by rw [es_]; exact z9_), by rw [nw_o (by omega) (by omega)]; exact cxn_fr cn_ hFx25_⟩⟩
            refine sm_T_go 1 (c1 := (159, [some (.inr (.inr (some (1, 0)))), some (.inl m_), some (.inl f_), some (.inl dp_), some (.inl to_), some (.inl pc_), some (.inl (S_.2.2.1 74 0 pc_.toNat)), some (.inl ((S_.2.2.1 74 0 pc_.toNat) % 32)), some (.inl (((S_.2.2.1 74 0 pc_.toNat) / 32) % 64)), some (.inl ((S_.2.2.1 74 0 pc_.toNat) / 2048))], [], Sx23_)) rfl ?_
            refine sm_T_inc (a := 5) (z := 1) (v := pc_) (w := pc_ + 1) rfl rfl (by omega) (by omega) (by omega) ?_
            refine sm_T_go 1 (c1 := (24, [some (.inr (.inr (some (1, 0)))), some (.inl m_), some (.inl f_), some (.inl dp_), some (.inl to_), some (.inl (pc_ + 1)), some (.inl (S_.2.2.1 74 0 pc_.toNat)), some (.inl ((S_.2.2.1 74 0 pc_.toNat) % 32)), some (.inl (((S_.2.2.1 74 0 pc_.toNat) / 32) % 64)), some (.inl ((S_.2.2.1 74 0 pc_.toNat) / 2048))], [], Sx23_)) rfl ?_
            refine sm_T_wk [some (.inr (.inr (some (1, 0)))), some (.inl m_), some (.inl f_), some (.inl dp_), some (.inl to_), some (.inl (pc_ + 1)), none, none, none, none] (by exact ⟨rfl, rfl, rfl, rfl, rfl, rfl, trivial⟩) ?_
            refine ih_ to_ (pc_ + 1) Sx23_ hIx24_ hFx27_ ⟨?_, ?_, ?_, trivial⟩ ?_
            · omega
            · exact ⟨s1_, s9_, c_, _, z9c, hec_, z2_, z3_, z4b, by rw [show (pc_ + 1).toNat = pc_.toNat + 1 by omega]; exact rwv_tl z5_, new_.1, new_.2⟩
            · exact hDx28_
            · omega
        · have cx5_ : ¬ (((S_.2.2.1 74 0 pc_.toNat) % 32) ≠ 17) := of_decide_eq_false cx5_
          obtain ⟨o_, z_, hO_, hV_, aM_, d0_, dM_, hX_, es_⟩ := ew17 hew_ (by omega)
          obtain ⟨xE_, P_, xP_⟩ := id cx_.2.2.2.2.2.2.1
          have yP_ := xP_ (S_.2.2.1 74 0 pc_.toNat / 32 % 64).toNat (by omega) o_ hO_
          have y2_ := yP_.2.1
          have c201_ := cx_.2.2.2.1
          have ccl_ := cxs_cl cx_ hV_ (by omega) hO_ yP_.1
          have c6_ := cx_.2.2.2.2.2.1
          have c5_ := cx_.2.2.2.2.1
          refine sm_T_go 2 (c1 := (83, [some (.inr (.inr (some (1, 0)))), some (.inl m_), some (.inl f_), some (.inl dp_), some (.inl to_), some (.inl pc_), some (.inl (S_.2.2.1 74 0 pc_.toNat)), some (.inl ((S_.2.2.1 74 0 pc_.toNat) % 32)), some (.inl (((S_.2.2.1 74 0 pc_.toNat) / 32) % 64)), some (.inl ((S_.2.2.1 74 0 pc_.toNat) / 2048))], [.inl 16, .inl dp_], S_)) rfl ?_
          refine sm_T_br (a := 3) (z := 76) rfl (fun cx30_ => ?_) (fun cx30_ => ?_)
          · have cx30_ : 16 ≤ dp_ := of_decide_eq_true cx30_
            exfalso; omega
          · have cx30_ : ¬ (16 ≤ dp_) := of_decide_eq_false cx30_
            refine sm_T_go 6 (c1 := (96, [some (.inr (.inr (some (1, 0)))), some (.inl m_), some (.inl f_), some (.inl dp_), some (.inl to_), some (.inl pc_), some (.inl (S_.2.2.1 74 0 pc_.toNat)), some (.inl ((S_.2.2.1 74 0 pc_.toNat) % 32)), some (.inl (((S_.2.2.1 74 0 pc_.toNat) / 32) % 64)), some (.inl ((S_.2.2.1 74 0 pc_.toNat) / 2048))], [.inl (((S_.2.2.1 74 0 pc_.toNat) / 32) % 64), .inl f_, .inr (.inr (some (26, 0))), .inl ((S_.2.2.1 74 0 pc_.toNat) / 2048), .inr (.inr (some (1, 0)))], S_)) rfl ?_
            refine sm_T_cal (d1 := 0) (Q1 := vq_35 f_ (((S_.2.2.1 74 0 pc_.toNat) / 32) % 64) S_) rfl rfl (by omega) (vc_35 f_ (((S_.2.2.1 74 0 pc_.toNat) / 32) % 64) S_ hI_ (by omega) (by omega)) (fun u_ Sx31_ px34_ => ?_)
            obtain ⟨rfl, vx36_, rfl, px34_⟩ := px34_
            have e96_ := px34_
            have pt_ : S_.2.2.1 26 0 vx36_.toNat = (P_ (S_.2.2.1 74 0 pc_.toNat / 32 % 64).toNat : Int) := by rw [e96_, show (8 * (40 * f_ + S_.2.2.1 74 0 pc_.toNat / 32 % 64)).toNat = 8 * (40 * ff_ + (S_.2.2.1 74 0 pc_.toNat / 32 % 64).toNat) by omega]; exact yP_.1
            refine sm_T_iald (n := 64320) rfl rfl (by omega) (by omega) ?_
            have bx37_ : 0 ≤ S_.2.2.1 26 0 vx36_.toNat ∧ S_.2.2.1 26 0 vx36_.toNat ≤ 2025 := hI_.2 26 0 _
            refine sm_T_go 2 (c1 := (102, [some (.inr (.inr (some (1, 0)))), some (.inl m_), some (.inl f_), some (.inl dp_), some (.inl to_), some (.inl pc_), some (.inl (S_.2.2.1 74 0 pc_.toNat)), some (.inl ((S_.2.2.1 74 0 pc_.toNat) % 32)), some (.inl (((S_.2.2.1 74 0 pc_.toNat) / 32) % 64)), some (.inl ((S_.2.2.1 74 0 pc_.toNat) / 2048))], [.inl 1, .inl dp_, .inl (S_.2.2.1 26 0 vx36_.toNat), .inl ((S_.2.2.1 74 0 pc_.toNat) / 2048), .inr (.inr (some (1, 0)))], S_)) rfl ?_
            refine sm_T_bin (w := dp_ + 1) rfl (bi_add (by omega) (by omega) (by omega)) ?_
            refine sm_T_cal (d1 := (nf_ + 10)) (Q1 := vq_36n ((S_.2.2.1 74 0 pc_.toNat) / 2048) (S_.2.2.1 26 0 vx36_.toNat) (dp_ + 1) tb_ tn_ A_ C_ (S_.2.2.1 74 0 pc_.toNat / 2048).toNat (P_ (S_.2.2.1 74 0 pc_.toNat / 32 % 64).toNat) dd_ F_ I_ s_.1 o_ z_ xs (nxm F_ I_ A_ C_ nf_ (S_.2.2.1 74 0 pc_.toNat / 2048).toNat s_.1 o_ xs) nf_ S_) rfl rfl (by omega) (ihx_ ((S_.2.2.1 74 0 pc_.toNat) / 2048) (S_.2.2.1 26 0 vx36_.toNat) (dp_ + 1) tb_ tn_ A_ C_ (S_.2.2.1 74 0 pc_.toNat / 2048).toNat (P_ (S_.2.2.1 74 0 pc_.toNat / 32 % 64).toNat) dd_ F_ I_ s_.1 o_ z_ xs (nxm F_ I_ A_ C_ nf_ (S_.2.2.1 74 0 pc_.toNat / 2048).toNat s_.1 o_ xs) nf_ S_ hI_ (by exact hI_) (by exact cgl_d z6_) (by omega) (by exact pt_) (by omega) (by (intro k9_ h9_; exact her1_ k9_ (by omega))) (by exact a_ok_le hA_ (by omega)) (by exact ccd_fr hC_ (by omega) hF_ rfl rfl) (by exact ccl_.1) (by exact sok_) (by (have q9_ : s1_.1.2.1 = z_.1.2.1 := by rw [es_]); omega) (by exact cl_.1) (by exact cl_.2.2.1 _ o_ hO_) (by exact cn_) (by exact hX_) (by rfl)) (fun u_ Sx38_ px41_ => ?_)
            obtain ⟨rfl, hIx39_, hFx40_, px41_⟩ := px41_
            have hFx42_ : ai_fr (sx_W vw_36n) S0_ Sx38_ := ai_fr_tr hF_ (fr_le hFx40_ rfl)
            obtain ⟨dx44_, px41_⟩ := px41_
            have hDx43_ : idf dd_ S0_ Sx38_ := idf_tr hD_ dx44_
            have e103_ := px41_
            have new_ : cgl dd_ F_ s1_.1.1 Sx38_ ∧ (imq (s1_.1.1.length ≤ 1000) (cxs dd_ F_ I_ ff_ q_.2.2 s1_ Sx38_ ∧ fun_ ff_ q_.2.2 (S0_.2.2.1 26 0) (Sx38_.2.2.1 26 0) ∧ lwS F_ s1_ ∧ cxn dd_ s1_.1.2.1 (nw I_ A_ (nxm F_ I_ A_ C_ nf_) mm_ (S_.2.2.1 74 0 pc_.toNat) s_ xs) Sx38_)) := by rw [es_]; refine ⟨e103_.1, fun z9_ => ?_⟩; obtain ⟨o1_, o2_, o3_⟩ := e103_.2 z9_; exact ⟨cxs_ba cx_ (by omega) hO_ yP_.1 e103_.1 o1_ o2_ (hFx40_.1 3 dd_ 1 rfl), fun_tr cf_ (fun j_ q1_ q2_ => o2_ j_ (by omega) (by omega)), by rw [← es_]; exact lw1_ (by rw [es_]; exact z9_), by rw [nw_17 (by omega) hO_]; exact o3_⟩
            refine sm_T_go 1 (c1 := (159, [some (.inr (.inr (some (1, 0)))), some (.inl m_), some (.inl f_), some (.inl dp_), some (.inl to_), some (.inl pc_), some (.inl (S_.2.2.1 74 0 pc_.toNat)), some (.inl ((S_.2.2.1 74 0 pc_.toNat) % 32)), some (.inl (((S_.2.2.1 74 0 pc_.toNat) / 32) % 64)), some (.inl ((S_.2.2.1 74 0 pc_.toNat) / 2048))], [], Sx38_)) rfl ?_
            refine sm_T_inc (a := 5) (z := 1) (v := pc_) (w := pc_ + 1) rfl rfl (by omega) (by omega) (by omega) ?_
            refine sm_T_go 1 (c1 := (24, [some (.inr (.inr (some (1, 0)))), some (.inl m_), some (.inl f_), some (.inl dp_), some (.inl to_), some (.inl (pc_ + 1)), some (.inl (S_.2.2.1 74 0 pc_.toNat)), some (.inl ((S_.2.2.1 74 0 pc_.toNat) % 32)), some (.inl (((S_.2.2.1 74 0 pc_.toNat) / 32) % 64)), some (.inl ((S_.2.2.1 74 0 pc_.toNat) / 2048))], [], Sx38_)) rfl ?_
            refine sm_T_wk [some (.inr (.inr (some (1, 0)))), some (.inl m_), some (.inl f_), some (.inl dp_), some (.inl to_), some (.inl (pc_ + 1)), none, none, none, none] (by exact ⟨rfl, rfl, rfl, rfl, rfl, rfl, trivial⟩) ?_
            refine ih_ to_ (pc_ + 1) Sx38_ hIx39_ hFx42_ ⟨?_, ?_, ?_, trivial⟩ ?_
            · omega
            · exact ⟨s1_, s9_, c_, _, z9c, hec_, z2_, z3_, z4b, by rw [show (pc_ + 1).toNat = pc_.toNat + 1 by omega]; exact rwv_tl z5_, new_.1, new_.2⟩
            · exact hDx43_
            · omega
set_option maxHeartbeats 2000000 in
theorem vc_36n {sc_ : Nat × (Nat → Int)} (m_ : Int) (f_ : Int) (dp_ : Int) (tb_ : Nat → Int) (tn_ : Nat) (A_ : pA) (C_ : Nat → List Int) (mm_ : Nat) (ff_ : Nat) (dd_ : Nat) (F_ : Nat) (I_ : Nat) (q_ : gQ) (e_ : gE) (r_ : gQ × gE) (x0_ : gN) (xr : gN) (nf_ : Nat) (S0_ : sm_S) (hI_ : gi S0_) (hI0_ : gi S0_) (hd_ : S0_.2.1 1 0 1 = some dd_) (hm1_ : m_ = (mm_ : Int) ∧ mm_ ≤ 15) (hf1_ : f_ = (ff_ : Int)) (hdp_ : 0 ≤ dp_ ∧ dp_ + mm_ ≤ 15) (her_ : ∀ k9_, k9_ ≤ mm_ → er1 tb_ tn_ A_ k9_ S0_) (hA_ : a_ok tb_ tn_ A_ mm_) (hC_ : ccd C_ mm_ S0_) (hx_ : cxs dd_ F_ I_ ff_ q_.2.2 (q_, e_, fun _ => none, []) S0_) (hok_ : q_.1.length ≤ 1000) (hRF_ : 1 + I_ + r_.1.2.1 ≤ F_) (hG_ : gwf F_ q_.1) (hlw_ : ∀ a9_, lwl (F_ + q_.1.length) (e_ a9_)) (hn_ : cxn dd_ q_.2.1 x0_ S0_) (he_ : exm F_ I_ A_ C_ (nf_ + 1) mm_ q_ e_ = some r_) (hxr_ : nxm F_ I_ A_ C_ (nf_ + 1) mm_ q_ e_ x0_ = xr) (ihx_ : ∀ (m_ f_ dp_ : Int) (tb_ : Nat → Int) (tn_ : Nat) (A_ : pA) (C_ : Nat → List Int) (mm_ : Nat) (ff_ : Nat) (dd_ : Nat) (F_ : Nat) (I_ : Nat) (q_ : gQ) (e_ : gE) (r_ : gQ × gE) (x0_ : gN) (xr : gN) (nz : Nat) (S0_ : sm_S) (hI_ : gi S0_) (hI0_ : gi S0_) (hd_ : S0_.2.1 1 0 1 = some dd_) (hm1_ : m_ = (mm_ : Int) ∧ mm_ ≤ 15) (hf1_ : f_ = (ff_ : Int)) (hdp_ : 0 ≤ dp_ ∧ dp_ + mm_ ≤ 15) (her_ : ∀ k9_, k9_ ≤ mm_ → er1 tb_ tn_ A_ k9_ S0_) (hA_ : a_ok tb_ tn_ A_ mm_) (hC_ : ccd C_ mm_ S0_) (hx_ : cxs dd_ F_ I_ ff_ q_.2.2 (q_, e_, fun _ => none, []) S0_) (hok_ : q_.1.length ≤ 1000) (hRF_ : 1 + I_ + r_.1.2.1 ≤ F_) (hG_ : gwf F_ q_.1) (hlw_ : ∀ a9_, lwl (F_ + q_.1.length) (e_ a9_)) (hn_ : cxn dd_ q_.2.1 x0_ S0_) (he_ : exm F_ I_ A_ C_ nf_ mm_ q_ e_ = some r_) (hxr_ : nxm F_ I_ A_ C_ nf_ mm_ q_ e_ x0_ = xr), sm_T (mt_P sc_) (nf_ + 10) 36 (0, [some (.inr (.inr (some (1, 0)))), some (.inl m_), some (.inl f_), some (.inl dp_), none, none, none, none, none, none], [], S0_) (fun r9_ => ∃ u_ S1_, r9_ = (.inl u_, S1_, 0) ∧ vq_36n m_ f_ dp_ tb_ tn_ A_ C_ mm_ ff_ dd_ F_ I_ q_ e_ r_ x0_ xr nz S0_ u_ S1_)) : sm_T (mt_P sc_) (nf_ + 1 + 10) 36 (0, [some (.inr (.inr (some (1, 0)))), some (.inl m_), some (.inl f_), some (.inl dp_), none, none, none, none, none, none], [], S0_) (fun ro9_ => ∃ u_ S1_, ro9_ = (.inl u_, S1_, 0) ∧ vq_36n m_ f_ dp_ tb_ tn_ A_ C_ mm_ ff_ dd_ F_ I_ q_ e_ r_ x0_ xr nf_ S0_ u_ S1_) := by
  have hF_ : ai_fr (sx_W vw_36n) S0_ S0_ := ai_fr_rf
  have hD_ : idf dd_ S0_ S0_ := idf_rf
  obtain ⟨p0_, hp1_, hp2_, hp3_, hp4_⟩ := hC_ mm_ (Nat.le_refl _)
  have c0_ : S0_.2.2.1 76 0 m_.toNat = (p0_ : Int) := by rw [show m_.toNat = mm_ by omega]; exact hp1_
  have c1_ : S0_.2.2.1 76 0 (m_ + 1).toNat = ((p0_ + (C_ mm_).length : Nat) : Int) := by rw [show (m_ + 1).toNat = mm_ + 1 by omega]; exact hp2_
  obtain ⟨s9_, hec_, hs9_, hr9_⟩ : ∃ s9_, ec F_ I_ A_ (exm F_ I_ A_ C_ nf_) mm_ (C_ mm_) (q_, e_, fun _ => none, []) = some s9_ ∧ s9_.2.2.2 = [] ∧ r_ = (s9_.1, s9_.2.1) := by rw [exm] at he_; (split at he_); (rename_i s9_ q9_; (split at he_); (rename_i v9_; cases he_; exact ⟨s9_, q9_, v9_, rfl⟩); (cases he_)); (cases he_)
  refine sm_T_go 5 (c1 := (9, [some (.inr (.inr (some (1, 0)))), some (.inl m_), some (.inl f_), some (.inl dp_), none, none, none, none, none, none], [.inl 1, .inl m_, .inr (.inr (some (76, 0)))], S0_)) rfl ?_
  refine sm_T_bin (w := m_ + 1) rfl (bi_add (by omega) (by omega) (by omega)) ?_
  refine sm_T_iald (n := 17) rfl rfl (by omega) (by omega) ?_
  have bx1_ : 0 ≤ S0_.2.2.1 76 0 (m_ + 1).toNat ∧ S0_.2.2.1 76 0 (m_ + 1).toNat ≤ 65536 := hI_.2 76 0 _
  refine sm_T_go 5 (c1 := (21, [some (.inr (.inr (some (1, 0)))), some (.inl m_), some (.inl f_), some (.inl dp_), some (.inl (S0_.2.2.1 76 0 (m_ + 1).toNat)), none, none, none, none, none], [.inl m_, .inr (.inr (some (76, 0)))], S0_)) rfl ?_
  refine sm_T_iald (n := 17) rfl rfl (by omega) (by omega) ?_
  have bx2_ : 0 ≤ S0_.2.2.1 76 0 m_.toNat ∧ S0_.2.2.1 76 0 m_.toNat ≤ 65536 := hI_.2 76 0 _
  refine sm_T_go 1 (c1 := (24, [some (.inr (.inr (some (1, 0)))), some (.inl m_), some (.inl f_), some (.inl dp_), some (.inl (S0_.2.2.1 76 0 (m_ + 1).toNat)), some (.inl (S0_.2.2.1 76 0 m_.toNat)), none, none, none, none], [], S0_)) rfl ?_
  refine (vl_36n m_ f_ dp_ tb_ tn_ A_ C_ mm_ ff_ dd_ F_ I_ q_ e_ r_ x0_ xr nf_ S0_ hI0_ hd_ hm1_ hf1_ hdp_ her_ hA_ hC_ hx_ hok_ hRF_ hG_ hlw_ hn_ he_ hxr_ ihx_ _) (S0_.2.2.1 76 0 (m_ + 1).toNat) (S0_.2.2.1 76 0 m_.toNat) S0_ hI_ hF_ ⟨?_, ?_, ?_, trivial⟩ (Nat.lt_succ_self _)
  · omega
  · refine ⟨(q_, e_, fun _ => none, []), s9_, C_ mm_, x0_, hxr_, hec_, hs9_, hr9_, by omega, ?_, hx_.1, fun _ => ⟨hx_, fun j_ _ _ => rfl, ⟨hG_, hlw_, (fun a9_ o9_ h9_ => by cases h9_), (fun v9_ h9_ => by cases h9_)⟩, hn_⟩⟩
    rw [c0_]
    exact hp4_
  · exact hD_
theorem vc_36nx {sc_ : Nat × (Nat → Int)} : ∀ nf_ : Nat, ∀ (m_ f_ dp_ : Int) (tb_ : Nat → Int) (tn_ : Nat) (A_ : pA) (C_ : Nat → List Int) (mm_ : Nat) (ff_ : Nat) (dd_ : Nat) (F_ : Nat) (I_ : Nat) (q_ : gQ) (e_ : gE) (r_ : gQ × gE) (x0_ : gN) (xr : gN) (nz : Nat) (S0_ : sm_S) (hI_ : gi S0_) (hI0_ : gi S0_) (hd_ : S0_.2.1 1 0 1 = some dd_) (hm1_ : m_ = (mm_ : Int) ∧ mm_ ≤ 15) (hf1_ : f_ = (ff_ : Int)) (hdp_ : 0 ≤ dp_ ∧ dp_ + mm_ ≤ 15) (her_ : ∀ k9_, k9_ ≤ mm_ → er1 tb_ tn_ A_ k9_ S0_) (hA_ : a_ok tb_ tn_ A_ mm_) (hC_ : ccd C_ mm_ S0_) (hx_ : cxs dd_ F_ I_ ff_ q_.2.2 (q_, e_, fun _ => none, []) S0_) (hok_ : q_.1.length ≤ 1000) (hRF_ : 1 + I_ + r_.1.2.1 ≤ F_) (hG_ : gwf F_ q_.1) (hlw_ : ∀ a9_, lwl (F_ + q_.1.length) (e_ a9_)) (hn_ : cxn dd_ q_.2.1 x0_ S0_) (he_ : exm F_ I_ A_ C_ nf_ mm_ q_ e_ = some r_) (hxr_ : nxm F_ I_ A_ C_ nf_ mm_ q_ e_ x0_ = xr), sm_T (mt_P sc_) (nf_ + 10) 36 (0, [some (.inr (.inr (some (1, 0)))), some (.inl m_), some (.inl f_), some (.inl dp_), none, none, none, none, none, none], [], S0_) (fun r9_ => ∃ u_ S1_, r9_ = (.inl u_, S1_, 0) ∧ vq_36n m_ f_ dp_ tb_ tn_ A_ C_ mm_ ff_ dd_ F_ I_ q_ e_ r_ x0_ xr nz S0_ u_ S1_)
  | 0, m_, f_, dp_, tb_, tn_, A_, C_, mm_, ff_, dd_, F_, I_, q_, e_, r_, x0_, xr, nz, S0_, hI_, hI0_, hd_, hm1_, hf1_, hdp_, her_, hA_, hC_, hx_, hok_, hRF_, hG_, hlw_, hn_, he_, hxr_ => by cases he_
  | nf_ + 1, m_, f_, dp_, tb_, tn_, A_, C_, mm_, ff_, dd_, F_, I_, q_, e_, r_, x0_, xr, nz, S0_, hI_, hI0_, hd_, hm1_, hf1_, hdp_, her_, hA_, hC_, hx_, hok_, hRF_, hG_, hlw_, hn_, he_, hxr_ => vc_36n m_ f_ dp_ tb_ tn_ A_ C_ mm_ ff_ dd_ F_ I_ q_ e_ r_ x0_ xr nf_ S0_ hI_ hI0_ hd_ hm1_ hf1_ hdp_ her_ hA_ hC_ hx_ hok_ hRF_ hG_ hlw_ hn_ he_ hxr_ (vc_36nx nf_)
end
/-! 99.ztL -/
section
/-! next values and beginning: the reference; written by wip/p55/gen/vg -/

/-! next values and beginning: the_ reference -/
/-- the_ reference holds them -/
def rxn (R_ : Nat) (x_ : gN) (S_ : sm_S) : Prop := S_.1 13 0 52 = x_.2 ∧ ∀ i_, i_ < R_ → S_.2.2.1 151 0 i_ = x_.1 i_
theorem rxn_fr {w_ : sx_Wl} {R_ : Nat} {x_ : gN} {S_ S'_ : sm_S} (h_ : rxn R_ x_ S_) (g_ : ai_fr (sx_W w_) S_ S'_) (h2_ : (sx_W w_).1 13 52 = false := by rfl) (h4_ : (sx_W w_).2.1 151 = false := by rfl) : rxn R_ x_ S'_ := by
  unfold rxn
  rw [g_.1 13 0 52 h2_, fr_arr (t := 151) g_ h4_]
  exact h_
theorem nnx_t {p_ : Nat} {y_ : List Int} {N_ : Nat → Int} {k_ : Nat} (hk_ : k_ < y_.length) (i_ : Nat) : nnx p_ (y_.take (k_ + 1)) N_ i_ = if i_ = p_ + k_ then y_.getD k_ 0 else nnx p_ (y_.take k_) N_ i_ := by
  unfold nnx
  rw [List.length_take, List.length_take, Nat.min_eq_left (by omega), Nat.min_eq_left (by omega)]
  by_cases c_ : i_ = p_ + k_
  · subst c_
    rw [if_pos (by omega), if_pos rfl, show p_ + k_ - p_ = k_ by omega, List.getD_eq_getElem?_getD, List.getD_eq_getElem?_getD, List.getElem?_take, if_pos (by omega)]
  · rw [if_neg c_]
    by_cases d_ : p_ ≤ i_ ∧ i_ < p_ + k_
    · rw [if_pos (by omega), if_pos d_, List.getD_eq_getElem?_getD, List.getD_eq_getElem?_getD, List.getElem?_take, List.getElem?_take, if_pos (by omega), if_pos (by omega)]
    · rw [if_neg (by omega), if_neg d_]

/-! M_.makeRegister -/
def vw_344n : sx_Wl := ([(13, 9), (13, 52), (13, 53)], [144, 150, 151], [])
def vq_344n (nm_ : Int) (b_ : Nat → Int) (n_ : Nat) (T_ : Nat) (p_ : Nat) (uu_ : Nat) (f_ : Nat) (q_ : Nat) (A_ : pA) (M_ : Nat) (s_ : Nat) (fr_ : Nat) (wd_ : Nat) (R_ : Nat) (I_ : Nat) (det_ : Int) (x0_ : gN) (S0_ : sm_S) (u_ : Option sm_V) (S1_ : sm_S) : Prop := u_ = none ∧ gi S1_ ∧ ai_fr (sx_W vw_344n) S0_ S1_ ∧ (rg b_ n_ T_ (.inr q_) S1_ ∧ (S1_.1 13 0 53) = ((R_ + wd_ : Nat) : Int) ∧ (∀ j_, S1_.2.2.1 150 0 j_ = if j_ = 40 * fr_ + s_ then (R_ : Int) else S0_.2.2.1 150 0 j_) ∧ rwv (S1_.2.2.1 144 0) (8 * (40 * fr_ + s_)) (r_bt I_ R_ wd_) ∧ (∀ j_, j_ < 8 * (40 * fr_ + s_) ∨ 8 * (40 * fr_ + s_) + 8 ≤ j_ → S1_.2.2.1 144 0 j_ = S0_.2.2.1 144 0 j_) ∧ rnS S1_ ∧ rxn (R_ + wd_) (nho I_ R_ wd_ x0_.1, bho det_ R_ wd_ x0_.2) S1_)
set_option maxHeartbeats 1500000 in
theorem vl_344n {sc_ : Nat × (Nat → Int)} (nm_ : Int) (b_ : Nat → Int) (n_ : Nat) (T_ : Nat) (p_ : Nat) (uu_ : Nat) (f_ : Nat) (q_ : Nat) (A_ : pA) (M_ : Nat) (s_ : Nat) (fr_ : Nat) (wd_ : Nat) (R_ : Nat) (I_ : Nat) (det_ : Int) (x0_ : gN) (S0_ : sm_S) (ht_ : rtab b_ n_ T_ S0_) (hx_ : rg b_ n_ T_ (.inr p_) S0_) (hn_ : nxs b_ n_ 59 f_ p_ uu_) (hq_ : p_ad b_ n_ uu_ = .inr q_) (hf_ : (S0_.1 13 0 29) = (fr_ : Int) ∧ fr_ ≤ 15) (hn1_ : nm_ = (s_ : Int) ∧ s_ < A_.1 M_ ∧ A_.1 M_ ≤ 40 ∧ M_ ≤ 15) (hmd_ : (S0_.1 13 0 28) = (M_ : Int)) (hw_ : S0_.2.2.1 129 0 (40 * M_ + s_) = (wd_ : Int) ∧ 1 ≤ wd_ ∧ wd_ ≤ 8) (hR_ : (S0_.1 13 0 53) = (R_ : Int) ∧ R_ + wd_ ≤ 6) (hms_ : 1 ≤ (S0_.1 13 0 12) ∧ (S0_.1 13 0 12) ≤ 16) (hI1_ : S0_.2.2.1 132 0 ((S0_.1 13 0 12) - 1).toNat = (I_ : Int) ∧ I_ ≤ 12) (hrn_ : rnS S0_) (hnf_ : 1 + (I_ : Int) + R_ + wd_ ≤ (S0_.1 13 0 37)) (hdt_ : S0_.2.2.1 130 0 (40 * M_ + s_) = det_) (hx0_ : rxn R_ x0_ S0_) : ∀ nn_ : Nat, (∀ (kx_ : Int) (k_ : Int) (S_ : sm_S), gi S_ → ai_fr (sx_W vw_344n) S0_ S_ → (((0 ≤ k_ ∧ k_ ≤ (wd_ : Int)) ∧ kx_ = 40 * (M_ : Int) + s_ ∧ (S_.1 13 0 53) = (R_ : Int) + k_) ∧ (rg b_ n_ T_ (.inr p_) S_) ∧ (∀ j_, S_.2.2.1 150 0 j_ = if j_ = 40 * fr_ + s_ then (R_ : Int) else S0_.2.2.1 150 0 j_) ∧ (rwv (S_.2.2.1 144 0) (8 * (40 * fr_ + s_)) (r_bt I_ R_ k_.toNat)) ∧ (∀ j_, j_ < 8 * (40 * fr_ + s_) ∨ 8 * (40 * fr_ + s_) + 8 ≤ j_ → S_.2.2.1 144 0 j_ = S0_.2.2.1 144 0 j_) ∧ (rnS S_) ∧ (rxn (R_ + k_.toNat) (nho I_ R_ k_.toNat x0_.1, bho det_ R_ k_.toNat x0_.2) S_) ∧ True) → (((wd_ : Int) - k_).toNat) < nn_ → sm_T (mt_P sc_) 2 344 (30, [some (.inr (.inr (some (13, 0)))), some (.inl nm_), some (.inl kx_), some (.inl k_), none], [], S_) (fun ro9_ => ∃ u_ S1_, ro9_ = (.inl u_, S1_, 0) ∧ vq_344n nm_ b_ n_ T_ p_ uu_ f_ q_ A_ M_ s_ fr_ wd_ R_ I_ det_ x0_ S0_ u_ S1_)) := by
  intro nn_
  induction nn_ with
  | zero => exact fun _ _ _ _ _ _ h_ => absurd h_ (Nat.not_lt_zero _)
  | succ nn_ ih_ =>
    rintro kx_ k_ S_ hI_ hF_ ⟨h0_, h4_, h5_, h1_, h2_, h6_, h8_, -⟩ hm_
    have f1_ : S_.1 13 0 29 = (fr_ : Int) := (hF_.1 13 0 29 rfl).trans hf_.1
    have m1_ : S_.1 13 0 12 = S0_.1 13 0 12 := hF_.1 13 0 12 rfl
    have w1_ : S_.2.2.1 129 0 kx_.toNat = (wd_ : Int) := by rw [fr_arr (t := 129) (i := 0) hF_ rfl, show kx_.toNat = 40 * M_ + s_ by omega]; exact hw_.1
    have d1_ : S_.2.2.1 130 0 kx_.toNat = det_ := by rw [fr_arr (t := 130) (i := 0) hF_ rfl, show kx_.toNat = 40 * M_ + s_ by omega]; exact hdt_
    have i1_ : S_.2.2.1 132 0 (S_.1 13 0 12 - 1).toNat = (I_ : Int) := by rw [fr_arr (t := 132) (i := 0) hF_ rfl, m1_]; exact hI1_.1
    have ht1_ := rtab_fr ht_ hF_ rfl rfl rfl rfl rfl
    have hwb_ := hw_.2
    have hib_ := hI1_.2
    have n37_ : S_.1 13 0 37 = S0_.1 13 0 37 := hF_.1 13 0 37 rfl
    refine sm_T_go 4 (c1 := (36, [some (.inr (.inr (some (13, 0)))), some (.inl nm_), some (.inl kx_), some (.inl k_), none], [.inl kx_, .inr (.inr (some (129, 0))), .inl k_], S_)) rfl ?_
    refine sm_T_iald (n := 640) rfl rfl (by omega) (by omega) ?_
    have bx1_ : 0 ≤ S_.2.2.1 129 0 kx_.toNat ∧ S_.2.2.1 129 0 kx_.toNat ≤ 8 := hI_.2 129 0 _
    refine sm_T_br (a := 3) (z := 97) rfl (fun cx2_ => ?_) (fun cx2_ => ?_)
    · have cx2_ : (S_.2.2.1 129 0 kx_.toNat) ≤ k_ := of_decide_eq_true cx2_
      refine sm_T_go 2 (c1 := (137, [some (.inr (.inr (some (13, 0)))), some (.inl nm_), some (.inl kx_), some (.inl k_), none], [.inl 59, .inr (.inr (some (13, 0)))], S_)) rfl ?_
      refine sm_T_cal (d1 := 1) (Q1 := vq_343 59 b_ n_ T_ p_ uu_ f_ q_ S_) rfl rfl (by decide) (vc_343 59 b_ n_ T_ p_ uu_ f_ q_ S_ hI_ (by exact ht1_) (by exact h4_) (by exact hn_) (by exact hq_) (by decide)) (fun u_ Sx3_ px6_ => ?_)
      obtain ⟨rfl, hIx4_, hFx5_, px6_⟩ := px6_
      have hFx7_ : ai_fr (sx_W vw_344n) S0_ Sx3_ := ai_fr_tr hF_ (fr_le hFx5_ rfl)
      have e137_ := px6_
      have u137_ := hFx5_.1 13 0 53 rfl
      have a137_ := fr_arr (t := 150) (i := 0) hFx5_ rfl
      have b137_ := fr_arr (t := 144) (i := 0) hFx5_ rfl
      have c137_ := rnS_fr h6_ hFx5_ rfl rfl rfl rfl
      have x137_ := rxn_fr h8_ hFx5_
      refine sm_T_rv rfl ⟨_, _, rfl, rfl, hIx4_, hFx7_, ?_⟩
      refine ⟨e137_, by rw [u137_]; push_cast; omega, fun j_ => by rw [a137_]; exact h5_ j_, by rw [b137_, show wd_ = k_.toNat by omega]; exact h1_, fun j_ hj_ => by rw [b137_]; exact h2_ j_ hj_, c137_, by (rw [show k_.toNat = wd_ by omega] at x137_; exact x137_)⟩
    · have cx2_ : ¬ ((S_.2.2.1 129 0 kx_.toNat) ≤ k_) := of_decide_eq_false cx2_
      have bx8_ : 0 ≤ S_.1 13 0 12 ∧ S_.1 13 0 12 ≤ 16 := hI_.1 13 0 12 rfl
      refine sm_T_go 7 (c1 := (51, [some (.inr (.inr (some (13, 0)))), some (.inl nm_), some (.inl kx_), some (.inl k_), none], [.inl 1, .inl (S_.1 13 0 12), .inr (.inr (some (132, 0))), .inl 1, .inl 2], S_)) rfl ?_
      refine sm_T_bin (w := (S_.1 13 0 12) - 1) rfl (bi_sub (by omega) (by omega) (by omega)) ?_
      refine sm_T_iald (n := 16) rfl rfl (by omega) (by omega) ?_
      have bx9_ : 0 ≤ S_.2.2.1 132 0 ((S_.1 13 0 12) - 1).toNat ∧ S_.2.2.1 132 0 ((S_.1 13 0 12) - 1).toNat ≤ 320 := hI_.2 132 0 _
      refine sm_T_bin (w := (S_.2.2.1 132 0 ((S_.1 13 0 12) - 1).toNat) + 1) rfl (bi_add (by omega) (by omega) (by omega)) ?_
      have bx10_ : 0 ≤ S_.1 13 0 53 ∧ S_.1 13 0 53 ≤ 6 := hI_.1 13 0 53 rfl
      refine sm_T_go 2 (c1 := (58, [some (.inr (.inr (some (13, 0)))), some (.inl nm_), some (.inl kx_), some (.inl k_), none], [.inl (S_.1 13 0 53), .inl ((S_.2.2.1 132 0 ((S_.1 13 0 12) - 1).toNat) + 1), .inl 2], S_)) rfl ?_
      refine sm_T_bin (w := (S_.2.2.1 132 0 ((S_.1 13 0 12) - 1).toNat) + (S_.1 13 0 53) + 1) rfl (bi_add (by omega) (by omega) (by omega)) ?_
      refine sm_T_bin (w := 2 * (S_.2.2.1 132 0 ((S_.1 13 0 12) - 1).toNat) + 2 * (S_.1 13 0 53) + 2) rfl (bi_mul (by omega) (by omega) (by omega)) ?_
      have bx11_ : 0 ≤ S_.1 13 0 29 ∧ S_.1 13 0 29 ≤ 16 := hI_.1 13 0 29 rfl
      refine sm_T_go 7 (c1 := (74, [some (.inr (.inr (some (13, 0)))), some (.inl nm_), some (.inl kx_), some (.inl k_), some (.inl (2 * (S_.2.2.1 132 0 ((S_.1 13 0 12) - 1).toNat) + 2 * (S_.1 13 0 53) + 2))], [.inl (S_.1 13 0 29), .inl 40, .inl 8, .inr (.inr (some (144, 0)))], S_)) rfl ?_
      refine sm_T_bin (w := 40 * (S_.1 13 0 29)) rfl (bi_mul (by omega) (by omega) (by omega)) ?_
      refine sm_T_go 1 (c1 := (76, [some (.inr (.inr (some (13, 0)))), some (.inl nm_), some (.inl kx_), some (.inl k_), some (.inl (2 * (S_.2.2.1 132 0 ((S_.1 13 0 12) - 1).toNat) + 2 * (S_.1 13 0 53) + 2))], [.inl nm_, .inl (40 * (S_.1 13 0 29)), .inl 8, .inr (.inr (some (144, 0)))], S_)) rfl ?_
      refine sm_T_bin (w := 40 * (S_.1 13 0 29) + nm_) rfl (bi_add (by omega) (by omega) (by omega)) ?_
      refine sm_T_bin (w := 320 * (S_.1 13 0 29) + 8 * nm_) rfl (bi_mul (by omega) (by omega) (by omega)) ?_
      refine sm_T_go 1 (c1 := (79, [some (.inr (.inr (some (13, 0)))), some (.inl nm_), some (.inl kx_), some (.inl k_), some (.inl (2 * (S_.2.2.1 132 0 ((S_.1 13 0 12) - 1).toNat) + 2 * (S_.1 13 0 53) + 2))], [.inl k_, .inl (320 * (S_.1 13 0 29) + 8 * nm_), .inr (.inr (some (144, 0)))], S_)) rfl ?_
      refine sm_T_bin (w := 320 * (S_.1 13 0 29) + 8 * nm_ + k_) rfl (bi_add (by omega) (by omega) (by omega)) ?_
      refine sm_T_go 1 (c1 := (82, [some (.inr (.inr (some (13, 0)))), some (.inl nm_), some (.inl kx_), some (.inl k_), some (.inl (2 * (S_.2.2.1 132 0 ((S_.1 13 0 12) - 1).toNat) + 2 * (S_.1 13 0 53) + 2))], [.inl (2 * (S_.2.2.1 132 0 ((S_.1 13 0 12) - 1).toNat) + 2 * (S_.1 13 0 53) + 2), .inl (320 * (S_.1 13 0 29) + 8 * nm_ + k_), .inr (.inr (some (144, 0)))], S_)) rfl ?_
      refine sm_T_iast (n := 5120) rfl rfl (by omega) (by omega) ?_
      have hIx12_ : gi (sm_aI S_ 144 0 (320 * (S_.1 13 0 29) + 8 * nm_ + k_).toNat (2 * (S_.2.2.1 132 0 ((S_.1 13 0 12) - 1).toNat) + 2 * (S_.1 13 0 53) + 2)) := gi_aI hI_ (show 0 ≤ 2 * (S_.2.2.1 132 0 ((S_.1 13 0 12) - 1).toNat) + 2 * (S_.1 13 0 53) + 2 ∧ 2 * (S_.2.2.1 132 0 ((S_.1 13 0 12) - 1).toNat) + 2 * (S_.1 13 0 53) + 2 ≤ 2047 from ⟨by omega, by omega⟩)
      have hFx13_ : ai_fr (sx_W vw_344n) S0_ (sm_aI S_ 144 0 (320 * (S_.1 13 0 29) + 8 * nm_ + k_).toNat (2 * (S_.2.2.1 132 0 ((S_.1 13 0 12) - 1).toNat) + 2 * (S_.1 13 0 53) + 2)) := ai_fr_tr hF_ (ai_fr_aI rfl)
      refine sm_T_go 5 (c1 := (93, [some (.inr (.inr (some (13, 0)))), some (.inl nm_), some (.inl kx_), some (.inl k_), some (.inl (2 * (S_.2.2.1 132 0 ((S_.1 13 0 12) - 1).toNat) + 2 * (S_.1 13 0 53) + 2))], [.inl (2 * (S_.2.2.1 132 0 ((S_.1 13 0 12) - 1).toNat) + 2 * (S_.1 13 0 53) + 2), .inl (S_.1 13 0 53), .inr (.inr (some (151, 0)))], sm_aI S_ 144 0 (320 * (S_.1 13 0 29) + 8 * nm_ + k_).toNat (2 * (S_.2.2.1 132 0 ((S_.1 13 0 12) - 1).toNat) + 2 * (S_.1 13 0 53) + 2))) rfl ?_
      refine sm_T_iast (n := 1024) rfl rfl (by omega) (by omega) ?_
      have hIx14_ : gi (sm_aI (sm_aI S_ 144 0 (320 * (S_.1 13 0 29) + 8 * nm_ + k_).toNat (2 * (S_.2.2.1 132 0 ((S_.1 13 0 12) - 1).toNat) + 2 * (S_.1 13 0 53) + 2)) 151 0 (S_.1 13 0 53).toNat (2 * (S_.2.2.1 132 0 ((S_.1 13 0 12) - 1).toNat) + 2 * (S_.1 13 0 53) + 2)) := gi_aI hIx12_ (show 0 ≤ 2 * (S_.2.2.1 132 0 ((S_.1 13 0 12) - 1).toNat) + 2 * (S_.1 13 0 53) + 2 ∧ 2 * (S_.2.2.1 132 0 ((S_.1 13 0 12) - 1).toNat) + 2 * (S_.1 13 0 53) + 2 ≤ 2047 from ⟨by omega, by omega⟩)
      have hFx15_ : ai_fr (sx_W vw_344n) S0_ (sm_aI (sm_aI S_ 144 0 (320 * (S_.1 13 0 29) + 8 * nm_ + k_).toNat (2 * (S_.2.2.1 132 0 ((S_.1 13 0 12) - 1).toNat) + 2 * (S_.1 13 0 53) + 2)) 151 0 (S_.1 13 0 53).toNat (2 * (S_.2.2.1 132 0 ((S_.1 13 0 12) - 1).toNat) + 2 * (S_.1 13 0 53) + 2)) := ai_fr_tr hFx13_ (ai_fr_aI rfl)
      have bx16_ : 0 ≤ S_.1 13 0 52 ∧ S_.1 13 0 52 ≤ 63 := hI_.1 13 0 52 rfl
      refine sm_T_go 6 (c1 := (104, [some (.inr (.inr (some (13, 0)))), some (.inl nm_), some (.inl kx_), some (.inl k_), some (.inl (2 * (S_.2.2.1 132 0 ((S_.1 13 0 12) - 1).toNat) + 2 * (S_.1 13 0 53) + 2))], [.inl kx_, .inr (.inr (some (130, 0))), .inl (S_.1 13 0 52), .inr (.inr (some (13, 0)))], sm_aI (sm_aI S_ 144 0 (320 * (S_.1 13 0 29) + 8 * nm_ + k_).toNat (2 * (S_.2.2.1 132 0 ((S_.1 13 0 12) - 1).toNat) + 2 * (S_.1 13 0 53) + 2)) 151 0 (S_.1 13 0 53).toNat (2 * (S_.2.2.1 132 0 ((S_.1 13 0 12) - 1).toNat) + 2 * (S_.1 13 0 53) + 2))) rfl ?_
      refine sm_T_iald (n := 640) rfl rfl (by omega) (by omega) ?_
      have bx17_ : 0 ≤ S_.2.2.1 130 0 kx_.toNat ∧ S_.2.2.1 130 0 kx_.toNat ≤ 2147483647 := hI_.2 130 0 _
      refine sm_T_go 1 (c1 := (106, [some (.inr (.inr (some (13, 0)))), some (.inl nm_), some (.inl kx_), some (.inl k_), some (.inl (2 * (S_.2.2.1 132 0 ((S_.1 13 0 12) - 1).toNat) + 2 * (S_.1 13 0 53) + 2))], [.inl k_, .inl (S_.2.2.1 130 0 kx_.toNat), .inl (S_.1 13 0 52), .inr (.inr (some (13, 0)))], sm_aI (sm_aI S_ 144 0 (320 * (S_.1 13 0 29) + 8 * nm_ + k_).toNat (2 * (S_.2.2.1 132 0 ((S_.1 13 0 12) - 1).toNat) + 2 * (S_.1 13 0 53) + 2)) 151 0 (S_.1 13 0 53).toNat (2 * (S_.2.2.1 132 0 ((S_.1 13 0 12) - 1).toNat) + 2 * (S_.1 13 0 53) + 2))) rfl ?_
      refine sm_T_bin (w := (i_shr (S_.2.2.1 130 0 kx_.toNat) k_)) rfl rfl ?_
      refine sm_T_go 1 (c1 := (108, [some (.inr (.inr (some (13, 0)))), some (.inl nm_), some (.inl kx_), some (.inl k_), some (.inl (2 * (S_.2.2.1 132 0 ((S_.1 13 0 12) - 1).toNat) + 2 * (S_.1 13 0 53) + 2))], [.inl 1, .inl (i_shr (S_.2.2.1 130 0 kx_.toNat) k_), .inl (S_.1 13 0 52), .inr (.inr (some (13, 0)))], sm_aI (sm_aI S_ 144 0 (320 * (S_.1 13 0 29) + 8 * nm_ + k_).toNat (2 * (S_.2.2.1 132 0 ((S_.1 13 0 12) - 1).toNat) + 2 * (S_.1 13 0 53) + 2)) 151 0 (S_.1 13 0 53).toNat (2 * (S_.2.2.1 132 0 ((S_.1 13 0 12) - 1).toNat) + 2 * (S_.1 13 0 53) + 2))) rfl ?_
      refine sm_T_bin (w := ((i_shr (S_.2.2.1 130 0 kx_.toNat) k_) % 2)) rfl (bi_msk (k := 1) (by decide)) ?_
      refine sm_T_go 2 (c1 := (113, [some (.inr (.inr (some (13, 0)))), some (.inl nm_), some (.inl kx_), some (.inl k_), some (.inl (2 * (S_.2.2.1 132 0 ((S_.1 13 0 12) - 1).toNat) + 2 * (S_.1 13 0 53) + 2))], [.inl (S_.1 13 0 53), .inl ((i_shr (S_.2.2.1 130 0 kx_.toNat) k_) % 2), .inl (S_.1 13 0 52), .inr (.inr (some (13, 0)))], sm_aI (sm_aI S_ 144 0 (320 * (S_.1 13 0 29) + 8 * nm_ + k_).toNat (2 * (S_.2.2.1 132 0 ((S_.1 13 0 12) - 1).toNat) + 2 * (S_.1 13 0 53) + 2)) 151 0 (S_.1 13 0 53).toNat (2 * (S_.2.2.1 132 0 ((S_.1 13 0 12) - 1).toNat) + 2 * (S_.1 13 0 53) + 2))) rfl ?_
      refine sm_T_bin (w := (i_shl ((i_shr (S_.2.2.1 130 0 kx_.toNat) k_) % 2) (S_.1 13 0 53))) rfl rfl ?_
      have bx18_ := i_shb (x_ := ((i_shr (S_.2.2.1 130 0 kx_.toNat) k_) % 2)) (y_ := (S_.1 13 0 53)) (by omega) (by omega)
      refine sm_T_bin (w := (i_or (S_.1 13 0 52) (i_shl ((i_shr (S_.2.2.1 130 0 kx_.toNat) k_) % 2) (S_.1 13 0 53)))) rfl rfl ?_
      have bx19_ := i_orb (x_ := (S_.1 13 0 52)) (y_ := (i_shl ((i_shr (S_.2.2.1 130 0 kx_.toNat) k_) % 2) (S_.1 13 0 53))) (by omega) (by omega)
      have hIx20_ : gi (sm_pI (sm_aI (sm_aI S_ 144 0 (320 * (S_.1 13 0 29) + 8 * nm_ + k_).toNat (2 * (S_.2.2.1 132 0 ((S_.1 13 0 12) - 1).toNat) + 2 * (S_.1 13 0 53) + 2)) 151 0 (S_.1 13 0 53).toNat (2 * (S_.2.2.1 132 0 ((S_.1 13 0 12) - 1).toNat) + 2 * (S_.1 13 0 53) + 2)) 13 0 52 (i_or (S_.1 13 0 52) (i_shl ((i_shr (S_.2.2.1 130 0 kx_.toNat) k_) % 2) (S_.1 13 0 53)))) := gi_pI hIx14_ (show 0 ≤ (i_or (S_.1 13 0 52) (i_shl ((i_shr (S_.2.2.1 130 0 kx_.toNat) k_) % 2) (S_.1 13 0 53))) ∧ (i_or (S_.1 13 0 52) (i_shl ((i_shr (S_.2.2.1 130 0 kx_.toNat) k_) % 2) (S_.1 13 0 53))) ≤ 63 from ⟨by omega, by omega⟩)
      have hFx21_ : ai_fr (sx_W vw_344n) S0_ (sm_pI (sm_aI (sm_aI S_ 144 0 (320 * (S_.1 13 0 29) + 8 * nm_ + k_).toNat (2 * (S_.2.2.1 132 0 ((S_.1 13 0 12) - 1).toNat) + 2 * (S_.1 13 0 53) + 2)) 151 0 (S_.1 13 0 53).toNat (2 * (S_.2.2.1 132 0 ((S_.1 13 0 12) - 1).toNat) + 2 * (S_.1 13 0 53) + 2)) 13 0 52 (i_or (S_.1 13 0 52) (i_shl ((i_shr (S_.2.2.1 130 0 kx_.toNat) k_) % 2) (S_.1 13 0 53)))) := ai_fr_tr hFx15_ (ai_fr_pI rfl)
      refine sm_T_go 5 (c1 := (124, [some (.inr (.inr (some (13, 0)))), some (.inl nm_), some (.inl kx_), some (.inl k_), some (.inl (2 * (S_.2.2.1 132 0 ((S_.1 13 0 12) - 1).toNat) + 2 * (S_.1 13 0 53) + 2))], [.inl 1, .inl (S_.1 13 0 53), .inr (.inr (some (13, 0)))], sm_pI (sm_aI (sm_aI S_ 144 0 (320 * (S_.1 13 0 29) + 8 * nm_ + k_).toNat (2 * (S_.2.2.1 132 0 ((S_.1 13 0 12) - 1).toNat) + 2 * (S_.1 13 0 53) + 2)) 151 0 (S_.1 13 0 53).toNat (2 * (S_.2.2.1 132 0 ((S_.1 13 0 12) - 1).toNat) + 2 * (S_.1 13 0 53) + 2)) 13 0 52 (i_or (S_.1 13 0 52) (i_shl ((i_shr (S_.2.2.1 130 0 kx_.toNat) k_) % 2) (S_.1 13 0 53))))) rfl ?_
      refine sm_T_bin (w := (S_.1 13 0 53) + 1) rfl (bi_add (by omega) (by omega) (by omega)) ?_
      have hIx22_ : gi (sm_pI (sm_pI (sm_aI (sm_aI S_ 144 0 (320 * (S_.1 13 0 29) + 8 * nm_ + k_).toNat (2 * (S_.2.2.1 132 0 ((S_.1 13 0 12) - 1).toNat) + 2 * (S_.1 13 0 53) + 2)) 151 0 (S_.1 13 0 53).toNat (2 * (S_.2.2.1 132 0 ((S_.1 13 0 12) - 1).toNat) + 2 * (S_.1 13 0 53) + 2)) 13 0 52 (i_or (S_.1 13 0 52) (i_shl ((i_shr (S_.2.2.1 130 0 kx_.toNat) k_) % 2) (S_.1 13 0 53)))) 13 0 53 ((S_.1 13 0 53) + 1)) := gi_pI hIx20_ (show 0 ≤ (S_.1 13 0 53) + 1 ∧ (S_.1 13 0 53) + 1 ≤ 6 from ⟨by omega, by omega⟩)
      have hFx23_ : ai_fr (sx_W vw_344n) S0_ (sm_pI (sm_pI (sm_aI (sm_aI S_ 144 0 (320 * (S_.1 13 0 29) + 8 * nm_ + k_).toNat (2 * (S_.2.2.1 132 0 ((S_.1 13 0 12) - 1).toNat) + 2 * (S_.1 13 0 53) + 2)) 151 0 (S_.1 13 0 53).toNat (2 * (S_.2.2.1 132 0 ((S_.1 13 0 12) - 1).toNat) + 2 * (S_.1 13 0 53) + 2)) 13 0 52 (i_or (S_.1 13 0 52) (i_shl ((i_shr (S_.2.2.1 130 0 kx_.toNat) k_) % 2) (S_.1 13 0 53)))) 13 0 53 ((S_.1 13 0 53) + 1)) := ai_fr_tr hFx21_ (ai_fr_pI rfl)
      refine sm_T_go 1 (c1 := (128, [some (.inr (.inr (some (13, 0)))), some (.inl nm_), some (.inl kx_), some (.inl k_), some (.inl (2 * (S_.2.2.1 132 0 ((S_.1 13 0 12) - 1).toNat) + 2 * (S_.1 13 0 53) + 2))], [], sm_pI (sm_pI (sm_aI (sm_aI S_ 144 0 (320 * (S_.1 13 0 29) + 8 * nm_ + k_).toNat (2 * (S_.2.2.1 132 0 ((S_.1 13 0 12) - 1).toNat) + 2 * (S_.1 13 0 53) + 2)) 151 0 (S_.1 13 0 53).toNat (2 * (S_.2.2.1 132 0 ((S_.1 13 0 12) - 1).toNat) + 2 * (S_.1 13 0 53) + 2)) 13 0 52 (i_or (S_.1 13 0 52) (i_shl ((i_shr (S_.2.2.1 130 0 kx_.toNat) k_) % 2) (S_.1 13 0 53)))) 13 0 53 ((S_.1 13 0 53) + 1))) rfl ?_
      refine sm_T_inc (a := 3) (z := 1) (v := k_) (w := k_ + 1) rfl rfl (by omega) (by omega) (by omega) ?_
      refine sm_T_go 1 (c1 := (30, [some (.inr (.inr (some (13, 0)))), some (.inl nm_), some (.inl kx_), some (.inl (k_ + 1)), some (.inl (2 * (S_.2.2.1 132 0 ((S_.1 13 0 12) - 1).toNat) + 2 * (S_.1 13 0 53) + 2))], [], sm_pI (sm_pI (sm_aI (sm_aI S_ 144 0 (320 * (S_.1 13 0 29) + 8 * nm_ + k_).toNat (2 * (S_.2.2.1 132 0 ((S_.1 13 0 12) - 1).toNat) + 2 * (S_.1 13 0 53) + 2)) 151 0 (S_.1 13 0 53).toNat (2 * (S_.2.2.1 132 0 ((S_.1 13 0 12) - 1).toNat) + 2 * (S_.1 13 0 53) + 2)) 13 0 52 (i_or (S_.1 13 0 52) (i_shl ((i_shr (S_.2.2.1 130 0 kx_.toNat) k_) % 2) (S_.1 13 0 53)))) 13 0 53 ((S_.1 13 0 53) + 1))) rfl ?_
      refine sm_T_wk [some (.inr (.inr (some (13, 0)))), some (.inl nm_), some (.inl kx_), some (.inl (k_ + 1)), none] (by exact ⟨rfl, rfl, rfl, rfl, trivial⟩) ?_
      refine ih_ kx_ (k_ + 1) (sm_pI (sm_pI (sm_aI (sm_aI S_ 144 0 (320 * (S_.1 13 0 29) + 8 * nm_ + k_).toNat (2 * (S_.2.2.1 132 0 ((S_.1 13 0 12) - 1).toNat) + 2 * (S_.1 13 0 53) + 2)) 151 0 (S_.1 13 0 53).toNat (2 * (S_.2.2.1 132 0 ((S_.1 13 0 12) - 1).toNat) + 2 * (S_.1 13 0 53) + 2)) 13 0 52 (i_or (S_.1 13 0 52) (i_shl ((i_shr (S_.2.2.1 130 0 kx_.toNat) k_) % 2) (S_.1 13 0 53)))) 13 0 53 ((S_.1 13 0 53) + 1)) hIx22_ hFx23_ ⟨?_, ?_, ?_, ?_, ?_, ?_, ?_, trivial⟩ ?_
      · (try simp only [rd_eq, rd_ne, rf_eq, rf_nk, rf_nt, rd_fa, rd_af, rd_fl, rd_al, rd_lf, rd_la, rd_leq, rd_lne, rd_fr, rd_ar, ne_eq, Nat.reduceEqDiff, not_false_eq_true]); omega
      · exact h4_
      · (intro j_; (try simp only [rd_eq, rd_ne, rf_eq, rf_nk, rf_nt, rd_fa, rd_af, rd_fl, rd_al, rd_lf, rd_la, rd_leq, rd_lne, rd_fr, rd_ar, ne_eq, Nat.reduceEqDiff, not_false_eq_true]); exact h5_ j_)
      · rw [show (k_ + 1).toNat = k_.toNat + 1 by omega, r_bt_s]
        refine rwv_ap (q_ := 8 * (40 * fr_ + s_) + k_.toNat) h1_ (by rw [r_bt_l]) (fun j9_ => ?_)
        (try simp only [rd_eq, rd_ne, rf_eq, rf_nk, rf_nt, rd_fa, rd_af, rd_fl, rd_al, rd_lf, rd_la, rd_leq, rd_lne, rd_fr, rd_ar, ne_eq, Nat.reduceEqDiff, not_false_eq_true])
        have ec : (320 * S_.1 13 0 29 + 8 * nm_ + k_).toNat = 8 * (40 * fr_ + s_) + k_.toNat := by omega
        rw [ec]
        by_cases q9_ : j9_ = 8 * (40 * fr_ + s_) + k_.toNat
        · rw [if_pos q9_, if_pos q9_]; push_cast; omega
        · rw [if_neg q9_, if_neg q9_]
      · intro j_ hj_
        (try simp only [rd_eq, rd_ne, rf_eq, rf_nk, rf_nt, rd_fa, rd_af, rd_fl, rd_al, rd_lf, rd_la, rd_leq, rd_lne, rd_fr, rd_ar, ne_eq, Nat.reduceEqDiff, not_false_eq_true])
        rw [if_neg (by omega)]
        exact h2_ j_ hj_
      · obtain ⟨u9_, hu9_⟩ : ∃ u9_ : Nat, S_.1 13 0 53 = (u9_ : Int) := ⟨R_ + k_.toNat, by omega⟩
        have a6_ := h6_.1
        have c6_ := h6_.2
        rw [hu9_, Int.toNat_natCast] at a6_
        refine ⟨?_, fun k9_ hk9_ => ?_⟩
        · (try simp only [rd_eq, rd_ne, rf_eq, rf_nk, rf_nt, rd_fa, rd_af, rd_fl, rd_al, rd_lf, rd_la, rd_leq, rd_lne, rd_fr, rd_ar, ne_eq, Nat.reduceEqDiff, not_false_eq_true]); rw [hu9_, show ((u9_ : Int) + 1).toNat = u9_ + 1 by omega]; exact bg_up a6_.1 a6_.2 (by omega) (by omega)
        · (try simp only [rd_eq, rd_ne, rf_eq, rf_nk, rf_nt, rd_fa, rd_af, rd_fl, rd_al, rd_lf, rd_la, rd_leq, rd_lne, rd_fr, rd_ar, ne_eq, Nat.reduceEqDiff, not_false_eq_true]); simp only [rf_eq, rf_nk, rd_fa, ne_eq, Nat.reduceEqDiff, not_false_eq_true] at hk9_; by_cases q9_ : k9_ = (S_.1 13 0 53).toNat; (rw [if_pos q9_]; omega); (rw [if_neg q9_]; exact c6_ k9_ (by omega))
      · have r9_ : (S_.1 13 0 53) = ((R_ + k_.toNat : Nat) : Int) := by omega
        have d8_ : S_.1 13 0 52 = bho det_ R_ k_.toNat x0_.2 := h8_.1
        refine ⟨?_, fun i9_ hi9_ => ?_⟩
        · rw [show (k_ + 1).toNat = k_.toNat + 1 by omega]; show _ = bho det_ R_ (k_.toNat + 1) x0_.2; rw [bho_s, show ((k_.toNat : Nat) : Int) = k_ by omega]; (try simp only [rd_eq, rd_ne, rf_eq, rf_nk, rf_nt, rd_fa, rd_af, rd_fl, rd_al, rd_lf, rd_la, rd_leq, rd_lne, rd_fr, rd_ar, ne_eq, Nat.reduceEqDiff, not_false_eq_true]); rw [r9_, d1_, d8_]
        · have q8_ := h8_.2 i9_; show _ = nho I_ R_ (k_ + 1).toNat x0_.1 i9_; rw [show (k_ + 1).toNat = k_.toNat + 1 by omega]; (try simp only [rd_eq, rd_ne, rf_eq, rf_nk, rf_nt, rd_fa, rd_af, rd_fl, rd_al, rd_lf, rd_la, rd_leq, rd_lne, rd_fr, rd_ar, ne_eq, Nat.reduceEqDiff, not_false_eq_true]); by_cases q9_ : i9_ = (S_.1 13 0 53).toNat; (rw [if_pos q9_]; unfold nho; rw [if_pos (by omega)]; push_cast; omega); (rw [if_neg q9_]; refine (q8_ (by omega)).trans ?_; show nho I_ R_ k_.toNat x0_.1 i9_ = _; unfold nho; by_cases q7_ : R_ ≤ i9_ ∧ i9_ < R_ + k_.toNat; (rw [if_pos q7_, if_pos (by omega)]); (rw [if_neg q7_, if_neg (by omega)]))
      · omega
set_option maxHeartbeats 1500000 in
theorem vc_344n {sc_ : Nat × (Nat → Int)} (nm_ : Int) (b_ : Nat → Int) (n_ : Nat) (T_ : Nat) (p_ : Nat) (uu_ : Nat) (f_ : Nat) (q_ : Nat) (A_ : pA) (M_ : Nat) (s_ : Nat) (fr_ : Nat) (wd_ : Nat) (R_ : Nat) (I_ : Nat) (det_ : Int) (x0_ : gN) (S0_ : sm_S) (hI_ : gi S0_) (ht_ : rtab b_ n_ T_ S0_) (hx_ : rg b_ n_ T_ (.inr p_) S0_) (hn_ : nxs b_ n_ 59 f_ p_ uu_) (hq_ : p_ad b_ n_ uu_ = .inr q_) (hf_ : (S0_.1 13 0 29) = (fr_ : Int) ∧ fr_ ≤ 15) (hn1_ : nm_ = (s_ : Int) ∧ s_ < A_.1 M_ ∧ A_.1 M_ ≤ 40 ∧ M_ ≤ 15) (hmd_ : (S0_.1 13 0 28) = (M_ : Int)) (hw_ : S0_.2.2.1 129 0 (40 * M_ + s_) = (wd_ : Int) ∧ 1 ≤ wd_ ∧ wd_ ≤ 8) (hR_ : (S0_.1 13 0 53) = (R_ : Int) ∧ R_ + wd_ ≤ 6) (hms_ : 1 ≤ (S0_.1 13 0 12) ∧ (S0_.1 13 0 12) ≤ 16) (hI1_ : S0_.2.2.1 132 0 ((S0_.1 13 0 12) - 1).toNat = (I_ : Int) ∧ I_ ≤ 12) (hrn_ : rnS S0_) (hnf_ : 1 + (I_ : Int) + R_ + wd_ ≤ (S0_.1 13 0 37)) (hdt_ : S0_.2.2.1 130 0 (40 * M_ + s_) = det_) (hx0_ : rxn R_ x0_ S0_) : sm_T (mt_P sc_) 2 344 (0, [some (.inr (.inr (some (13, 0)))), some (.inl nm_), none, none, none], [], S0_) (fun ro9_ => ∃ u_ S1_, ro9_ = (.inl u_, S1_, 0) ∧ vq_344n nm_ b_ n_ T_ p_ uu_ f_ q_ A_ M_ s_ fr_ wd_ R_ I_ det_ x0_ S0_ u_ S1_) := by
  have hF_ : ai_fr (sx_W vw_344n) S0_ S0_ := ai_fr_rf
  have bx1_ : 0 ≤ S0_.1 13 0 28 ∧ S0_.1 13 0 28 ≤ 15 := hI_.1 13 0 28 rfl
  refine sm_T_go 3 (c1 := (6, [some (.inr (.inr (some (13, 0)))), some (.inl nm_), none, none, none], [.inl (S0_.1 13 0 28), .inl 40], S0_)) rfl ?_
  refine sm_T_bin (w := 40 * (S0_.1 13 0 28)) rfl (bi_mul (by omega) (by omega) (by omega)) ?_
  refine sm_T_go 1 (c1 := (8, [some (.inr (.inr (some (13, 0)))), some (.inl nm_), none, none, none], [.inl nm_, .inl (40 * (S0_.1 13 0 28))], S0_)) rfl ?_
  refine sm_T_bin (w := 40 * (S0_.1 13 0 28) + nm_) rfl (bi_add (by omega) (by omega) (by omega)) ?_
  have bx2_ : 0 ≤ S0_.1 13 0 29 ∧ S0_.1 13 0 29 ≤ 16 := hI_.1 13 0 29 rfl
  refine sm_T_go 6 (c1 := (20, [some (.inr (.inr (some (13, 0)))), some (.inl nm_), some (.inl (40 * (S0_.1 13 0 28) + nm_)), none, none], [.inl (S0_.1 13 0 29), .inl 40, .inr (.inr (some (150, 0)))], S0_)) rfl ?_
  refine sm_T_bin (w := 40 * (S0_.1 13 0 29)) rfl (bi_mul (by omega) (by omega) (by omega)) ?_
  refine sm_T_go 1 (c1 := (22, [some (.inr (.inr (some (13, 0)))), some (.inl nm_), some (.inl (40 * (S0_.1 13 0 28) + nm_)), none, none], [.inl nm_, .inl (40 * (S0_.1 13 0 29)), .inr (.inr (some (150, 0)))], S0_)) rfl ?_
  refine sm_T_bin (w := 40 * (S0_.1 13 0 29) + nm_) rfl (bi_add (by omega) (by omega) (by omega)) ?_
  have bx3_ : 0 ≤ S0_.1 13 0 53 ∧ S0_.1 13 0 53 ≤ 6 := hI_.1 13 0 53 rfl
  refine sm_T_go 2 (c1 := (27, [some (.inr (.inr (some (13, 0)))), some (.inl nm_), some (.inl (40 * (S0_.1 13 0 28) + nm_)), none, none], [.inl (S0_.1 13 0 53), .inl (40 * (S0_.1 13 0 29) + nm_), .inr (.inr (some (150, 0)))], S0_)) rfl ?_
  refine sm_T_iast (n := 640) rfl rfl (by omega) (by omega) ?_
  have hIx4_ : gi (sm_aI S0_ 150 0 (40 * (S0_.1 13 0 29) + nm_).toNat (S0_.1 13 0 53)) := gi_aI hI_ (show 0 ≤ (S0_.1 13 0 53) ∧ (S0_.1 13 0 53) ≤ 6 from ⟨by omega, by omega⟩)
  have hFx5_ : ai_fr (sx_W vw_344n) S0_ (sm_aI S0_ 150 0 (40 * (S0_.1 13 0 29) + nm_).toNat (S0_.1 13 0 53)) := ai_fr_tr hF_ (ai_fr_aI rfl)
  refine sm_T_go 2 (c1 := (30, [some (.inr (.inr (some (13, 0)))), some (.inl nm_), some (.inl (40 * (S0_.1 13 0 28) + nm_)), some (.inl 0), none], [], sm_aI S0_ 150 0 (40 * (S0_.1 13 0 29) + nm_).toNat (S0_.1 13 0 53))) rfl ?_
  refine (vl_344n nm_ b_ n_ T_ p_ uu_ f_ q_ A_ M_ s_ fr_ wd_ R_ I_ det_ x0_ S0_ ht_ hx_ hn_ hq_ hf_ hn1_ hmd_ hw_ hR_ hms_ hI1_ hrn_ hnf_ hdt_ hx0_ _) (40 * (S0_.1 13 0 28) + nm_) 0 (sm_aI S0_ 150 0 (40 * (S0_.1 13 0 29) + nm_).toNat (S0_.1 13 0 53)) hIx4_ hFx5_ ⟨?_, ?_, ?_, ?_, ?_, ?_, ?_, trivial⟩ (Nat.lt_succ_self _)
  · (try simp only [rd_eq, rd_ne, rf_eq, rf_nk, rf_nt, rd_fa, rd_af, rd_fl, rd_al, rd_lf, rd_la, rd_leq, rd_lne, rd_fr, rd_ar, ne_eq, Nat.reduceEqDiff, not_false_eq_true]); omega
  · exact hx_
  · (intro j_; (try simp only [rd_eq, rd_ne, rf_eq, rf_nk, rf_nt, rd_fa, rd_af, rd_fl, rd_al, rd_lf, rd_la, rd_leq, rd_lne, rd_fr, rd_ar, ne_eq, Nat.reduceEqDiff, not_false_eq_true]); rw [hR_.1, show (40 * S0_.1 13 0 29 + nm_).toNat = 40 * fr_ + s_ by omega])
  · (intro k9_ z9_ e9_; simp [r_bt] at e9_)
  · (intro j_ hj_; exact rd_ne (by decide))
  · exact rnS_fr (w_ := ([], [150], [])) hrn_ (ai_fr_aI rfl) rfl rfl rfl rfl
  · refine ⟨hx0_.1, fun i9_ hi9_ => ?_⟩
    rw [rd_ne (by decide)]
    show S0_.2.2.1 151 0 i9_ = nho I_ R_ 0 x0_.1 i9_
    unfold nho
    rw [if_neg (by omega)]
    exact hx0_.2 i9_ (by omega)
/-! M_.makeNext -/
def vw_347n : sx_Wl := ([(13, 9), (13, 10), (13, 11), (13, 32), (13, 33), (13, 34), (13, 37)], [136, 137, 138, 139, 140, 141, 142, 143, 151], [])
def vq_347n (b_ : Nat → Int) (n_ : Nat) (T_ : Nat) (F_ : Nat) (I_ : Nat) (A_ : pA) (B_ : pA) (X_ : Nat → gQ → gE → Option (gQ × gE)) (M_ : Nat) (fr_ : Nat) (q0_ : gQ) (E_ : gE) (O_ : gO) (p_ : Nat) (s_ : Nat) (p1_ : Nat) (p2_ : Nat) (xr : pR) (y_ : Nat) (rb : Nat) (R_ : Nat) (x0_ : gN) (S0_ : sm_S) (u_ : Option sm_V) (S1_ : sm_S) : Prop := u_ = none ∧ gi S1_ ∧ ai_fr (sx_W vw_347n) S0_ S1_ ∧ ((rg b_ n_ T_ (.inr y_) S1_ ∧ ∃ G_ v9_, ev F_ I_ B_ X_ M_ (q0_, E_, O_, []) xr.2.2 = some ((G_, q0_.2), E_, O_, [v9_]) ∧ h_tp xr.2.1 = (v9_.length : Int) ∧ (1 ≤ v9_.length ∧ v9_.length ≤ 8) ∧ rgl F_ G_ S1_ ∧ imq (S1_.1 13 0 37 - S1_.1 13 0 38 ≤ 1000) (rxn R_ (nnx rb v9_ x0_.1, x0_.2) S1_)) ∧ imq (S1_.1 13 0 37 - S1_.1 13 0 38 ≤ 1000) (rnS S1_))
set_option maxHeartbeats 1500000 in
theorem vl_347n {sc_ : Nat × (Nat → Int)} (b_ : Nat → Int) (n_ : Nat) (T_ : Nat) (F_ : Nat) (I_ : Nat) (A_ : pA) (B_ : pA) (X_ : Nat → gQ → gE → Option (gQ × gE)) (M_ : Nat) (fr_ : Nat) (q0_ : gQ) (E_ : gE) (O_ : gO) (p_ : Nat) (s_ : Nat) (p1_ : Nat) (p2_ : Nat) (xr : pR) (y_ : Nat) (rb : Nat) (R_ : Nat) (x0_ : gN) (S0_ : sm_S) (ht_ : rtab b_ n_ T_ S0_) (hx_ : rg b_ n_ T_ (.inr p_) S0_) (hm1_ : (S0_.1 13 0 27) = 1) (hen_ : r_e1 b_ n_ T_ B_ M_ fr_ S0_) (hA_ : a_ok b_ n_ A_ M_) (hxx_ : a_ex A_ B_ M_) (hX_ : ∀ d_ q_ e_ z_, X_ d_ q_ e_ = some z_ → q_.1.length ≤ z_.1.1.length) (hte_ : ten B_ M_ (A_.1 M_) E_ O_) (hev_ : rev fr_ (A_.1 M_) E_ O_ (q0_.1.length ≤ 1001) S0_) (hg_ : rgl F_ q0_.1 S0_) (hk_ : lx_kd b_ n_ p_ = 1) (hfn_ : p_fn b_ n_ A_ M_ p_ = (s_ : Int)) (ha1_ : p_ad b_ n_ p_ = .inr p1_) (hk256_ : lx_kd b_ n_ p1_ = 256) (ha2_ : p_ad b_ n_ p1_ = .inr p2_) (hxr_ : p_ex b_ n_ false (p_pd b_ n_ A_ M_) [] p2_ = .inr xr) (h59_ : p_nd b_ n_ 59 xr.1 = .inr y_) (hrb_ : S0_.2.2.1 150 0 (40 * fr_ + s_) = (rb : Int)) (hrn_ : rnS S0_) (hlw_ : lwS F_ (q0_, E_, O_, [])) (hXw_ : lwX F_ I_ X_) (hRF_ : 1 + I_ + q0_.2.1 ≤ F_) (hwd_ : h_tp xr.2.1 = B_.2.2.2.1 (40 * M_ + s_)) (hx0_ : rxn R_ x0_ S0_) : ∀ nn_ : Nat, (∀ (nv_ : Int) (kx_ : Int) (k_ : Int) (S_ : sm_S), gi S_ → ai_fr (sx_W vw_347n) S0_ S_ → ((0 ≤ k_ ∧ nv_ = (s_ : Int) ∧ kx_ = 40 * (M_ : Int) + s_ ∧ s_ < 40) ∧ (rg b_ n_ T_ (.inr xr.1) S_) ∧ (∃ G_ v9_, ev F_ I_ B_ X_ M_ (q0_, E_, O_, []) xr.2.2 = some ((G_, q0_.2), E_, O_, [v9_]) ∧ h_tp xr.2.1 = (v9_.length : Int) ∧ (1 ≤ v9_.length ∧ v9_.length ≤ 8) ∧ rgl F_ G_ S_ ∧ imq (S_.1 13 0 37 - S_.1 13 0 38 ≤ 1000) (rxn R_ (nnx rb (v9_.take k_.toNat) x0_.1, x0_.2) S_ ∧ rwv (S_.2.2.1 139 0) 0 v9_)) ∧ (imq (S_.1 13 0 37 - S_.1 13 0 38 ≤ 1000) (rnS S_ ∧ ∀ j9_ : Nat, (j9_ : Int) < B_.2.2.2.1 (40 * M_ + s_) → 0 ≤ S_.2.2.1 139 0 j9_ ∧ S_.2.2.1 139 0 j9_ < 2 * S_.1 13 0 37)) ∧ True) → ((9 - k_).toNat) < nn_ → sm_T (mt_P sc_) 9 347 (39, [some (.inr (.inr (some (13, 0)))), some (.inl nv_), some (.inl kx_), some (.inl k_)], [], S_) (fun ro9_ => ∃ u_ S1_, ro9_ = (.inl u_, S1_, 0) ∧ vq_347n b_ n_ T_ F_ I_ A_ B_ X_ M_ fr_ q0_ E_ O_ p_ s_ p1_ p2_ xr y_ rb R_ x0_ S0_ u_ S1_)) := by
  intro nn_
  induction nn_ with
  | zero => exact fun _ _ _ _ _ _ _ h_ => absurd h_ (Nat.not_lt_zero _)
  | succ nn_ ih_ =>
    rintro nv_ kx_ k_ S_ hI_ hF_ ⟨h0_, h1_, h2_, h3_, -⟩ hm_
    obtain ⟨G_, v9_, z1_, z2_, z3_, z4_, z5_⟩ := h2_
    have rb1_ : S_.2.2.1 150 0 (40 * fr_ + s_) = (rb : Int) := by rw [fr_arr (t := 150) (i := 0) hF_ rfl]; exact hrb_
    have wE_ : S_.2.2.1 129 0 kx_.toNat = B_.2.2.2.1 (40 * M_ + s_) := by have f1_ := fn_ex (p_ := p_) hxx_ (Nat.le_refl M_) hfn_; have sB_ : s_ < B_.1 M_ := Nat.lt_of_lt_of_le f1_.2 hxx_.1; rw [fr_arr (t := 129) (i := 0) hF_ rfl, show kx_.toNat = 40 * M_ + s_ by omega, ((hen_.2.2.2 M_ (Nat.le_refl _)).2 s_ sB_).2.2.1]
    have ht1_ := rtab_fr ht_ hF_ rfl rfl rfl rfl rfl
    have M15_ := hA_.1
    have wB_ : S_.2.2.1 129 0 kx_.toNat ≤ 8 := by have f1_ := fn_ex (p_ := p_) hxx_ (Nat.le_refl M_) hfn_; have sB_ : s_ < B_.1 M_ := Nat.lt_of_lt_of_le f1_.2 hxx_.1; rw [fr_arr (t := 129) (i := 0) hF_ rfl, show kx_.toNat = 40 * M_ + s_ by omega, ((hen_.2.2.2 M_ (Nat.le_refl _)).2 s_ sB_).2.2.1]; exact ((hen_.1.2 M_ (Nat.le_refl _)).2 s_ sB_).2.2.1.2
    have f9_ : S_.1 13 0 29 = (fr_ : Int) := (hF_.1 13 0 29 rfl).trans hen_.2.2.1.1
    have fb_ := hen_.2.2.1.2
    refine sm_T_go 4 (c1 := (45, [some (.inr (.inr (some (13, 0)))), some (.inl nv_), some (.inl kx_), some (.inl k_)], [.inl kx_, .inr (.inr (some (129, 0))), .inl k_], S_)) rfl ?_
    refine sm_T_iald (n := 640) rfl rfl (by omega) (by omega) ?_
    have bx1_ : 0 ≤ S_.2.2.1 129 0 kx_.toNat ∧ S_.2.2.1 129 0 kx_.toNat ≤ 8 := hI_.2 129 0 _
    refine sm_T_br (a := 3) (z := 36) rfl (fun cx2_ => ?_) (fun cx2_ => ?_)
    · have cx2_ : (S_.2.2.1 129 0 kx_.toNat) ≤ k_ := of_decide_eq_true cx2_
      refine sm_T_go 2 (c1 := (85, [some (.inr (.inr (some (13, 0)))), some (.inl nv_), some (.inl kx_), some (.inl k_)], [.inl 59, .inr (.inr (some (13, 0)))], S_)) rfl ?_
      refine sm_T_cal (d1 := 3) (Q1 := vq_300 59 b_ n_ T_ (.inr xr.1) S_) rfl rfl (by decide) (vc_300 59 b_ n_ T_ (.inr xr.1) S_ hI_ (by exact ht1_) (by exact h1_) (by decide)) (fun u_ Sx3_ px6_ => ?_)
      obtain ⟨rfl, hIx4_, hFx5_, px6_⟩ := px6_
      have hFx7_ : ai_fr (sx_W vw_347n) S0_ Sx3_ := ai_fr_tr hF_ (fr_le hFx5_ rfl)
      have g85_ := px6_
      rw [pb_r rfl, h59_] at g85_
      have r85_ := rgl_fr z4_ hFx5_ rfl rfl rfl rfl rfl rfl
      have w85_ : imq (Sx3_.1 13 0 37 - Sx3_.1 13 0 38 ≤ 1000) (rxn R_ (nnx rb v9_ x0_.1, x0_.2) Sx3_) := fun q9_ => by (have y9_ := (z5_ (by rw [hFx5_.1 13 0 37 rfl, hFx5_.1 13 0 38 rfl] at q9_; exact q9_)).1; rw [List.take_of_length_le (by omega)] at y9_; exact rxn_fr y9_ hFx5_)
      have n85_ : imq (Sx3_.1 13 0 37 - Sx3_.1 13 0 38 ≤ 1000) (rnS Sx3_) := fun q9_ => rnS_fr (h3_ (by rw [hFx5_.1 13 0 37 rfl, hFx5_.1 13 0 38 rfl] at q9_; exact q9_)).1 hFx5_ rfl rfl rfl rfl
      refine sm_T_rv rfl ⟨_, _, rfl, rfl, hIx4_, hFx7_, ?_⟩
      exact ⟨⟨g85_, G_, v9_, z1_, z2_, z3_, r85_, w85_⟩, n85_⟩
    · have cx2_ : ¬ ((S_.2.2.1 129 0 kx_.toNat) ≤ k_) := of_decide_eq_false cx2_
      have bx8_ : 0 ≤ S_.1 13 0 29 ∧ S_.1 13 0 29 ≤ 16 := hI_.1 13 0 29 rfl
      refine sm_T_go 7 (c1 := (63, [some (.inr (.inr (some (13, 0)))), some (.inl nv_), some (.inl kx_), some (.inl k_)], [.inl (S_.1 13 0 29), .inl 40, .inr (.inr (some (150, 0))), .inr (.inr (some (151, 0)))], S_)) rfl ?_
      refine sm_T_bin (w := 40 * (S_.1 13 0 29)) rfl (bi_mul (by omega) (by omega) (by omega)) ?_
      refine sm_T_go 1 (c1 := (65, [some (.inr (.inr (some (13, 0)))), some (.inl nv_), some (.inl kx_), some (.inl k_)], [.inl nv_, .inl (40 * (S_.1 13 0 29)), .inr (.inr (some (150, 0))), .inr (.inr (some (151, 0)))], S_)) rfl ?_
      refine sm_T_bin (w := 40 * (S_.1 13 0 29) + nv_) rfl (bi_add (by omega) (by omega) (by omega)) ?_
      refine sm_T_iald (n := 640) rfl rfl (by omega) (by omega) ?_
      have bx9_ : 0 ≤ S_.2.2.1 150 0 (40 * (S_.1 13 0 29) + nv_).toNat ∧ S_.2.2.1 150 0 (40 * (S_.1 13 0 29) + nv_).toNat ≤ 6 := hI_.2 150 0 _
      refine sm_T_go 1 (c1 := (68, [some (.inr (.inr (some (13, 0)))), some (.inl nv_), some (.inl kx_), some (.inl k_)], [.inl k_, .inl (S_.2.2.1 150 0 (40 * (S_.1 13 0 29) + nv_).toNat), .inr (.inr (some (151, 0)))], S_)) rfl ?_
      refine sm_T_bin (w := (S_.2.2.1 150 0 (40 * (S_.1 13 0 29) + nv_).toNat) + k_) rfl (bi_add (by omega) (by omega) (by omega)) ?_
      refine sm_T_go 3 (c1 := (74, [some (.inr (.inr (some (13, 0)))), some (.inl nv_), some (.inl kx_), some (.inl k_)], [.inl k_, .inr (.inr (some (139, 0))), .inl ((S_.2.2.1 150 0 (40 * (S_.1 13 0 29) + nv_).toNat) + k_), .inr (.inr (some (151, 0)))], S_)) rfl ?_
      refine sm_T_iald (n := 8192) rfl rfl (by omega) (by omega) ?_
      have bx10_ : 0 ≤ S_.2.2.1 139 0 k_.toNat ∧ S_.2.2.1 139 0 k_.toNat ≤ 2047 := hI_.2 139 0 _
      refine sm_T_iast (n := 1024) rfl rfl (by omega) (by omega) ?_
      have hIx11_ : gi (sm_aI S_ 151 0 ((S_.2.2.1 150 0 (40 * (S_.1 13 0 29) + nv_).toNat) + k_).toNat (S_.2.2.1 139 0 k_.toNat)) := gi_aI hI_ (show 0 ≤ (S_.2.2.1 139 0 k_.toNat) ∧ (S_.2.2.1 139 0 k_.toNat) ≤ 2047 from ⟨by omega, by omega⟩)
      have hFx12_ : ai_fr (sx_W vw_347n) S0_ (sm_aI S_ 151 0 ((S_.2.2.1 150 0 (40 * (S_.1 13 0 29) + nv_).toNat) + k_).toNat (S_.2.2.1 139 0 k_.toNat)) := ai_fr_tr hF_ (ai_fr_aI rfl)
      refine sm_T_inc (a := 3) (z := 1) (v := k_) (w := k_ + 1) rfl rfl (by omega) (by omega) (by omega) ?_
      refine sm_T_go 1 (c1 := (39, [some (.inr (.inr (some (13, 0)))), some (.inl nv_), some (.inl kx_), some (.inl (k_ + 1))], [], sm_aI S_ 151 0 ((S_.2.2.1 150 0 (40 * (S_.1 13 0 29) + nv_).toNat) + k_).toNat (S_.2.2.1 139 0 k_.toNat))) rfl ?_
      refine ih_ nv_ kx_ (k_ + 1) (sm_aI S_ 151 0 ((S_.2.2.1 150 0 (40 * (S_.1 13 0 29) + nv_).toNat) + k_).toNat (S_.2.2.1 139 0 k_.toNat)) hIx11_ hFx12_ ⟨?_, ?_, ?_, ?_, trivial⟩ ?_
      · omega
      · exact h1_
      · refine ⟨G_, v9_, z1_, z2_, z3_, rgl_fr (w_ := ([], [151], [])) z4_ (ai_fr_aI rfl) rfl rfl rfl rfl rfl rfl, fun q9_ => ?_⟩
        obtain ⟨y1_, y2_⟩ := z5_ q9_
        have rb2_ : S_.2.2.1 150 0 (40 * S_.1 13 0 29 + nv_).toNat = (rb : Int) := by rw [show (40 * S_.1 13 0 29 + nv_).toNat = 40 * fr_ + s_ by omega]; exact rb1_
        have kl_ : k_.toNat < v9_.length := by omega
        have e9_ := y2_ k_.toNat v9_[k_.toNat] (List.getElem?_eq_getElem kl_)
        rw [Nat.zero_add] at e9_
        refine ⟨⟨y1_.1, fun i9_ hi9_ => ?_⟩, fun a9_ b9_ c9_ => by rw [rd_ne (by decide)]; exact y2_ a9_ b9_ c9_⟩
        have y8_ := y1_.2 i9_ hi9_
        show _ = nnx rb (v9_.take (k_ + 1).toNat) x0_.1 i9_
        rw [show (k_ + 1).toNat = k_.toNat + 1 by omega, nnx_t kl_, rd_eq, show (_ : Int).toNat = rb + k_.toNat from by omega]
        by_cases q7_ : i9_ = rb + k_.toNat
        · rw [if_pos q7_, if_pos q7_, e9_, List.getD_eq_getElem?_getD, List.getElem?_eq_getElem kl_]; rfl
        · rw [if_neg q7_, if_neg q7_]; exact y8_
      · intro q9_
        obtain ⟨y1_, y2_⟩ := h3_ q9_
        refine ⟨⟨y1_.1, fun k9_ hk9_ => ?_⟩, fun j9_ hj9_ => ?_⟩
        · rw [rd_eq]; split; (exact y2_ k_.toNat (by omega)); exact y1_.2 k9_ hk9_
        · rw [rd_ne (by decide)]; exact y2_ j9_ hj9_
      · omega
set_option maxHeartbeats 1500000 in
theorem vc_347n {sc_ : Nat × (Nat → Int)} (b_ : Nat → Int) (n_ : Nat) (T_ : Nat) (F_ : Nat) (I_ : Nat) (A_ : pA) (B_ : pA) (X_ : Nat → gQ → gE → Option (gQ × gE)) (M_ : Nat) (fr_ : Nat) (q0_ : gQ) (E_ : gE) (O_ : gO) (p_ : Nat) (s_ : Nat) (p1_ : Nat) (p2_ : Nat) (xr : pR) (y_ : Nat) (rb : Nat) (R_ : Nat) (x0_ : gN) (S0_ : sm_S) (hI_ : gi S0_) (ht_ : rtab b_ n_ T_ S0_) (hx_ : rg b_ n_ T_ (.inr p_) S0_) (hm1_ : (S0_.1 13 0 27) = 1) (hen_ : r_e1 b_ n_ T_ B_ M_ fr_ S0_) (hA_ : a_ok b_ n_ A_ M_) (hxx_ : a_ex A_ B_ M_) (hX_ : ∀ d_ q_ e_ z_, X_ d_ q_ e_ = some z_ → q_.1.length ≤ z_.1.1.length) (hte_ : ten B_ M_ (A_.1 M_) E_ O_) (hev_ : rev fr_ (A_.1 M_) E_ O_ (q0_.1.length ≤ 1001) S0_) (hg_ : rgl F_ q0_.1 S0_) (hk_ : lx_kd b_ n_ p_ = 1) (hfn_ : p_fn b_ n_ A_ M_ p_ = (s_ : Int)) (ha1_ : p_ad b_ n_ p_ = .inr p1_) (hk256_ : lx_kd b_ n_ p1_ = 256) (ha2_ : p_ad b_ n_ p1_ = .inr p2_) (hxr_ : p_ex b_ n_ false (p_pd b_ n_ A_ M_) [] p2_ = .inr xr) (h59_ : p_nd b_ n_ 59 xr.1 = .inr y_) (hrb_ : S0_.2.2.1 150 0 (40 * fr_ + s_) = (rb : Int)) (hrn_ : rnS S0_) (hlw_ : lwS F_ (q0_, E_, O_, [])) (hXw_ : lwX F_ I_ X_) (hRF_ : 1 + I_ + q0_.2.1 ≤ F_) (hwd_ : h_tp xr.2.1 = B_.2.2.2.1 (40 * M_ + s_)) (hx0_ : rxn R_ x0_ S0_) : sm_T (mt_P sc_) 9 347 (0, [some (.inr (.inr (some (13, 0)))), none, none, none], [], S0_) (fun ro9_ => ∃ u_ S1_, ro9_ = (.inl u_, S1_, 0) ∧ vq_347n b_ n_ T_ F_ I_ A_ B_ X_ M_ fr_ q0_ E_ O_ p_ s_ p1_ p2_ xr y_ rb R_ x0_ S0_ u_ S1_) := by
  have hF_ : ai_fr (sx_W vw_347n) S0_ S0_ := ai_fr_rf
  obtain ⟨i_, hi_⟩ := id hx_.2
  have hi9_ := hi_.2.1
  have hT_ := ht_.2.1
  have rt1_ := rp_rtk ht_ hi_.2 hk_
  have f1_ := fn_ex (p_ := p_) hxx_ (Nat.le_refl M_) hfn_
  have M15_ := hA_.1
  have A40_ := (hA_.2 M_ (Nat.le_refl _)).1
  have bx1_ : 0 ≤ S0_.1 13 0 28 ∧ S0_.1 13 0 28 ≤ 15 := hI_.1 13 0 28 rfl
  have bx2_ : 0 ≤ S0_.1 13 0 9 ∧ S0_.1 13 0 9 ≤ 1280 := hI_.1 13 0 9 rfl
  refine sm_T_go 5 (c1 := (9, [some (.inr (.inr (some (13, 0)))), none, none, none], [.inl (S0_.1 13 0 9), .inl (S0_.1 13 0 28), .inr (.inr (some (13, 0)))], S0_)) rfl ?_
  refine sm_T_cal (d1 := 1) (Q1 := vq_302 (S0_.1 13 0 28) (S0_.1 13 0 9) b_ n_ T_ B_ M_ p_ S0_) rfl rfl (by decide) (vc_302 (S0_.1 13 0 28) (S0_.1 13 0 9) b_ n_ T_ B_ M_ p_ S0_ hI_ (by exact ht_) (by exact ⟨hen_.2.1, hen_.1.1⟩) (by exact hen_.2.2.2 M_ (Nat.le_refl _)) (by exact (hen_.1.2 M_ (Nat.le_refl _)).1) (by rw [hi_.1]; exact rt1_.1)) (fun u_ Sx3_ px6_ => ?_)
  obtain ⟨rfl, vx8_, rfl, px6_⟩ := px6_
  have e9_ := px6_.trans f1_.1
  have kx0_ : (40 * S0_.1 13 0 28 + vx8_).toNat = 40 * M_ + s_ := by have q9_ := hen_.2.1; omega
  have rp := rg_p2 (x_ := S0_.1 13 0 9 + 2) ht_ hx_ (by omega) ha1_ (by omega) ha2_ rfl
  have rp2_ := rp.2
  have t33_ : rtab b_ n_ T_ (sm_pI S0_ 13 0 9 (S0_.1 13 0 9 + 2)) := rtab_fr (w_ := ([(13, 9)], [], [])) ht_ (ai_fr_pI rfl) rfl rfl rfl rfl rfl
  refine sm_T_go 4 (c1 := (19, [some (.inr (.inr (some (13, 0)))), some (.inl vx8_), none, none], [.inl (S0_.1 13 0 28), .inl 40], S0_)) rfl ?_
  refine sm_T_bin (w := 40 * (S0_.1 13 0 28)) rfl (bi_mul (by omega) (by omega) (by omega)) ?_
  refine sm_T_go 1 (c1 := (21, [some (.inr (.inr (some (13, 0)))), some (.inl vx8_), none, none], [.inl vx8_, .inl (40 * (S0_.1 13 0 28))], S0_)) rfl ?_
  refine sm_T_bin (w := 40 * (S0_.1 13 0 28) + vx8_) rfl (bi_add (by omega) (by omega) (by omega)) ?_
  refine sm_T_go 5 (c1 := (29, [some (.inr (.inr (some (13, 0)))), some (.inl vx8_), some (.inl (40 * (S0_.1 13 0 28) + vx8_)), none], [.inl 2, .inl (S0_.1 13 0 9), .inr (.inr (some (13, 0)))], S0_)) rfl ?_
  refine sm_T_bin (w := (S0_.1 13 0 9) + 2) rfl (bi_add (by omega) (by omega) (by omega)) ?_
  have hIx9_ : gi (sm_pI S0_ 13 0 9 ((S0_.1 13 0 9) + 2)) := gi_pI hI_ (show 0 ≤ (S0_.1 13 0 9) + 2 ∧ (S0_.1 13 0 9) + 2 ≤ 1280 from ⟨by omega, by omega⟩)
  have hFx10_ : ai_fr (sx_W vw_347n) S0_ (sm_pI S0_ 13 0 9 ((S0_.1 13 0 9) + 2)) := ai_fr_tr hF_ (ai_fr_pI rfl)
  refine sm_T_go 2 (c1 := (34, [some (.inr (.inr (some (13, 0)))), some (.inl vx8_), some (.inl (40 * (S0_.1 13 0 28) + vx8_)), none], [.inr (.inr (some (13, 0)))], sm_pI S0_ 13 0 9 ((S0_.1 13 0 9) + 2))) rfl ?_
  refine sm_T_cal (d1 := 8) (Q1 := vq_321g b_ n_ T_ F_ I_ B_ X_ M_ (q0_, E_, O_, []) (p_pd b_ n_ A_ M_) (A_.1 M_) fr_ p2_ xr (sm_pI S0_ 13 0 9 ((S0_.1 13 0 9) + 2))) rfl rfl (by decide) (vc_321g b_ n_ T_ F_ I_ B_ X_ M_ (q0_, E_, O_, []) (p_pd b_ n_ A_ M_) (A_.1 M_) fr_ p2_ xr (sm_pI S0_ 13 0 9 ((S0_.1 13 0 9) + 2)) hIx9_ (by exact t33_) (by exact pd_ok hA_) (by (intro p9_ r9_ h9_; exact pd_ex hA_ hxx_ h9_)) (by exact hX_) (by exact hen_) (by exact hte_) (by exact hev_) (by exact rp.1) (by exact hm1_) (by exact ⟨rfl, rgl_fr (w_ := ([(13, 9)], [], [])) hg_ (ai_fr_pI rfl) rfl rfl rfl rfl rfl rfl⟩) (by exact hxr_)) (fun u_ Sx11_ px14_ => ?_)
  obtain ⟨rfl, hIx12_, hFx13_, px14_⟩ := px14_
  have hFx15_ : ai_fr (sx_W vw_347n) S0_ Sx11_ := ai_fr_tr hFx10_ (fr_le hFx13_ rfl)
  obtain ⟨g34_, G1_, v1_, x1_, x2_, x3_, x4_, x5_, x6_⟩ := px14_
  have gl34_ : q0_.1.length ≤ G1_.length := ev_le hX_ x1_
  have F34_ := hFx13_
  have rb34_ := rgl_b x5_
  have H3_ : imq (Sx11_.1 13 0 37 - Sx11_.1 13 0 38 ≤ 1000) (rnS Sx11_ ∧ ∀ j9_ : Nat, (j9_ : Int) < B_.2.2.2.1 (40 * M_ + s_) → 0 ≤ Sx11_.2.2.1 139 0 j9_ ∧ Sx11_.2.2.1 139 0 j9_ < 2 * Sx11_.1 13 0 37) := by (intro q9_; have l9_ : G1_.length ≤ 1000 := rb34_.2.2.2.2.mp q9_; have n9_ := rgl_n x5_ (by omega); have m9_ := rgl_n hg_ (by omega); have W9_ := ev_w hXw_ x1_ (by show F_ + G1_.length ≤ 1023; omega) hRF_ hlw_; refine ⟨rnS_up hrn_ (hFx13_.1 13 0 52 rfl) (hFx13_.1 13 0 53 rfl) ((fr_arr (t := 151) hFx13_ rfl).trans rfl) (by omega), fun j9_ h9_ => ?_⟩; have e9_ := rwv_lz (x6_ (by omega)) (lwV_c.mp W9_.2.2.2).1 (k_ := j9_) (by omega); rw [Nat.zero_add] at e9_; rw [n9_]; exact e9_)
  refine sm_T_go 2 (c1 := (39, [some (.inr (.inr (some (13, 0)))), some (.inl vx8_), some (.inl (40 * (S0_.1 13 0 28) + vx8_)), some (.inl 0)], [], Sx11_)) rfl ?_
  refine (vl_347n b_ n_ T_ F_ I_ A_ B_ X_ M_ fr_ q0_ E_ O_ p_ s_ p1_ p2_ xr y_ rb R_ x0_ S0_ ht_ hx_ hm1_ hen_ hA_ hxx_ hX_ hte_ hev_ hg_ hk_ hfn_ ha1_ hk256_ ha2_ hxr_ h59_ hrb_ hrn_ hlw_ hXw_ hRF_ hwd_ hx0_ _) vx8_ (40 * (S0_.1 13 0 28) + vx8_) 0 Sx11_ hIx12_ hFx15_ ⟨?_, ?_, ?_, ?_, trivial⟩ (Nat.lt_succ_self _)
  · (have q9_ := hen_.2.1); omega
  · exact g34_
  · refine ⟨G1_, v1_, x1_, x2_, x3_, x5_, fun q9_ => ⟨?_, x6_ (by have l9_ : G1_.length ≤ 1000 := rb34_.2.2.2.2.mp q9_; omega)⟩⟩
    refine ⟨(F34_.1 13 0 52 rfl).trans hx0_.1, fun i9_ hi9_ => ?_⟩
    refine (congrFun (fr_arr (t := 151) (i := 0) F34_ rfl) i9_).trans ((hx0_.2 i9_ hi9_).trans ?_)
    show x0_.1 i9_ = nnx rb [] x0_.1 i9_
    unfold nnx
    rw [if_neg (by simp only [List.length_nil]; omega)]
  · exact H3_
end
/-! 99.ztM -/
section
/-! code that leaves next values and beginning alone; written by wip/p55/gen/vg -/

/-! code that leaves next values and beginning alone -/
def wpl (c_ : List Int) : Prop := ∀ w_, w_ ∈ c_ → w_ % 32 ≠ 13 ∧ w_ % 32 ≠ 14 ∧ w_ % 32 ≠ 17
theorem nw_pl {I_ m_ : Nat} {A_ : pA} {Y_ : Nat → gQ → gE → gN → gN} {w_ : Int} {s_ : gS} {x_ : gN} (h_ : w_ % 32 ≠ 13 ∧ w_ % 32 ≠ 14 ∧ w_ % 32 ≠ 17) : nw I_ A_ Y_ m_ w_ s_ x_ = x_ := by
  by_cases c_ : w_ % 32 ≤ 11
  · exact nw_o h_.2.2 c_
  · rw [nw_s h_.2.2 c_]
    exact nst_o h_.1 h_.2.1
theorem ncd_pl {F_ I_ m_ : Nat} {A_ : pA} {X_ : Nat → gQ → gE → Option (gQ × gE)} {Y_ : Nat → gQ → gE → gN → gN} : ∀ (c_ : List Int) (s_ : gS) (x_ : gN), wpl c_ → ncd F_ I_ A_ X_ Y_ m_ c_ s_ x_ = x_
  | [], s_, x_, _ => rfl
  | w_ :: c_, s_, x_, h_ => by
    cases e_ : ew F_ I_ A_ X_ m_ w_ s_ with
    | none =>
      show (match ew F_ I_ A_ X_ m_ w_ s_ with
        | some s1_ => ncd F_ I_ A_ X_ Y_ m_ c_ s1_ (nw I_ A_ Y_ m_ w_ s_ x_)
        | none => x_) = x_
      rw [e_]
    | some s1_ =>
      rw [ncd_c e_, nw_pl (h_ w_ (List.mem_cons_self ..))]
      exact ncd_pl c_ s1_ x_ (fun v_ hv_ => h_ v_ (List.mem_cons_of_mem _ hv_))
theorem ncd_ap {F_ I_ m_ : Nat} {A_ : pA} {X_ : Nat → gQ → gE → Option (gQ × gE)} {Y_ : Nat → gQ → gE → gN → gN} {c2_ : List Int} {s1_ : gS} : ∀ (c_ : List Int) (s_ : gS) (x_ : gN), ec F_ I_ A_ X_ m_ c_ s_ = some s1_ → ncd F_ I_ A_ X_ Y_ m_ (c_ ++ c2_) s_ x_ = ncd F_ I_ A_ X_ Y_ m_ c2_ s1_ (ncd F_ I_ A_ X_ Y_ m_ c_ s_ x_)
  | [], s_, x_, h_ => by
    have h_ : some s_ = some s1_ := h_
    cases h_
    rfl
  | w_ :: c_, s_, x_, h_ => by
    cases e_ : ew F_ I_ A_ X_ m_ w_ s_ with
    | none =>
      have h_ : (match ew F_ I_ A_ X_ m_ w_ s_ with
        | some s2_ => ec F_ I_ A_ X_ m_ c_ s2_
        | none => none) = some s1_ := h_
      rw [e_] at h_
      cases h_
    | some s2_ =>
      have h_ : (match ew F_ I_ A_ X_ m_ w_ s_ with
        | some s2_ => ec F_ I_ A_ X_ m_ c_ s2_
        | none => none) = some s1_ := h_
      rw [e_] at h_
      rw [List.cons_append, ncd_c e_, ncd_c e_]
      exact ncd_ap c_ s2_ _ h_
theorem ew_pl {F_ I_ J_ m_ : Nat} {A_ : pA} {X_ Z_ : Nat → gQ → gE → Option (gQ × gE)} {w_ : Int} {s_ : gS} (h_ : w_ % 32 ≠ 13 ∧ w_ % 32 ≠ 14 ∧ w_ % 32 ≠ 17) : ew F_ I_ A_ X_ m_ w_ s_ = ew F_ J_ A_ Z_ m_ w_ s_ := by
  obtain ⟨h3_, h4_, h7_⟩ := h_
  unfold ew e_st
  first | simp only [h3_, h4_, h7_, ↓reduceIte] | simp only [h3_, h4_, h7_, if_false] | simp [h3_, h4_, h7_]
theorem wpl_of {F_ m_ : Nat} {A_ : pA} : ∀ (c_ : List Int) (s_ : gS), 7 ≤ s_.1.2.1 → (∀ I_ : Nat, ∃ s'_, ec F_ I_ A_ (fun _ _ _ => none) m_ c_ s_ = some s'_) → wpl c_
  | [], s_, _, _ => fun v_ hv_ => by cases hv_
  | w_ :: c_, s_, h7_, h_ => by
    have g_ : ∀ I_ : Nat, ∃ s1_ s'_, ew F_ I_ A_ (fun _ _ _ => none) m_ w_ s_ = some s1_ ∧ ec F_ I_ A_ (fun _ _ _ => none) m_ c_ s1_ = some s'_ := by
      intro I_
      obtain ⟨s'_, hs_⟩ := h_ I_
      have hs_ : (match ew F_ I_ A_ (fun _ _ _ => none) m_ w_ s_ with
        | some s1_ => ec F_ I_ A_ (fun _ _ _ => none) m_ c_ s1_
        | none => none) = some s'_ := hs_
      cases e_ : ew F_ I_ A_ (fun _ _ _ => none) m_ w_ s_ with
      | none => rw [e_] at hs_; cases hs_
      | some s1_ => rw [e_] at hs_; exact ⟨s1_, s'_, rfl, hs_⟩
    have g17_ : w_ % 32 ≠ 17 := by
      intro e_
      obtain ⟨s1_, s'_, g1_, g2_⟩ := g_ 0
      obtain ⟨o_, z_, w1_, w2_, w3_, w4_, w5_, w6_, w7_⟩ := ew17 g1_ e_
      cases w6_
    have g13_ : w_ % 32 ≠ 13 := by
      intro e_
      obtain ⟨s1_, s'_, g1_, g2_⟩ := g_ 0
      have g3_ := ew_s g1_ g17_ (by omega)
      rw [e_] at g3_
      have g4_ := e_st13 g3_
      have g5_ := g4_.2.2.2.2.1
      omega
    have g14_ : w_ % 32 ≠ 14 := by
      intro e_
      obtain ⟨s1_, s'_, g1_, g2_⟩ := g_ ((s_.2.1 (w_ / 32 % 64).toNat).headD 0).toNat
      have g3_ := ew_s g1_ g17_ (by omega)
      rw [e_] at g3_
      obtain ⟨-, x_, l_, hx_, q_⟩ := e_stp g3_ (by decide) (by decide)
      rcases q_ with q_ | ⟨-, z_, y_, hz_, hz2_, -, -⟩ | q_
      · exact absurd q_.1 (by decide)
      · rw [hz_] at hz2_
        have hz3_ : 2 * (1 + (z_.toNat : Int)) ≤ z_ := hz2_
        omega
      · exact absurd q_.1 (by decide)
    obtain ⟨s1_, s'_, g1_, g2_⟩ := g_ 0
    have R1_ : s_.1.2.1 ≤ s1_.1.2.1 := ew_R (fun d_ q_ e_ z_ hz_ => by cases hz_) g1_
    have T_ := wpl_of c_ s1_ (by omega) (fun I_ => by
      obtain ⟨s2_, s3_, k1_, k2_⟩ := g_ I_
      rw [ew_pl (J_ := 0) (Z_ := fun _ _ _ => none) ⟨g13_, g14_, g17_⟩, g1_] at k1_
      cases k1_
      exact ⟨s3_, k2_⟩)
    intro v_ hv_
    rcases List.mem_cons.mp hv_ with rfl | hv_
    · exact ⟨g13_, g14_, g17_⟩
    · exact T_ v_ hv_
theorem ex_pl {b_ : Nat → Int} {n_ m_ p_ : Nat} {A_ B_ : pA} {E_ : gE} {O_ : gO} {r_ : pR} (hn_ : n_ ≤ 1280) (hA_ : a_ok b_ n_ A_ m_) (hB_ : a_ok b_ n_ B_ m_) (hx_ : a_ex A_ B_ m_) (ht_ : ten B_ m_ (A_.1 m_) E_ O_) (hp_ : p_ ≤ n_) (hk_ : lx_kd b_ n_ p_ ≠ -1) (e_ : p_ex b_ n_ false (p_pd b_ n_ A_ m_) [] p_ = .inr r_) : wpl r_.2.2 := by
  intro w_ hw_
  refine wpl_of (F_ := 1) (A_ := B_) (m_ := m_) r_.2.2.reverse (([], 7, 0), E_, O_, []) (Nat.le_refl 7) (fun I_ => ?_) w_ (List.mem_reverse.mpr hw_)
  obtain ⟨G_, v_, h1_, -⟩ := ex_tot (F_ := 1) (I_ := I_) (A_ := B_) (X_ := fun _ _ _ => none) (m_ := m_) (s0_ := (([], 7, 0), E_, O_, [])) hn_ (pd_ok hA_) (pd_ev hA_ hB_ hx_ ht_) hp_ hk_ rfl e_
  exact ⟨_, h1_⟩
theorem wpl_ap {c_ d_ : List Int} (h_ : wpl c_) (g_ : wpl d_) : wpl (c_ ++ d_) := fun w_ hw_ => (List.mem_append.mp hw_).elim (h_ w_) (g_ w_)
theorem wpl_c {w_ : Int} {c_ : List Int} (h_ : w_ % 32 ≠ 13 ∧ w_ % 32 ≠ 14 ∧ w_ % 32 ≠ 17) (g_ : wpl c_) : wpl (w_ :: c_) := fun v_ hv_ => by
  rcases List.mem_cons.mp hv_ with rfl | hv_
  · exact h_
  · exact g_ v_ hv_
theorem wpl_n : wpl [] := fun v_ hv_ => by cases hv_
theorem wpl_r {c_ : List Int} (h_ : wpl c_) : wpl c_.reverse := fun v_ hv_ => h_ v_ (List.mem_reverse.mp hv_)
theorem ach_pl {b_ : Nat → Int} {n_ m_ d_ K_ : Nat} {A_ B_ : pA} {E_ : gE} {O_ : gO} (hn_ : n_ ≤ 1280) (hA_ : a_ok b_ n_ A_ m_) (hB_ : a_ok b_ n_ B_ m_) (hx_ : a_ex A_ B_ m_) (ht_ : ten B_ m_ (A_.1 m_) E_ O_) : ∀ (l_ : List (pR × Nat)) (k_ p_ pe_ : Nat) (c_ : List Int), ach b_ n_ A_ m_ d_ l_ k_ p_ pe_ → p_ ≤ n_ → lx_kd b_ n_ p_ ≠ -1 → wpl c_ → wpl (acd K_ l_ c_)
  | [], _, _, _, _, h_, _, _, _ => h_.elim
  | xi_ :: l_, k_, p_, pe_, c_, h_, hp_, hk_, hc_ => by
    obtain ⟨h1_, h2_, h3_, h4_⟩ := h_
    have w1_ : wpl (cw 16 (K_ : Int) (xi_.2 : Int) :: (xi_.1.2.2 ++ c_)) := wpl_c (by unfold cw; omega) (wpl_ap (ex_pl hn_ hA_ hB_ hx_ ht_ hp_ hk_ h2_) hc_)
    show wpl (acd K_ l_ (cw 16 (K_ : Int) (xi_.2 : Int) :: (xi_.1.2.2 ++ c_)))
    rcases h4_ with ⟨rfl, -⟩ | ⟨-, k44_, p1_, hp1_, hl_⟩
    · exact w1_
    · have xk_ := pex_ok hn_ (pd_ok hA_) hp_ hk_ (Nat.zero_le _) h2_
      obtain ⟨-, -, a1_, a2_⟩ := p_ad_ok xk_.2.1 (by omega) hp1_
      exact ach_pl hn_ hA_ hB_ hx_ ht_ l_ (xi_.2 + 1) p1_ pe_ _ hl_ a1_ a2_ w1_
end
/-! 99.ztN -/
section
/-! next values and beginning: fuel; written by wip/p55/gen/vg -/

/-! next values and beginning: more fuel changes nothing -/
theorem nw_mo {F_ I_ m_ : Nat} {A_ : pA} {X_ : Nat → gQ → gE → Option (gQ × gE)} {Y_ Y2_ : Nat → gQ → gE → gN → gN} {w_ : Int} {s_ r_ : gS} (hY_ : ∀ d_ q_ e_ z_, X_ d_ q_ e_ = some z_ → ∀ x_, Y2_ d_ q_ e_ x_ = Y_ d_ q_ e_ x_) (h_ : ew F_ I_ A_ X_ m_ w_ s_ = some r_) (x_ : gN) : nw I_ A_ Y2_ m_ w_ s_ x_ = nw I_ A_ Y_ m_ w_ s_ x_ := by
  by_cases c_ : w_ % 32 = 17
  · obtain ⟨o_, z_, w1_, w2_, w3_, w4_, w5_, w6_, w7_⟩ := ew17 h_ c_
    rw [nw_17 c_ w1_, nw_17 c_ w1_]
    exact hY_ _ _ _ _ w6_ x_
  · by_cases d_ : w_ % 32 ≤ 11
    · rw [nw_o c_ d_, nw_o c_ d_]
    · rw [nw_s c_ d_, nw_s c_ d_]
theorem ncd_mo {F_ I_ m_ : Nat} {A_ : pA} {X_ X2_ : Nat → gQ → gE → Option (gQ × gE)} {Y_ Y2_ : Nat → gQ → gE → gN → gN} (hX_ : ∀ d_ q_ e_ z_, X_ d_ q_ e_ = some z_ → X2_ d_ q_ e_ = some z_) (hY_ : ∀ d_ q_ e_ z_, X_ d_ q_ e_ = some z_ → ∀ x_, Y2_ d_ q_ e_ x_ = Y_ d_ q_ e_ x_) : ∀ (c_ : List Int) (s_ r_ : gS) (x_ : gN), ec F_ I_ A_ X_ m_ c_ s_ = some r_ → ncd F_ I_ A_ X2_ Y2_ m_ c_ s_ x_ = ncd F_ I_ A_ X_ Y_ m_ c_ s_ x_
  | [], s_, r_, x_, _ => rfl
  | w_ :: c_, s_, r_, x_, h_ => by
    cases e_ : ew F_ I_ A_ X_ m_ w_ s_ with
    | none =>
      have h_ : (match ew F_ I_ A_ X_ m_ w_ s_ with
        | some s2_ => ec F_ I_ A_ X_ m_ c_ s2_
        | none => none) = some r_ := h_
      rw [e_] at h_
      cases h_
    | some s2_ =>
      have h_ : (match ew F_ I_ A_ X_ m_ w_ s_ with
        | some s2_ => ec F_ I_ A_ X_ m_ c_ s2_
        | none => none) = some r_ := h_
      rw [e_] at h_
      rw [ncd_c e_, ncd_c (ew_mo hX_ e_), nw_mo hY_ e_]
      exact ncd_mo hX_ hY_ c_ s2_ r_ _ h_
theorem exm_ec {F_ I_ d_ f_ : Nat} {A_ : pA} {C_ : Nat → List Int} {q_ : gQ} {e_ : gE} {z_ : gQ × gE} (h_ : exm F_ I_ A_ C_ (f_ + 1) d_ q_ e_ = some z_) : ∃ r_, ec F_ I_ A_ (exm F_ I_ A_ C_ f_) d_ (C_ d_) (q_, e_, fun _ => none, []) = some r_ := by
  rw [exm] at h_
  cases hs_ : ec F_ I_ A_ (exm F_ I_ A_ C_ f_) d_ (C_ d_) (q_, e_, fun _ => none, []) with
  | none => rw [hs_] at h_; cases h_
  | some s_ => exact ⟨s_, rfl⟩
theorem nxm_mo {F_ I_ : Nat} {A_ : pA} {C_ : Nat → List Int} : ∀ (f_ d_ : Nat) (q_ : gQ) (e_ : gE) (z_ : gQ × gE), exm F_ I_ A_ C_ f_ d_ q_ e_ = some z_ → ∀ x_, nxm F_ I_ A_ C_ (f_ + 1) d_ q_ e_ x_ = nxm F_ I_ A_ C_ f_ d_ q_ e_ x_
  | 0, d_, q_, e_, z_, h_, x_ => by cases h_
  | f_ + 1, d_, q_, e_, z_, h_, x_ => by
    obtain ⟨r_, hr_⟩ := exm_ec h_
    show ncd F_ I_ A_ (exm F_ I_ A_ C_ (f_ + 1)) (nxm F_ I_ A_ C_ (f_ + 1)) d_ (C_ d_) (q_, e_, fun _ => none, []) x_ = ncd F_ I_ A_ (exm F_ I_ A_ C_ f_) (nxm F_ I_ A_ C_ f_) d_ (C_ d_) (q_, e_, fun _ => none, []) x_
    exact ncd_mo (fun d_ q_ e_ z_ => exm_mo f_ d_ q_ e_ z_) (fun d_ q_ e_ z_ hz_ y_ => nxm_mo f_ d_ q_ e_ z_ hz_ y_) (C_ d_) _ r_ x_ hr_
/-- what the_ fold over a_ module's code comes to_, with as_ much fuel as_ the_ modules in it_ have -/
theorem nxm_ev {F_ I_ d_ f_ : Nat} {A_ : pA} {C_ : Nat → List Int} {q_ : gQ} {e_ : gE} {z_ : gQ × gE} {x_ : gN} (h_ : exm F_ I_ A_ C_ (f_ + 1) d_ q_ e_ = some z_) : nxm F_ I_ A_ C_ (f_ + 1) d_ q_ e_ x_ = ncd F_ I_ A_ (exm F_ I_ A_ C_ (f_ + 1)) (nxm F_ I_ A_ C_ (f_ + 1)) d_ (C_ d_) (q_, e_, fun _ => none, []) x_ := by
  obtain ⟨r_, hr_⟩ := exm_ec h_
  show ncd F_ I_ A_ (exm F_ I_ A_ C_ f_) (nxm F_ I_ A_ C_ f_) d_ (C_ d_) (q_, e_, fun _ => none, []) x_ = _
  exact (ncd_mo (fun d_ q_ e_ z_ => exm_mo f_ d_ q_ e_ z_) (fun d_ q_ e_ z_ hz_ y_ => nxm_mo f_ d_ q_ e_ z_ hz_ y_) (C_ d_) _ r_ x_ hr_).symm
end
/-! 99.ztO -/
section
/-! next values and beginning: the frames of the reference; written by wip/p55/gen/vg -/

/-! where a_ frame's registers stand -/
def rbt (B_ : pA) (I_ M_ fr_ K_ : Nat) (E_ : gE) (S_ : sm_S) : Prop := ∀ s_ : Nat, s_ < K_ → B_.2.2.1 (40 * M_ + s_) = 3 ∨ B_.2.2.1 (40 * M_ + s_) = 4 → ∃ (r_ : Nat) (y_ : List Int), E_ s_ = 2 * ((1 + I_ + r_ : Nat) : Int) :: y_ ∧ S_.2.2.1 150 0 (40 * fr_ + s_) = (r_ : Int)
theorem rbt_0 {B_ : pA} {I_ M_ fr_ : Nat} {E_ : gE} {S_ : sm_S} : rbt B_ I_ M_ fr_ 0 E_ S_ := fun s_ hs_ => absurd hs_ (Nat.not_lt_zero _)
theorem rbt_cg {B_ : pA} {I_ M_ fr_ K_ : Nat} {E_ : gE} {S_ S'_ : sm_S} (h_ : rbt B_ I_ M_ fr_ K_ E_ S_) (hK_ : K_ ≤ 40) (e_ : ∀ j_, j_ < 40 * (fr_ + 1) → S'_.2.2.1 150 0 j_ = S_.2.2.1 150 0 j_) : rbt B_ I_ M_ fr_ K_ E_ S'_ := by
  intro s_ hs_ q_
  obtain ⟨r_, y_, h1_, h2_⟩ := h_ s_ hs_ q_
  exact ⟨r_, y_, h1_, (e_ _ (by omega)).trans h2_⟩
theorem rbt_eq {B_ : pA} {I_ M_ fr_ K_ : Nat} {E_ : gE} {S_ S'_ : sm_S} (h_ : rbt B_ I_ M_ fr_ K_ E_ S_) (e_ : S'_.2.2.1 150 0 = S_.2.2.1 150 0) : rbt B_ I_ M_ fr_ K_ E_ S'_ := by
  intro s_ hs_ q_
  obtain ⟨r_, y_, h1_, h2_⟩ := h_ s_ hs_ q_
  exact ⟨r_, y_, h1_, (congrFun e_ _).trans h2_⟩
theorem rbt_i {B_ : pA} {I_ M_ fr_ K_ : Nat} {E_ E'_ : gE} {S_ S'_ : sm_S} (h_ : rbt B_ I_ M_ fr_ K_ E_ S_) (hs_ : B_.2.2.1 (40 * M_ + K_) ≠ 3 ∧ B_.2.2.1 (40 * M_ + K_) ≠ 4) (e_ : S'_.2.2.1 150 0 = S_.2.2.1 150 0) (hE_ : ∀ s_, s_ < K_ → E'_ s_ = E_ s_) : rbt B_ I_ M_ fr_ (K_ + 1) E'_ S'_ := by
  intro s_ hk_ q_
  by_cases c_ : s_ = K_
  · rw [c_] at q_
    rcases q_ with q_ | q_
    · exact absurd q_ hs_.1
    · exact absurd q_ hs_.2
  · obtain ⟨r_, y_, h1_, h2_⟩ := h_ s_ (by omega) q_
    exact ⟨r_, y_, (hE_ s_ (by omega)).trans h1_, (congrFun e_ _).trans h2_⟩
theorem rbt_k {B_ : pA} {I_ M_ fr_ K_ wd_ R_ : Nat} {E_ : gE} {S_ S'_ : sm_S} (h_ : rbt B_ I_ M_ fr_ K_ E_ S_) (hw_ : 1 ≤ wd_) (e_ : ∀ j_, S'_.2.2.1 150 0 j_ = if j_ = 40 * fr_ + K_ then (R_ : Int) else S_.2.2.1 150 0 j_) : rbt B_ I_ M_ fr_ (K_ + 1) (up1 E_ K_ (r_bt I_ R_ wd_)) S'_ := by
  intro s_ hk_ q_
  by_cases c_ : s_ = K_
  · obtain ⟨y_, hy_⟩ := r_bt_c (I_ := I_) (R_ := R_) hw_
    refine ⟨R_, y_, ?_, ?_⟩
    · show (if s_ = K_ then r_bt I_ R_ wd_ else E_ s_) = _
      rw [if_pos c_]
      exact hy_
    · rw [e_, if_pos (by omega)]
  · obtain ⟨r_, y_, h1_, h2_⟩ := h_ s_ (by omega) q_
    refine ⟨r_, y_, ?_, ?_⟩
    · show (if s_ = K_ then r_bt I_ R_ wd_ else E_ s_) = _
      rw [if_neg c_]
      exact h1_
    · rw [e_, if_neg (by omega)]
      exact h2_
theorem up1_o {E_ : gE} {K_ s_ : Nat} {v_ : List Int} (h_ : s_ ≠ K_) : (up1 E_ K_ v_) s_ = E_ s_ := if_neg h_
/-! the_ frames, with what they still do_ to_ next values and beginning -/
def beN (b_ : Nat → Int) (n_ T_ F_ I_ tp_ : Nat) (B_ : pA) (N_ : Nat → Nat) (X_ : Nat → gQ → gE → Option (gQ × gE)) (Y_ : Nat → gQ → gE → gN → gN) (S_ : sm_S) (z_ : gQ × gE) : Nat → Nat → gQ → gE → Nat → (gN → gN) → Prop
  | 0, _, q_, e_, w_, g_ => z_ = (q_, e_) ∧ w_ = 0 ∧ g_ = fun x_ => x_
  | fr_ + 1, d_, q_, e_, w_, g_ => ∃ (M_ f_ : Nat) (A_ : pA) (c_ : List Int) (p_ : Nat) (ce_ rest : List Int) (K_ : Nat) (E_ : gE) (O_ : gO) (i_ : Nat) (q'_ : gQ) (E'_ : gE) (O'_ : gO) (w'_ : Nat) (g'_ : gN → gN), (S_.2.2.1 146 0 fr_ = (M_ : Int) ∧ S_.2.2.1 148 0 (fr_ + 1) = (K_ : Int) ∧ S_.2.2.1 147 0 (fr_ + 1) = (i_ : Int) ∧ S_.2.2.1 149 0 fr_ = (K_ : Int) + 1) ∧ rp b_ n_ T_ i_ p_ ∧ mch b_ n_ B_ N_ M_ f_ A_ c_ p_ ce_ ∧ ce_ = rest ++ c_ ∧ (A_.1 M_ = K_ + 1 ∧ d_ < M_ ∧ fr_ + M_ ≤ tp_ ∧ K_ < B_.1 M_) ∧ (B_.2.2.1 (40 * M_ + K_) = 5 ∧ B_.2.2.2.2 (40 * M_ + K_) = (d_ : Int)) ∧ tst B_ I_ M_ K_ E_ O_ ∧ (∀ s_, s_ < 40 → (E_ s_).length ≤ 8) ∧ (∀ s_, B_.1 M_ ≤ s_ → E_ s_ = []) ∧ (∀ s_, K_ ≤ s_ → O_ s_ = none) ∧ (∀ s_ o_, O_ s_ = some o_ → ∀ o1_, o1_ < 40 → (o_ o1_).length ≤ 8) ∧ (rev fr_ K_ E_ O_ (q_.1.length ≤ 1001) S_ ∧ lwB F_ q_ E_ O_ ∧ rbt B_ I_ M_ fr_ K_ E_ S_) ∧ ev F_ I_ B_ X_ M_ (q_, E_, up1 O_ K_ (some e_), []) rest = some (q'_, E'_, O'_, []) ∧ (w_ = (1301 - p_) + w'_ ∧ g_ = fun x_ => g'_ (ncd F_ I_ B_ X_ Y_ M_ rest.reverse (q_, E_, up1 O_ K_ (some e_), []) x_)) ∧ beN b_ n_ T_ F_ I_ tp_ B_ N_ X_ Y_ S_ z_ fr_ M_ q'_ E'_ w'_ g'_
theorem beN_be {b_ : Nat → Int} {n_ T_ F_ I_ tp_ : Nat} {B_ : pA} {N_ : Nat → Nat} {X_ : Nat → gQ → gE → Option (gQ × gE)} {Y_ : Nat → gQ → gE → gN → gN} {S_ : sm_S} {z_ : gQ × gE} : ∀ (fr_ d_ : Nat) (q_ : gQ) (e_ : gE) (w_ : Nat) (g_ : gN → gN), beN b_ n_ T_ F_ I_ tp_ B_ N_ X_ Y_ S_ z_ fr_ d_ q_ e_ w_ g_ → bel b_ n_ T_ F_ I_ tp_ B_ N_ X_ S_ z_ fr_ d_ q_ e_ w_
  | 0, d_, q_, e_, w_, g_, h_ => ⟨h_.1, h_.2.1⟩
  | fr_ + 1, d_, q_, e_, w_, g_, h_ => by
    obtain ⟨M_, f_, A_, c_, p_, ce_, rest, K_, E_, O_, i_, q'_, E'_, O'_, w'_, g'_, h1_, h2_, h3_, h4_, h5_, h6_, h7_, h8_, h9_, h10_, h11_, h12_, h13_, h14_, h15_⟩ := h_
    exact ⟨M_, f_, A_, c_, p_, ce_, rest, K_, E_, O_, i_, q'_, E'_, O'_, w'_, h1_, h2_, h3_, h4_, h5_, h6_, h7_, h8_, h9_, h10_, h11_, ⟨h12_.1, h12_.2.1⟩, h13_, h14_.1, beN_be fr_ M_ q'_ E'_ w'_ g'_ h15_⟩
theorem beN_fr {b_ : Nat → Int} {n_ T_ F_ I_ tp_ : Nat} {B_ : pA} {N_ : Nat → Nat} {X_ : Nat → gQ → gE → Option (gQ × gE)} {Y_ : Nat → gQ → gE → gN → gN} {S_ S'_ : sm_S} {z_ : gQ × gE} : ∀ (fr_ d_ : Nat) (q_ : gQ) (e_ : gE) (w_ : Nat) (g_ : gN → gN), beN b_ n_ T_ F_ I_ tp_ B_ N_ X_ Y_ S_ z_ fr_ d_ q_ e_ w_ g_ → (∀ j_, j_ < fr_ → S'_.2.2.1 146 0 j_ = S_.2.2.1 146 0 j_ ∧ S'_.2.2.1 149 0 j_ = S_.2.2.1 149 0 j_) → (∀ j_, j_ ≤ fr_ → S'_.2.2.1 147 0 j_ = S_.2.2.1 147 0 j_ ∧ S'_.2.2.1 148 0 j_ = S_.2.2.1 148 0 j_) → (∀ j_, j_ < 8 * (40 * fr_) → S'_.2.2.1 144 0 j_ = S_.2.2.1 144 0 j_) → (∀ j_, j_ < 8 * (40 * (40 * fr_)) → S'_.2.2.1 145 0 j_ = S_.2.2.1 145 0 j_) → (∀ j_, j_ < 40 * fr_ → S'_.2.2.1 150 0 j_ = S_.2.2.1 150 0 j_) → beN b_ n_ T_ F_ I_ tp_ B_ N_ X_ Y_ S'_ z_ fr_ d_ q_ e_ w_ g_
  | 0, d_, q_, e_, w_, g_, h_, _, _, _, _, _ => h_
  | fr_ + 1, d_, q_, e_, w_, g_, h_, a1_, a2_, a3_, a4_, a5_ => by
    obtain ⟨M_, f_, A_, c_, p_, ce_, rest, K_, E_, O_, i_, q'_, E'_, O'_, w'_, g'_, h1_, h2_, h3_, h4_, h5_, h6_, h7_, h8_, h9_, h10_, h11_, h12_, h13_, h14_, h15_⟩ := h_
    have K40_ : K_ ≤ 40 := by
      have := (mch_ex h3_).1.2 M_ (Nat.le_refl _)
      omega
    refine ⟨M_, f_, A_, c_, p_, ce_, rest, K_, E_, O_, i_, q'_, E'_, O'_, w'_, g'_, ?_, h2_, h3_, h4_, h5_, h6_, h7_, h8_, h9_, h10_, h11_, ⟨rev_l2 h12_.1 K40_ id h8_ h11_ (fun j_ hj_ => a3_ j_ hj_) (fun j_ hj_ => a4_ j_ hj_), h12_.2.1, rbt_cg h12_.2.2 K40_ (fun j_ hj_ => a5_ j_ hj_)⟩, h13_, h14_, beN_fr fr_ M_ q'_ E'_ w'_ g'_ h15_ (fun j_ hj_ => a1_ j_ (by omega)) (fun j_ hj_ => a2_ j_ (by omega)) (fun j_ hj_ => a3_ j_ (by omega)) (fun j_ hj_ => a4_ j_ (by omega)) (fun j_ hj_ => a5_ j_ (by omega))⟩
    rw [(a1_ fr_ (by omega)).1, (a1_ fr_ (by omega)).2, (a2_ (fr_ + 1) (by omega)).1, (a2_ (fr_ + 1) (by omega)).2]
    exact h1_
/-- the_ state of_ the_ work, with what has_ been done to_ next values and beginning -/
def giN (b_ : Nat → Int) (n_ T_ F_ I_ tp_ : Nat) (B_ : pA) (N_ : Nat → Nat) (X_ : Nat → gQ → gE → Option (gQ × gE)) (Y_ : Nat → gQ → gE → gN → gN) (z_ : gQ × gE) (zx_ : gN) (mu_ fr_ M_ f_ : Nat) (A_ : pA) (c_ : List Int) (p_ : Nat) (ce_ rest : List Int) (E_ : gE) (O_ : gO) (q_ : gQ) (q'_ : gQ) (E'_ : gE) (O'_ : gO) (w_ : Nat) (g_ : gN → gN) (x_ : gN) (S_ : sm_S) : Prop := gin b_ n_ T_ F_ I_ tp_ B_ N_ X_ z_ mu_ fr_ M_ f_ A_ c_ p_ ce_ rest E_ O_ q_ q'_ E'_ O'_ w_ S_ ∧ beN b_ n_ T_ F_ I_ tp_ B_ N_ X_ Y_ S_ z_ fr_ M_ q'_ E'_ w_ g_ ∧ rbt B_ I_ M_ fr_ (A_.1 M_) E_ S_ ∧ g_ (ncd F_ I_ B_ X_ Y_ M_ rest.reverse (q_, E_, O_, []) x_) = zx_ ∧ imq (S_.1 13 0 37 - S_.1 13 0 38 ≤ 1000) (rxn q_.2.1 x_ S_)
def giM (b_ : Nat → Int) (n_ T_ F_ I_ tp_ : Nat) (B_ : pA) (N_ : Nat → Nat) (X_ : Nat → gQ → gE → Option (gQ × gE)) (Y_ : Nat → gQ → gE → gN → gN) (z_ : gQ × gE) (zx_ : gN) (mu_ : Nat) (S_ : sm_S) : Prop := ∃ fr_ M_ f_ A_ c_ p_ ce_ rest E_ O_ q_ q'_ E'_ O'_ w_ g_ x_, giN b_ n_ T_ F_ I_ tp_ B_ N_ X_ Y_ z_ zx_ mu_ fr_ M_ f_ A_ c_ p_ ce_ rest E_ O_ q_ q'_ E'_ O'_ w_ g_ x_ S_
/-- what an_ item leaves -/
def pNx (F_ I_ : Nat) (B_ : pA) (X_ : Nat → gQ → gE → Option (gQ × gE)) (Y_ : Nat → gQ → gE → gN → gN) (M_ fr_ K_ : Nat) (kk_ : List Int) (q0_ : gQ) (E_ : gE) (O_ : gO) (x0_ : gN) (q1_ : gQ) (E1_ : gE) (S0_ S1_ : sm_S) : Prop := rbt B_ I_ M_ fr_ K_ E1_ S1_ ∧ (∀ j_, j_ < 40 * fr_ → S1_.2.2.1 150 0 j_ = S0_.2.2.1 150 0 j_) ∧ imq (S1_.1 13 0 37 - S1_.1 13 0 38 ≤ 1000) (rxn q1_.2.1 (ncd F_ I_ B_ X_ Y_ M_ kk_.reverse (q0_, E_, O_, []) x0_) S1_)
def p8x (kk_ : List Int) (q0_ : gQ) (x0_ : gN) (S0_ S1_ : sm_S) : Prop := S1_.2.2.1 150 0 = S0_.2.2.1 150 0 ∧ wpl kk_.tail ∧ imq (S1_.1 13 0 37 - S1_.1 13 0 38 ≤ 1000) (rxn q0_.2.1 x0_ S1_)
theorem gin_r0 {b_ : Nat → Int} {n_ T_ F_ I_ tp_ : Nat} {B_ : pA} {N_ : Nat → Nat} {z_ : gQ × gE} {mu_ fr_ M_ f_ : Nat} {A_ : pA} {c_ : List Int} {p_ : Nat} {ce_ rest : List Int} {E_ : gE} {O_ : gO} {q_ q'_ : gQ} {E'_ : gE} {O'_ : gO} {w_ : Nat} {S_ : sm_S} {X_ : Nat → gQ → gE → Option (gQ × gE)} (h_ : gin b_ n_ T_ F_ I_ tp_ B_ N_ X_ z_ mu_ fr_ M_ f_ A_ c_ p_ ce_ rest E_ O_ q_ q'_ E'_ O'_ w_ S_) (hk_ : lx_kd b_ n_ p_ = 125) : rest = [] := by
  obtain ⟨h1_, h2_, h3_, h4_, -⟩ := h_
  cases f_ with
  | zero => exact h3_.elim
  | succ f1_ =>
    obtain ⟨⟨m1_, m2_, m3, m4_⟩, m5_⟩ := h3_
    rcases m5_ with ⟨z1_, z2_, z3_⟩ | ⟨rr_, z1_, z2_⟩
    · rw [z3_] at h4_
      have e_ := congrArg List.length h4_
      rw [List.length_append] at e_
      exact List.eq_nil_of_length_eq_zero (by omega)
    · exfalso
      unfold p_it at z1_
      rw [if_neg (by omega), if_neg (by omega), if_neg (by omega), if_neg (by omega), if_neg (by omega), if_neg (by omega)] at z1_
      cases z1_
section GN_
variable {b_ : Nat → Int} {n_ T_ F_ I_ tp_ : Nat} {B_ : pA} {N_ : Nat → Nat} {C_ : Nat → List Int} {z_ : gQ × gE} {zx_ : gN} {mu_ fr_ M_ f_ : Nat} {A_ : pA} {c_ : List Int} {p_ : Nat} {ce_ rest : List Int} {E_ : gE} {O_ : gO} {q_ q'_ : gQ} {E'_ : gE} {O'_ : gO} {w_ : Nat} {g_ : gN → gN} {x_ : gN} {S_ S1_ : sm_S}
theorem giN_it {X_ : Nat → gQ → gE → Option (gQ × gE)} {Y_ : Nat → gQ → gE → gN → gN} {rr_ : pT} {kk_ rest1 : List Int} {q1_ : gQ} {E1_ : gE} {O1_ : gO} {V1_ : gV} (h_ : giN b_ n_ T_ F_ I_ tp_ B_ N_ X_ Y_ z_ zx_ mu_ fr_ M_ f_ A_ c_ p_ ce_ rest E_ O_ q_ q'_ E'_ O'_ w_ g_ x_ S_) (i2_ : rr_.2.1 = kk_ ++ c_) (i6_ : ce_ = rest1 ++ rr_.2.1) (i4_ : ev F_ I_ B_ X_ M_ (q_, E_, O_, []) kk_ = some (q1_, E1_, O1_, V1_)) : g_ (ncd F_ I_ B_ X_ Y_ M_ rest1.reverse (q1_, E1_, O1_, V1_) (ncd F_ I_ B_ X_ Y_ M_ kk_.reverse (q_, E_, O_, []) x_)) = zx_ := by
  obtain ⟨G_, hb_, hr_, hg_, hx_⟩ := h_
  have h4_ := G_.2.2.2.1
  have r1_ : rest = rest1 ++ kk_ := by
    rw [h4_, i2_, ← List.append_assoc] at i6_
    exact List.append_cancel_right i6_
  have i5_ : ec F_ I_ B_ X_ M_ kk_.reverse (q_, E_, O_, []) = some (q1_, E1_, O1_, V1_) := i4_
  rw [r1_, List.reverse_append, ncd_ap kk_.reverse _ _ i5_] at hg_
  exact hg_
theorem giN_N {X_ : Nat → gQ → gE → Option (gQ × gE)} {Y_ : Nat → gQ → gE → gN → gN} {f1_ : Nat} {rr_ : pT} {kk_ rest1 : List Int} {q1_ : gQ} {E1_ : gE} {O1_ : gO} {V1_ : gV} (hn_ : n_ ≤ 1280) (h_ : giN b_ n_ T_ F_ I_ tp_ B_ N_ X_ Y_ z_ zx_ mu_ fr_ M_ f_ A_ c_ p_ ce_ rest E_ O_ q_ q'_ E'_ O'_ w_ g_ x_ S_) (hkk_ : rr_.2.1 = kk_ ++ c_) (hm_ : mch b_ n_ B_ N_ M_ f1_ rr_.1 rr_.2.1 rr_.2.2 ce_) (hc_ : ce_ = rest1 ++ rr_.2.1) (hv_ : ev F_ I_ B_ X_ M_ (q1_, E1_, O1_, V1_) rest1 = some (q'_, E'_, O'_, [])) (hp_ : p_ < rr_.2.2 ∧ rr_.2.2 ≤ n_) (hK_ : A_.1 M_ ≤ rr_.1.1 M_) (h45_ : S1_.2.2.1 145 0 = S_.2.2.1 145 0) (hXw_ : lwX F_ I_ X_) (hF13_ : F_ ≤ 13) (hek_ : ev F_ I_ B_ X_ M_ (q_, E_, O_, []) kk_ = some (q1_, E1_, O1_, V1_)) (hRF_ : 1 + I_ + q1_.2.1 ≤ F_) (hN_ : pN b_ n_ T_ F_ I_ B_ M_ fr_ (rr_.1.1 M_) q_.2.2 q1_ E1_ O_ O1_ V1_ rr_.2.2 S_ S1_) (hx_ : pNx F_ I_ B_ X_ Y_ M_ fr_ (rr_.1.1 M_) kk_ q_ E_ O_ x_ q1_ E1_ S_ S1_) : ∃ mu1_, mu1_ < mu_ ∧ giM b_ n_ T_ F_ I_ tp_ B_ N_ X_ Y_ z_ zx_ mu1_ S1_ := by
  have hz_ := giN_it h_ hkk_ hc_ hek_
  obtain ⟨G_, hb_, hr_, hg_, hx0_⟩ := h_
  obtain ⟨mu1_, l1_, G1_⟩ := gin_N hn_ G_ hm_ hc_ hv_ hp_ hK_ h45_ hXw_ hF13_ hek_ hRF_ hN_
  obtain ⟨k1_, k2_, k3_, k4_, k5_, k6_, k7_, k8_, k9_, ka_, kb_, kc_, kd_, ke_⟩ := hN_
  obtain ⟨x1_, x2_, x3_⟩ := hx_
  subst kd_
  refine ⟨mu1_, l1_, fr_, M_, f1_, rr_.1, rr_.2.1, rr_.2.2, ce_, rest1, E1_, O1_, q1_, q'_, E'_, O'_, w_, g_, ncd F_ I_ B_ X_ Y_ M_ kk_.reverse (q_, E_, O_, []) x_, G1_, ?_, x1_, hz_, x3_⟩
  refine beN_fr fr_ M_ q'_ E'_ w_ g_ hb_ (fun j_ hj_ => ⟨congrFun k7_.1 j_, ?_⟩) (fun j_ hj_ => ⟨congrFun k7_.2.1 j_, congrFun k7_.2.2 j_⟩) k9_ (fun j_ hj_ => congrFun h45_ j_) x2_
  rw [k8_, if_neg (by omega)]
theorem giN_8 {f1_ : Nat} {rr_ : pT} {kk_ rest1 : List Int} {q1_ : gQ} {E1_ : gE} {O1_ : gO} {V1_ : gV} (hn_ : n_ ≤ 1280) (hmo_ : ∀ m_, m_ ≤ tp_ → gmd b_ n_ T_ B_ N_ C_ m_ S_) (h_ : giN b_ n_ T_ F_ I_ tp_ B_ N_ (exm F_ I_ B_ C_ 16) (nxm F_ I_ B_ C_ 16) z_ zx_ mu_ fr_ M_ f_ A_ c_ p_ ce_ rest E_ O_ q_ q'_ E'_ O'_ w_ g_ x_ S_) (hkk_ : rr_.2.1 = kk_ ++ c_) (hm_ : mch b_ n_ B_ N_ M_ f1_ rr_.1 rr_.2.1 rr_.2.2 ce_) (hc_ : ce_ = rest1 ++ rr_.2.1) (he_ : ev F_ I_ B_ (exm F_ I_ B_ C_ 16) M_ (q_, E_, O_, []) kk_ = some (q1_, E1_, O1_, V1_)) (hv_ : ev F_ I_ B_ (exm F_ I_ B_ C_ 16) M_ (q1_, E1_, O1_, V1_) rest1 = some (q'_, E'_, O'_, [])) (hp_ : p_ < rr_.2.2 ∧ rr_.2.2 ≤ n_) (h45_ : S1_.2.2.1 145 0 = S_.2.2.1 145 0) (hF13_ : F_ ≤ 13) (hRz_ : 1 + I_ + z_.1.2.1 ≤ F_) (h8_ : p8 b_ n_ T_ F_ I_ B_ (exm F_ I_ B_ C_ 16) M_ fr_ (A_.1 M_) q_ E_ O_ kk_ (rr_.1.1 M_) rr_.2.2 S_ S1_) (hx8_ : p8x kk_ q_ x_ S_ S1_) : ∃ mu1_, mu1_ < mu_ ∧ giM b_ n_ T_ F_ I_ tp_ B_ N_ (exm F_ I_ B_ C_ 16) (nxm F_ I_ B_ C_ 16) z_ zx_ mu1_ S1_ := by
  have hz_ := giN_it h_ hkk_ hc_ he_
  obtain ⟨G0_, hb_, hr_, hg_, hx0_⟩ := h_
  obtain ⟨h1_, h2_, h3_, h4_, h5_, h6_, h7_, hEB_, h9_, h10_, h11_, h12_, h13_, h14_, h15_, h16_⟩ := G0_
  obtain ⟨d_, k8_, G_, o_, i9_, g1_, g2_, g3_, g4_, g5_, g6_, g7_, g8_, g9_, gz_, ga_, gb_, gc_, gd_, ge_, gf_, gg_⟩ := h8_
  obtain ⟨t1_, t2_, t3_⟩ := hx8_
  have A40_ := (hB_40 h3_)
  subst g1_
  rw [ev_c g7_] at he_
  obtain ⟨e1_, e2_, e3_⟩ := cw_d (k_ := 17) (a_ := (A_.1 M_ : Int)) (d_ := (d_ : Int)) (by omega) (by omega)
  obtain ⟨o'_, z2_, w1_, w2_, w3_, w4_, w5_, w6_, w7_⟩ := ew17 he_ e1_
  have g17_ : ∀ x9_ : gN, nw I_ B_ (nxm F_ I_ B_ C_ 16) M_ (cw 17 (A_.1 M_ : Int) (d_ : Int)) ((G_, q_.2.1, q_.2.2 + 1), E_, up1 O_ (A_.1 M_) (some o_), []) x9_ = nxm F_ I_ B_ C_ 16 d_ (G_, q_.2.1, q_.2.2 + 1) o'_ x9_ := by
    intro x9_
    rw [nw_17 e1_ w1_, e3_, Int.toNat_natCast]
  have n17_ : ncd F_ I_ B_ (exm F_ I_ B_ C_ 16) (nxm F_ I_ B_ C_ 16) M_ (cw 17 (A_.1 M_ : Int) (d_ : Int) :: k8_).reverse (q_, E_, O_, []) x_ = nxm F_ I_ B_ C_ 16 d_ (G_, q_.2.1, q_.2.2 + 1) o'_ x_ := by
    have c8_ : ec F_ I_ B_ (exm F_ I_ B_ C_ 16) M_ k8_.reverse (q_, E_, O_, []) = some ((G_, q_.2.1, q_.2.2 + 1), E_, up1 O_ (A_.1 M_) (some o_), []) := g7_
    rw [List.reverse_cons, ncd_ap k8_.reverse _ _ c8_, ncd_pl k8_.reverse _ _ (wpl_r t2_), ncd_c he_]
    exact g17_ x_
  rw [n17_] at hz_
  rw [e2_, Int.toNat_natCast] at w1_ w7_
  rw [e3_, Int.toNat_natCast] at w6_
  have oo_ : o'_ = o_ := by
    have w1_ : (if A_.1 M_ = A_.1 M_ then some o_ else O_ (A_.1 M_)) = some o'_ := w1_
    rw [if_pos rfl] at w1_
    exact (Option.some.inj w1_).symm
  subst oo_
  have w7_ : (q1_, E1_, O1_, V1_) = (z2_.1, E_, up1 (up1 O_ (A_.1 M_) (some o'_)) (A_.1 M_) (some z2_.2), []) := w7_
  rw [up1_2] at w7_
  rw [w7_] at hv_ hz_
  have w6_ : exm F_ I_ B_ C_ 16 d_ (G_, q_.2.1, q_.2.2 + 1) o'_ = some z2_ := w6_
  have w6n : nxm F_ I_ B_ C_ 16 d_ (G_, q_.2.1, q_.2.2 + 1) o'_ x_ = ncd F_ I_ B_ (exm F_ I_ B_ C_ 16) (nxm F_ I_ B_ C_ 16) d_ (C_ d_) ((G_, q_.2.1, q_.2.2 + 1), o'_, fun _ => none, []) x_ := nxm_ev (f_ := 15) w6_
  rw [w6n] at hz_
  obtain ⟨O2_, x1_⟩ := exm_ev w6_
  obtain ⟨f2_, A2_, c2_, u_, ce2_, i2_, y1_, y2_, y3_, y4_, y5_⟩ := hmo_ d_ (by omega)
  have l1_ : q_.1.length ≤ G_.length := ev_le exm_hX g7_
  have l2_ : G_.length ≤ z2_.1.1.length := exm_hX _ _ _ _ w6_
  obtain ⟨m1_, m2_, m3, m4_, m5_, m6_, m7_, m8_⟩ := gd_
  have XW_ := exm_w (F_ := F_) (I_ := I_) (A_ := B_) (C_ := C_) 16
  have r1_ : z2_.1.2.1 ≤ q'_.2.1 := ev_R XW_ hv_
  have r2_ : q'_.2.1 ≤ z_.1.2.1 := bel_R XW_ _ _ _ _ _ h15_
  have r3_ : q_.2.1 ≤ z2_.1.2.1 := (XW_ _ _ _ _ w6_).2.1
  have LS_ : G_.length ≤ 1001 → lwS F_ ((G_, q_.2.1, q_.2.2 + 1), E_, up1 O_ (A_.1 M_) (some o'_), []) := fun ok_ => ev_w XW_ g7_ (by show F_ + G_.length ≤ 1023; omega) (by show 1 + I_ + q_.2.1 ≤ F_; omega) (h11_.2 (Nat.le_trans l1_ ok_))
  have LW_ : lwG F_ (G_, q_.2.1, q_.2.2 + 1) o'_ (fun _ => none) := fun ok_ => ⟨(LS_ ok_).1, (LS_ ok_).2.2.1 (A_.1 M_) o'_ (if_pos rfl), (fun a_ o_ e_ => by cases e_), (fun v_ hv_ => by cases hv_)⟩
  have LB_ : lwB F_ z2_.1 E_ O_ := fun ok_ => ⟨fun s_ => lwl_up (by show F_ + q_.1.length ≤ F_ + z2_.1.1.length; omega) ((h11_.2 (by omega)).2.1 s_), fun s_ o_ e_ t_ => lwl_up (by show F_ + q_.1.length ≤ F_ + z2_.1.1.length; omega) ((h11_.2 (by omega)).2.2.1 s_ o_ e_ t_)⟩
  have ub_ := (mch_ex y1_).2.2.1
  have BN_ : beN b_ n_ T_ F_ I_ tp_ B_ N_ (exm F_ I_ B_ C_ 16) (nxm F_ I_ B_ C_ 16) S1_ z_ (fr_ + 1) d_ z2_.1 z2_.2 ((1301 - rr_.2.2) + w_) (fun x9_ => g_ (ncd F_ I_ B_ (exm F_ I_ B_ C_ 16) (nxm F_ I_ B_ C_ 16) M_ rest1.reverse (z2_.1, E_, up1 O_ (A_.1 M_) (some z2_.2), []) x9_)) := by
    refine ⟨M_, f1_, rr_.1, rr_.2.1, rr_.2.2, ce_, rest1, A_.1 M_, E_, O_, i9_, q'_, E'_, O'_, w_, g_, ⟨?_, ?_, ?_, ?_⟩, gc_, hm_, hc_, ⟨g4_, g2_, h5_, g3_⟩, ⟨g5_, g6_⟩, h6_, h7_, hEB_, h9_, h10_, ⟨rev_lo h11_.1 (fun z9_ => Nat.le_trans l1_ (Nat.le_trans l2_ z9_)) h7_ ge_ h45_, LB_, rbt_eq hr_ t1_⟩, hv_, ⟨rfl, rfl⟩, ?_⟩
    · rw [m1_, if_neg (by omega), rd_ne (by decide)]; exact h1_.2.2.2.1
    · rw [m3, if_pos rfl]
    · rw [m2_, if_pos rfl]
    · rw [m4_, if_neg (by omega), rd_eq, if_pos rfl]
    · refine beN_fr fr_ M_ q'_ E'_ w_ g_ hb_ (fun j_ hj_ => ⟨?_, ?_⟩) (fun j_ hj_ => ⟨?_, ?_⟩) (fun j_ hj_ => ge_ j_ (by omega)) (fun j_ hj_ => congrFun h45_ j_) (fun j_ hj_ => congrFun t1_ j_)
      · rw [m1_, if_neg (by omega), rd_ne (by decide)]
      · rw [m4_, if_neg (by omega), rd_eq, if_neg (by omega)]
      · rw [m2_, if_neg (by omega), rd_ne (by decide)]
      · rw [m3, if_neg (by omega), rd_ne (by decide)]
  refine ⟨(300 - (q_.2.2 + 1)) * 3000 + (1301 - u_) + ((1301 - rr_.2.2) + w_), by omega, fr_ + 1, d_, f2_, A2_, c2_, u_, ce2_, (C_ d_).reverse, o'_, fun _ => none, (G_, q_.2.1, q_.2.2 + 1), z2_.1, z2_.2, O2_, (1301 - rr_.2.2) + w_, _, x_, ⟨⟨?_, m5_, gg_.trans h1_.2.2.1, ?_, ?_⟩, ⟨m8_, i2_, ?_, y4_⟩, y1_, y3_, by omega, ?_, g9_, gz_, fun s_ _ => rfl, (fun s_ o9_ e9_ => by cases e9_), ?_, gb_, ?_, x1_, beN_be _ _ _ _ _ _ BN_, rfl⟩, BN_, ?_, ?_, t3_⟩
  · rw [m6_]; push_cast; rfl
  · rw [m1_, if_pos rfl]
  · rw [m4_, if_pos rfl, y2_]; rfl
  · rw [m7_, rd_ne (by decide)]; exact y5_
  · rw [y2_]; exact tst_0 g8_
  · rw [y2_]; exact ⟨gf_, LW_⟩
  · show q_.2.2 + 1 ≤ 201; omega
  · rw [y2_]; exact rbt_0
  · rw [List.reverse_reverse]; exact hz_
theorem giN_D {X_ : Nat → gQ → gE → Option (gQ × gE)} {Y_ : Nat → gQ → gE → gN → gN} (h_ : giN b_ n_ T_ F_ I_ tp_ B_ N_ X_ Y_ z_ zx_ mu_ 0 M_ f_ A_ c_ p_ ce_ rest E_ O_ q_ q'_ E'_ O'_ w_ g_ x_ S_) (hk_ : lx_kd b_ n_ p_ = 125) : zx_ = x_ := by
  obtain ⟨G_, hb_, hr_, hg_, hx0_⟩ := h_
  have hr0_ := gin_r0 G_ hk_
  obtain ⟨b1_, b2_, b3_⟩ := hb_
  rw [hr0_, b3_] at hg_
  exact hg_.symm
theorem giN_L {X_ : Nat → gQ → gE → Option (gQ × gE)} {Y_ : Nat → gQ → gE → gN → gN} {K_ : Nat} (hn_ : n_ ≤ 1280) (h_ : giN b_ n_ T_ F_ I_ tp_ B_ N_ X_ Y_ z_ zx_ mu_ (fr_ + 1) M_ f_ A_ c_ p_ ce_ rest E_ O_ q_ q'_ E'_ O'_ w_ g_ x_ S_) (hk_ : lx_kd b_ n_ p_ = 125) (hK_ : S_.2.2.1 148 0 (fr_ + 1) = (K_ : Int)) (p1_ : S1_.1 13 0 29 = (fr_ : Int)) (p2_ : ∀ o1_ k1_ : Nat, o1_ < B_.1 M_ → k1_ < 8 → S1_.2.2.1 145 0 (8 * (40 * (40 * fr_ + K_) + o1_) + k1_) = S_.2.2.1 144 0 (8 * (40 * (fr_ + 1) + o1_) + k1_)) (p3_ : ∀ j_, j_ < 8 * (40 * (40 * fr_ + K_)) ∨ 8 * (40 * (40 * fr_ + K_)) + 320 ≤ j_ → S1_.2.2.1 145 0 j_ = S_.2.2.1 145 0 j_) (p4_ : S1_.1 13 0 9 = S_.2.2.1 147 0 (fr_ + 1)) (p5_ : S1_.1 13 0 28 = S_.2.2.1 146 0 fr_) (f4_ : S1_.2.2.1 144 0 = S_.2.2.1 144 0) (f6_ : S1_.2.2.1 146 0 = S_.2.2.1 146 0) (f7_ : S1_.2.2.1 147 0 = S_.2.2.1 147 0) (f8 : S1_.2.2.1 148 0 = S_.2.2.1 148 0) (f9_ : S1_.2.2.1 149 0 = S_.2.2.1 149 0) (fu_ : S1_.1 13 0 53 = S_.1 13 0 53) (ff_ : S1_.1 13 0 10 = S_.1 13 0 10) (fg_ : rgl F_ q_.1 S_ → rgl F_ q_.1 S1_) (fa_ : S1_.2.2.1 150 0 = S_.2.2.1 150 0) (fb_ : imq (S1_.1 13 0 37 - S1_.1 13 0 38 ≤ 1000) (rxn q_.2.1 x_ S1_)) : ∃ mu1_, mu1_ < mu_ ∧ giM b_ n_ T_ F_ I_ tp_ B_ N_ X_ Y_ z_ zx_ mu1_ S1_ := by
  obtain ⟨G0_, hb_, hr_, hg_, hx0_⟩ := h_
  obtain ⟨e1_, e2_, e3_⟩ := gin_e G0_ hk_
  have hr0_ := gin_r0 G0_ hk_
  obtain ⟨h1_, h2_, h3_, h4_, h5_, h6_, h7_, h8_, h9_, h10_, h11_, h12_, h13_, h14_, h15_, h16_⟩ := G0_
  subst e2_
  subst e3_
  rw [hr0_] at hg_
  have hg_ : g_ x_ = zx_ := hg_
  obtain ⟨M0_, f0_, A0_, c0_, p0_, ce0_, rest0, K0_, E0_, O0_, i_, q2_, E2_, O2_, w'_, g'_, b1_, b2_, b3_, b4_, b5_, b6_, b7_, b8_, b9_, b10_, b11_, b12_, b13_, ⟨b14_, b14g⟩, b15_⟩ := hb_
  rw [b14g] at hg_
  have hg_ : g'_ (ncd F_ I_ B_ X_ Y_ M0_ rest0.reverse (q'_, E0_, up1 O0_ K0_ (some E'_), []) x_) = zx_ := hg_
  have kk_ : K0_ = K_ := by
    have := b1_.2.1
    omega
  subst kk_
  have k40_ := hB_40 b3_
  have pn_ := (mch_ex h3_).2.2.1
  have up_ : ∀ s_ o_, up1 O0_ K0_ (some E'_) s_ = some o_ → (s_ = K0_ ∧ o_ = E'_) ∨ (s_ ≠ K0_ ∧ O0_ s_ = some o_) := by
    intro s_ o_ e_
    have e_ : (if s_ = K0_ then some E'_ else O0_ s_) = some o_ := e_
    by_cases q9_ : s_ = K0_
    · rw [if_pos q9_] at e_
      exact Or.inl ⟨q9_, (Option.some.inj e_).symm⟩
    · rw [if_neg q9_] at e_
      exact Or.inr ⟨q9_, e_⟩
  have BN_ : beN b_ n_ T_ F_ I_ tp_ B_ N_ X_ Y_ S1_ z_ fr_ M0_ q2_ E2_ w'_ g'_ := beN_fr fr_ M0_ q2_ E2_ w'_ g'_ b15_ (fun j_ _ => ⟨congrFun f6_ j_, congrFun f9_ j_⟩) (fun j_ _ => ⟨congrFun f7_ j_, congrFun f8 j_⟩) (fun j_ _ => congrFun f4_ j_) (fun j_ hj_ => p3_ j_ (by omega)) (fun j_ _ => congrFun fa_ j_)
  have RB_ : rbt B_ I_ M0_ fr_ (A0_.1 M0_) E0_ S1_ := by
    rw [b5_.1]
    exact rbt_i b12_.2.2 ⟨by rw [b6_.1]; decide, by rw [b6_.1]; decide⟩ fa_ (fun s_ _ => rfl)
  refine ⟨(300 - q'_.2.2) * 3000 + (1301 - p0_) + w'_, by omega, fr_, M0_, f0_, A0_, c0_, p0_, ce0_, rest0, E0_, up1 O0_ K0_ (some E'_), q'_, q2_, E2_, O2_, w'_, g'_, x_, ⟨⟨p1_, p5_.trans b1_.1, fu_.trans h1_.2.2.1, ?_, ?_⟩, ⟨ff_.trans h2_.1, i_, p4_.trans b1_.2.2.1, b2_⟩, b3_, b4_, by omega, ?_, b8_, b9_, ?_, ?_, ?_, fg_ h12_, h13_, b13_, beN_be _ _ _ _ _ _ BN_, rfl⟩, BN_, RB_, hg_, fb_⟩
  · rw [f6_]; exact b1_.1
  · rw [f9_, b1_.2.2.2, b5_.1]; push_cast; rfl
  · rw [b5_.1]
    refine tst_us b7_ b5_.2.2.2 b6_.1 ?_
    rw [b6_.2, Int.toNat_natCast]
    intro o1_ ho1_ hs_
    exact (h6_.1.2 o1_ (by omega)).1 hs_
  · intro s_ hs_
    rw [b5_.1] at hs_
    show (if s_ = K0_ then some E'_ else O0_ s_) = none
    rw [if_neg (by omega)]
    exact b10_ s_ (by omega)
  · intro s_ o_ e_ o1_ ho1_
    rcases up_ s_ o_ e_ with ⟨u1_, u2_⟩ | ⟨u1_, u2_⟩
    · rw [u2_]; exact h7_ o1_ ho1_
    · exact b11_ s_ o_ u2_ o1_ ho1_
  · refine ⟨?_, fun ok_ => ⟨(h11_.2 ok_).1, (b12_.2.1 ok_).1, fun s_ o_ e_ t_ => ?_, fun v_ hv_ => by cases hv_⟩⟩
    rotate_left
    · rcases up_ s_ o_ e_ with ⟨u1_, u2_⟩ | ⟨u1_, u2_⟩
      · rw [u2_]; exact (h11_.2 ok_).2.1 t_
      · exact (b12_.2.1 ok_).2 s_ o_ u2_ t_
    intro ok_
    obtain ⟨v1_, v2_⟩ := b12_.1 ok_
    obtain ⟨v3_, -⟩ := h11_.1 ok_
    rw [b5_.1]
    refine ⟨fun s_ hs_ => by rw [f4_]; exact v1_ s_ hs_, fun s_ o_ hs_ e_ o1_ ho1_ => ?_⟩
    rcases up_ s_ o_ e_ with ⟨u1_, u2_⟩ | ⟨u1_, u2_⟩
    · rw [u1_, u2_]
      by_cases oB_ : o1_ < B_.1 M_
      · have l8_ := h7_ o1_ ho1_
        intro k9_ z9_ e9_
        have kl_ : k9_ < (E'_ o1_).length := by
          by_cases q9_ : k9_ < (E'_ o1_).length
          · exact q9_
          · rw [List.getElem?_eq_none (by omega)] at e9_
            cases e9_
        rw [p2_ o1_ k9_ oB_ (by omega)]
        exact v3_ o1_ ho1_ k9_ z9_ e9_
      · rw [h8_ o1_ (by omega)]
        intro k9_ z9_ e9_
        simp at e9_
    · have l8_ := b11_ s_ o_ u2_ o1_ ho1_
      exact rwv_cg (v2_ s_ o_ (by omega) u2_ o1_ ho1_) (fun k9_ hk9_ => p3_ _ (by omega))
end GN_
end
/-! 99.ztP -/
section
/-! next values and beginning: items; written by wip/p55/gen/vg -/

/-! next values and beginning: items -/
section MQ_
variable {b_ : Nat → Int} {n_ F_ I_ M_ : Nat} {A_ B_ : pA} {N_ : Nat → Nat} {X_ : Nat → gQ → gE → Option (gQ × gE)} {Y_ : Nat → gQ → gE → gN → gN}
variable {p_ : Nat} {rr_ : pT} {c_ kk_ : List Int} {q0_ q1_ : gQ} {E_ E1_ : gE} {O_ O1_ : gO} {V1_ : gV} {x0_ : gN}
theorem mq_in (hit_ : p_it b_ n_ A_ N_ M_ c_ p_ = some (.inr rr_)) (hkd_ : lx_kd b_ n_ p_ = 4) (hkk_ : rr_.2.1 = kk_ ++ c_) (hxr_ : a_ex rr_.1 B_ M_) : kk_ = [] ∧ B_.2.2.1 (40 * M_ + A_.1 M_) = 0 := by
  unfold p_it at hit_
  rw [if_pos hkd_] at hit_
  obtain ⟨q_, r1_, u_, y_, h1_, h2_, h3_, h4_, h5_⟩ := in_r (Option.some.inj hit_)
  subst h5_
  obtain ⟨x1_, x2_, x3_, x4_⟩ := te_ex hxr_
  refine ⟨?_, ?_⟩
  · have hkk_ : c_ = kk_ ++ c_ := hkk_
    have e_ := congrArg List.length hkk_
    rw [List.length_append] at e_
    exact List.eq_nil_of_length_eq_zero (by omega)
  · rcases x4_ with z_ | z_
    · exact z_
    · exact absurd z_.1 (by decide)
theorem mq_re (hit_ : p_it b_ n_ A_ N_ M_ c_ p_ = some (.inr rr_)) (hkd_ : lx_kd b_ n_ p_ = 7) (hkk_ : rr_.2.1 = kk_ ++ c_) : kk_ = [cw 13 (A_.1 M_ : Int) 0] := by
  unfold p_it at hit_
  rw [if_neg (by omega), if_neg (by omega), if_neg (by omega), if_pos hkd_] at hit_
  obtain ⟨q_, r1_, u_, z_, y_, h1_, h2_, h3_, h4_, h5_, h6_⟩ := re_r (Option.some.inj hit_)
  subst h6_
  have hkk_ : [cw 13 (A_.1 M_ : Int) 0] ++ c_ = kk_ ++ c_ := hkk_
  exact (List.append_cancel_right hkk_).symm
theorem mq_va (hn_ : n_ ≤ 1280) (hA_ : a_ok b_ n_ A_ M_) (hxx_ : a_ex A_ B_ M_) (hpn : p_ ≤ n_) (hit_ : p_it b_ n_ A_ N_ M_ c_ p_ = some (.inr rr_)) (hkd_ : lx_kd b_ n_ p_ = 5 ∨ lx_kd b_ n_ p_ = 6) (hB_ : a_ok b_ n_ B_ M_) (hkk_ : rr_.2.1 = kk_ ++ c_) (hxr_ : a_ex rr_.1 B_ M_) (hev_ : ev F_ I_ B_ X_ M_ (q0_, E_, O_, []) kk_ = some (q1_, E1_, O1_, V1_)) (hts_ : tst B_ I_ M_ (A_.1 M_) E_ O_) : ∃ uu_ f_ v_ : Nat, ∃ xr : pR, nxs b_ n_ 61 f_ p_ uu_ ∧ p_ad b_ n_ uu_ = .inr v_ ∧ p_ex b_ n_ false (p_pd b_ n_ A_ M_) [] v_ = .inr xr ∧ p_nd b_ n_ 59 xr.1 = .inr rr_.2.2 ∧ A_.1 M_ < B_.1 M_ ∧ rr_.1.1 M_ = A_.1 M_ + 1 ∧ (wpl kk_ ∧ B_.2.2.1 (40 * M_ + A_.1 M_) ≠ 3 ∧ B_.2.2.1 (40 * M_ + A_.1 M_) ≠ 4) ∧ ∀ (G_ : pGr) (v9_ : List Int), ev F_ I_ B_ X_ M_ (q0_, E_, O_, []) xr.2.2 = some ((G_, q0_.2), E_, O_, [v9_]) → h_tp xr.2.1 = (v9_.length : Int) → v9_.length ≤ 8 → q1_ = (G_, q0_.2) ∧ E1_ = up1 E_ (A_.1 M_) v9_ ∧ O1_ = O_ ∧ tst B_ I_ M_ (rr_.1.1 M_) E1_ O_ ∧ V1_ = [] := by
  obtain ⟨so_, hso_, hva_⟩ : ∃ so_ : Int, (so_ = 1 ∨ so_ = 2) ∧ p_va b_ n_ A_ M_ so_ c_ p_ = .inr rr_ := by
    unfold p_it at hit_
    rw [if_neg (by omega)] at hit_
    by_cases k5_ : lx_kd b_ n_ p_ = 5
    · rw [if_pos k5_] at hit_
      exact ⟨1, Or.inl rfl, Option.some.inj hit_⟩
    · rw [if_neg k5_, if_pos (by omega)] at hit_
      exact ⟨2, Or.inr rfl, Option.some.inj hit_⟩
  obtain ⟨q_, r1_, u_, v_, x_, y_, h1_, h2_, h3_, h4_, h5_, h6_, h7_, h8_⟩ := va_r hva_
  subst h8_
  obtain ⟨k_, e1_, e2_⟩ := ex_ac h5_
  have k0_ : kk_ = cw 12 (A_.1 M_ : Int) 0 :: k_ := by
    have hkk_ : cw 12 (A_.1 M_ : Int) 0 :: x_.2.2 = kk_ ++ c_ := hkk_
    rw [e2_, ← List.cons_append] at hkk_
    exact (List.append_cancel_right hkk_).symm
  subst k0_
  obtain ⟨n1_, n2_⟩ := nd_r h4_
  obtain ⟨a1_, a2_, a3_⟩ := p_nn_ok h2_
  obtain ⟨f1_, g1_⟩ := wi_nx (s_ := 61) (f_ := 0) h3_ (by decide) ⟨rfl, n1_⟩
  obtain ⟨x1_, x2_, x3_, x4_⟩ := te_ex hxr_
  have B40_ := (hB_.2 M_ (Nat.le_refl _)).1
  have x4_ : B_.2.2.1 (40 * M_ + A_.1 M_) = so_ := by rcases x4_ with z_ | z_; exact z_; omega
  have b1_ := p_ad_ok hpn (by omega) h1_
  have b2_ := p_ad_ok b1_.2.2.1 (by omega) a3_
  have b3_ := p_wi_ok b2_.2.2.1 b2_.2.2.2 h3_
  have b4_ := p_ad_ok b3_.2.1 (by omega) n2_
  have wk_ : wpl k_ := ex_pl (r_ := (x_.1, x_.2.1, k_)) hn_ hA_ hB_ hxx_ hts_.1 b4_.2.2.1 b4_.2.2.2 e1_
  refine ⟨u_.1, _, v_, (x_.1, x_.2.1, k_), nxs_s (by omega) (by omega) h1_ (nxs_s (by omega) (by omega) a3_ g1_), n2_, e1_, h7_, x1_, te_f.1, ⟨wpl_c (by unfold cw; omega) wk_, by omega, by omega⟩, fun G_ v9_ d1_ d2_ d3_ => ?_⟩
  have d1_ : ev F_ I_ B_ X_ M_ (q0_, E_, O_, []) k_ = some ((G_, q0_.2), E_, O_, [v9_]) := d1_
  have d2_ : h_tp x_.2.1 = (v9_.length : Int) := d2_
  rw [ev_c d1_] at hev_
  have w3_ := ew_i (by decide) (by omega) hev_
  rw [Int.toNat_natCast] at w3_
  have hO_ : O_ (A_.1 M_) = none := (hts_.2.2.1 (A_.1 M_) (Nat.le_refl _) x1_ (by omega)).2
  rw [st12 x1_ hO_ d3_] at w3_
  cases w3_
  refine ⟨rfl, rfl, rfl, ?_, rfl⟩
  show tst B_ I_ M_ ((a_te A_ M_ q_ so_ u_.2 0).1 M_) _ O_
  rw [te_f.1]
  exact tst_up hts_ x1_ (by omega) (by omega) (fun z_ => by omega)
theorem mq_ne (hn_ : n_ ≤ 1280) (hB_ : a_ok b_ n_ B_ M_) (hxx_ : a_ex A_ B_ M_) (hte_ : ten B_ M_ (A_.1 M_) E_ O_) (hpn : p_ ≤ n_) (hit_ : p_it b_ n_ A_ N_ M_ c_ p_ = some (.inr rr_)) (hkd_ : lx_kd b_ n_ p_ = 1) (hA_ : a_ok b_ n_ A_ M_) (hkk_ : rr_.2.1 = kk_ ++ c_) (hev_ : ev F_ I_ B_ X_ M_ (q0_, E_, O_, []) kk_ = some (q1_, E1_, O1_, V1_)) : ∃ s_ r1_ r2_ : Nat, ∃ xr : pR, p_fn b_ n_ A_ M_ p_ = (s_ : Int) ∧ p_ad b_ n_ p_ = .inr r1_ ∧ lx_kd b_ n_ r1_ = 256 ∧ p_ad b_ n_ r1_ = .inr r2_ ∧ p_ex b_ n_ false (p_pd b_ n_ A_ M_) [] r2_ = .inr xr ∧ p_nd b_ n_ 59 xr.1 = .inr rr_.2.2 ∧ rr_.1.1 M_ = A_.1 M_ ∧ (h_tp xr.2.1 = A_.2.2.2.1 (40 * M_ + s_) ∧ s_ < A_.1 M_) ∧ (kk_ = cw 14 (s_ : Int) 0 :: xr.2.2 ∧ wpl xr.2.2 ∧ (B_.2.2.1 (40 * M_ + s_) = 3 ∨ B_.2.2.1 (40 * M_ + s_) = 4)) ∧ ∀ (G_ : pGr) (v9_ : List Int), ev F_ I_ B_ X_ M_ (q0_, E_, O_, []) xr.2.2 = some ((G_, q0_.2), E_, O_, [v9_]) → q1_ = (G_, q0_.2) ∧ E1_ = E_ ∧ O1_ = O_ ∧ V1_ = [] := by
  unfold p_it at hit_
  rw [if_neg (by omega), if_neg (by omega), if_neg (by omega), if_neg (by omega), if_neg (by omega), if_pos hkd_] at hit_
  obtain ⟨s_, q_, r1_, x_, y_, h1_, h2_, h3_, h4_, h5_, h6_, h7_, h8_, h9_⟩ := ne_r (Option.some.inj hit_)
  subst h9_
  obtain ⟨k_, e1_, e2_⟩ := ex_ac h6_
  have k0_ : kk_ = cw 14 (s_ : Int) 0 :: k_ := by
    have hkk_ : cw 14 (s_ : Int) 0 :: x_.2.2 = kk_ ++ c_ := hkk_
    rw [e2_, ← List.cons_append] at hkk_
    exact (List.append_cancel_right hkk_).symm
  subst k0_
  obtain ⟨n1_, n2_⟩ := nd_r h5_
  have A40_ := (hA_.2 M_ (Nat.le_refl _)).1
  have b1_ := p_ad_ok hpn (by omega) h4_
  have b2_ := p_ad_ok b1_.2.2.1 (by omega) n2_
  have wk_ : wpl k_ := ex_pl (r_ := (x_.1, x_.2.1, k_)) hn_ hA_ hB_ hxx_ hte_ b2_.2.2.1 b2_.2.2.2 e1_
  have s3_ : B_.2.2.1 (40 * M_ + s_) = 3 ∨ B_.2.2.1 (40 * M_ + s_) = 4 := by
    rcases (hxx_.2.2 M_ s_ (Nat.le_refl _) h2_).2.2.2 with y9_ | y9_
    · exact Or.inl (y9_.symm.trans h3_)
    · exact Or.inr y9_.2
  refine ⟨s_, q_, r1_, (x_.1, x_.2.1, k_), h1_, h4_, n1_, n2_, e1_, h8_, rfl, ⟨h7_, h2_⟩, ⟨rfl, wk_, s3_⟩, fun G_ v9_ d1_ => ?_⟩
  have d1_ : ev F_ I_ B_ X_ M_ (q0_, E_, O_, []) k_ = some ((G_, q0_.2), E_, O_, [v9_]) := d1_
  rw [ev_c d1_] at hev_
  have w3_ := ew_i (by decide) (by omega) hev_
  exact m_st14 w3_
theorem mq_us {d_ p1_ p2_ p3_ p4_ pe_ K_ : Nat} {l_ : List (pR × Nat)} (hn_ : n_ ≤ 1280) (hA_ : a_ok b_ n_ A_ M_) (hB_ : a_ok b_ n_ B_ M_) (hxx_ : a_ex A_ B_ M_) (hte_ : ten B_ M_ (A_.1 M_) E_ O_) (hpn : p_ ≤ n_) (ha1_ : p_ad b_ n_ p_ = .inr p1_) (hk_ : lx_kd b_ n_ p_ ≠ 0 ∧ lx_kd b_ n_ p1_ ≠ 0 ∧ lx_kd b_ n_ p2_ ≠ 0) (ha2_ : p_ad b_ n_ p1_ = .inr p2_) (ha3_ : p_ad b_ n_ p2_ = .inr p3_) (h40_ : p_nd b_ n_ 40 p3_ = .inr p4_) (hu_ : uch b_ n_ A_ M_ d_ l_ 0 p4_ pe_) : wpl (acd K_ l_ [cw 15 (K_ : Int) 0]) := by
  have b1_ := p_ad_ok hpn hk_.1 ha1_
  have b2_ := p_ad_ok b1_.2.2.1 hk_.2.1 ha2_
  have b3_ := p_ad_ok b2_.2.2.1 hk_.2.2 ha3_
  have b4_ := p_nd_ok (by decide) b3_.2.2.1 h40_
  have w15_ : wpl [cw 15 (K_ : Int) 0] := wpl_c (by unfold cw; omega) wpl_n
  rcases hu_ with ⟨h1_, -⟩ | h1_
  · rw [h1_]
    exact w15_
  · exact ach_pl hn_ hA_ hB_ hxx_ hte_ l_ 0 p4_ pe_ _ h1_ b4_.2.2.1 b4_.2.2.2 w15_
theorem nx_re (hkk_ : kk_ = [cw 13 (A_.1 M_ : Int) 0]) (hB_ : B_.1 M_ ≤ 40) (hA_ : A_.1 M_ < B_.1 M_) (hev_ : ev F_ I_ B_ X_ M_ (q0_, E_, O_, []) kk_ = some (q1_, E1_, O1_, V1_)) : ncd F_ I_ B_ X_ Y_ M_ kk_.reverse (q0_, E_, O_, []) x0_ = (nho I_ q0_.2.1 (B_.2.2.2.1 (40 * M_ + A_.1 M_)).toNat x0_.1, bho (B_.2.2.2.2 (40 * M_ + A_.1 M_)) q0_.2.1 (B_.2.2.2.1 (40 * M_ + A_.1 M_)).toNat x0_.2) := by
  subst hkk_
  obtain ⟨s_, w1_, w2_⟩ := ev_cw hev_
  rw [ev_n] at w1_
  cases w1_
  obtain ⟨e1_, e2_, e3_⟩ := cw_d (k_ := 13) (a_ := (A_.1 M_ : Int)) (d_ := 0) (by omega) (by omega)
  have n1_ : nw I_ B_ Y_ M_ (cw 13 (A_.1 M_ : Int) 0) (q0_, E_, O_, []) x0_ = nst I_ B_ M_ 13 (A_.1 M_) (q0_, E_, O_, []) x0_ := by
    rw [nw_s (by omega) (by omega), e1_, e2_, Int.toNat_natCast]
  show ncd F_ I_ B_ X_ Y_ M_ [cw 13 (A_.1 M_ : Int) 0] (q0_, E_, O_, []) x0_ = _
  rw [ncd_c w2_]
  refine n1_.trans ?_
  exact nst_h
theorem nx_ne {s_ r_ : Nat} {k_ : List Int} {G_ : pGr} {v9_ y_ : List Int} (hkk_ : kk_ = cw 14 (s_ : Int) 0 :: k_) (hw_ : wpl k_) (hs_ : s_ < 40) (hk_ : ev F_ I_ B_ X_ M_ (q0_, E_, O_, []) k_ = some ((G_, q0_.2), E_, O_, [v9_])) (hE_ : E_ s_ = 2 * ((1 + I_ + r_ : Nat) : Int) :: y_) (hev_ : ev F_ I_ B_ X_ M_ (q0_, E_, O_, []) kk_ = some (q1_, E1_, O1_, V1_)) : ncd F_ I_ B_ X_ Y_ M_ kk_.reverse (q0_, E_, O_, []) x0_ = (nnx r_ v9_ x0_.1, x0_.2) := by
  subst hkk_
  rw [ev_c hk_] at hev_
  obtain ⟨e1_, e2_, e3_⟩ := cw_d (k_ := 14) (a_ := (s_ : Int)) (d_ := 0) (by omega) (by omega)
  have c8_ : ec F_ I_ B_ X_ M_ k_.reverse (q0_, E_, O_, []) = some ((G_, q0_.2), E_, O_, [v9_]) := hk_
  rw [List.reverse_cons, ncd_ap k_.reverse _ _ c8_, ncd_pl k_.reverse _ _ (wpl_r hw_), ncd_c hev_]
  have n1_ : nw I_ B_ Y_ M_ (cw 14 (s_ : Int) 0) ((G_, q0_.2), E_, O_, [v9_]) x0_ = nst I_ B_ M_ 14 s_ ((G_, q0_.2), E_, O_, [v9_]) x0_ := by
    rw [nw_s (by omega) (by omega), e1_, e2_, Int.toNat_natCast]
  have n2_ : nst I_ B_ M_ 14 s_ ((G_, q0_.2), E_, O_, [v9_]) x0_ = (nnx (2 * ((1 + I_ + r_ : Nat) : Int) / 2 - 1 - I_).toNat v9_ x0_.1, x0_.2) := nst_n (l_ := []) (y2_ := y_) rfl hE_
  rw [show (2 * ((1 + I_ + r_ : Nat) : Int) / 2 - 1 - I_).toNat = r_ by omega] at n2_
  exact n1_.trans n2_
end MQ_
/-! M_.makeItem -/
def vw_348n : sx_Wl := ([(13, 9), (13, 10), (13, 11), (13, 28), (13, 29), (13, 32), (13, 33), (13, 34), (13, 37), (13, 52), (13, 53)], [136, 137, 138, 139, 140, 141, 142, 143, 144, 146, 147, 148, 149, 150, 151, 152], [])
def vq_348n (b_ : Nat → Int) (n_ : Nat) (T_ : Nat) (F_ : Nat) (I_ : Nat) (A_ : pA) (B_ : pA) (X_ : Nat → gQ → gE → Option (gQ × gE)) (M_ : Nat) (fr_ : Nat) (q0_ : gQ) (E_ : gE) (O_ : gO) (p_ : Nat) (N_ : Nat → Nat) (c_ : List Int) (kk_ : List Int) (rr_ : pT) (q1_ : gQ) (E1_ : gE) (O1_ : gO) (V1_ : gV) (Y_ : Nat → gQ → gE → gN → gN) (x0_ : gN) (S0_ : sm_S) (u_ : Option sm_V) (S1_ : sm_S) : Prop := u_ = none ∧ gi S1_ ∧ ai_fr (sx_W vw_348n) S0_ S1_ ∧ (((imq (lx_kd b_ n_ p_ ≠ 8) (pN b_ n_ T_ F_ I_ B_ M_ fr_ (rr_.1.1 M_) q0_.2.2 q1_ E1_ O_ O1_ V1_ rr_.2.2 S0_ S1_) ∧ imq (lx_kd b_ n_ p_ = 8) (p8 b_ n_ T_ F_ I_ B_ X_ M_ fr_ (A_.1 M_) q0_ E_ O_ kk_ (rr_.1.1 M_) rr_.2.2 S0_ S1_)) ∧ imq (S1_.1 13 0 37 - S1_.1 13 0 38 ≤ 1000) (rnS S1_)) ∧ imq (lx_kd b_ n_ p_ ≠ 8) (pNx F_ I_ B_ X_ Y_ M_ fr_ (rr_.1.1 M_) kk_ q0_ E_ O_ x0_ q1_ E1_ S0_ S1_) ∧ imq (lx_kd b_ n_ p_ = 8) (p8x kk_ q0_ x0_ S0_ S1_))
set_option maxHeartbeats 2000000 in
theorem vc_348n {sc_ : Nat × (Nat → Int)} (b_ : Nat → Int) (n_ : Nat) (T_ : Nat) (F_ : Nat) (I_ : Nat) (A_ : pA) (B_ : pA) (X_ : Nat → gQ → gE → Option (gQ × gE)) (M_ : Nat) (fr_ : Nat) (q0_ : gQ) (E_ : gE) (O_ : gO) (p_ : Nat) (N_ : Nat → Nat) (c_ : List Int) (kk_ : List Int) (rr_ : pT) (q1_ : gQ) (E1_ : gE) (O1_ : gO) (V1_ : gV) (Y_ : Nat → gQ → gE → gN → gN) (x0_ : gN) (S0_ : sm_S) (hI_ : gi S0_) (ht_ : rtab b_ n_ T_ S0_) (hx_ : rg b_ n_ T_ (.inr p_) S0_) (hm1_ : (S0_.1 13 0 27) = 1) (hen_ : r_e1 b_ n_ T_ B_ M_ fr_ S0_) (hA_ : a_ok b_ n_ A_ M_) (hxx_ : a_ex A_ B_ M_) (hX_ : ∀ d_ q_ e_ z_, X_ d_ q_ e_ = some z_ → q_.1.length ≤ z_.1.1.length) (hte_ : ten B_ M_ (A_.1 M_) E_ O_) (hev_ : rev fr_ (A_.1 M_) E_ O_ (q0_.1.length ≤ 1001) S0_) (hg_ : rgl F_ q0_.1 S0_) (hts_ : tst B_ I_ M_ (A_.1 M_) E_ O_) (hit_ : p_it b_ n_ A_ N_ M_ c_ p_ = some (.inr rr_)) (hkk_ : rr_.2.1 = kk_ ++ c_) (hxr_ : a_ex rr_.1 B_ M_) (hec_ : ev F_ I_ B_ X_ M_ (q0_, E_, O_, []) kk_ = some (q1_, E1_, O1_, V1_)) (hEB_ : ∀ s_, B_.1 M_ ≤ s_ → E_ s_ = []) (hE8_ : ∀ s_, s_ < 40 → (E_ s_).length ≤ 8) (hON_ : ∀ s_, A_.1 M_ ≤ s_ → O_ s_ = none) (hR_ : (S0_.1 13 0 53) = (q0_.2.1 : Int)) (hms_ : 1 ≤ (S0_.1 13 0 12) ∧ (S0_.1 13 0 12) ≤ 16) (hI1_ : S0_.2.2.1 132 0 ((S0_.1 13 0 12) - 1).toNat = (I_ : Int) ∧ I_ ≤ 12) (htd_ : S0_.2.2.1 149 0 fr_ = (A_.1 M_ : Int)) (hfm_ : fr_ + M_ ≤ 15) (hrn_ : rnS S0_) (hlw_ : lwS F_ (q0_, E_, O_, [])) (hXw_ : lwX F_ I_ X_) (hRF_ : 1 + I_ + q1_.2.1 ≤ F_) (hpn : p_ ≤ n_) (hrb_ : rbt B_ I_ M_ fr_ (A_.1 M_) E_ S0_) (hx0_ : rxn q0_.2.1 x0_ S0_) : sm_T (mt_P sc_) 10 348 (0, [some (.inr (.inr (some (13, 0)))), none], [], S0_) (fun ro9_ => ∃ u_ S1_, ro9_ = (.inl u_, S1_, 0) ∧ vq_348n b_ n_ T_ F_ I_ A_ B_ X_ M_ fr_ q0_ E_ O_ p_ N_ c_ kk_ rr_ q1_ E1_ O1_ V1_ Y_ x0_ S0_ u_ S1_) := by
  have hF_ : ai_fr (sx_W vw_348n) S0_ S0_ := ai_fr_rf
  obtain ⟨i_, hi_⟩ := id hx_.2
  have ra_ := rp_at ht_ hi_.2
  have rk_ := r_st_3 (lx_kd_r hi_.2.2.2.1)
  have hT_ := ht_.2.1
  have hi9_ := hi_.2.1
  have e4_ : (S0_.1 13 0 9).toNat = i_ := by omega
  have fr1_ := hen_.2.2.1.1
  have frb_ := hen_.2.2.1.2
  have ex9_ : (S0_.1 13 0 29).toNat = fr_ := by omega
  have M15_ := hA_.1
  have A40_ := (hA_.2 M_ (Nat.le_refl _)).1
  have B40_ := (hen_.1.2 M_ (Nat.le_refl _)).1
  have t2_ : ∀ x_ y_, rtab b_ n_ T_ (sm_aI S0_ 149 0 x_ y_) := fun x_ y_ => rtab_fr (w_ := ([], [149], [])) ht_ (ai_fr_aI rfl) rfl rfl rfl rfl rfl
  have g2_ : ∀ x_ y_, rg b_ n_ T_ (.inr p_) (sm_aI S0_ 149 0 x_ y_) := fun x_ y_ => rg_fr (w_ := ([], [149], [])) hx_ (ai_fr_aI rfl) rfl rfl rfl
  have en2_ : ∀ x_ y_, r_e1 b_ n_ T_ B_ M_ fr_ (sm_aI S0_ 149 0 x_ y_) := fun x_ y_ => ⟨hen_.1, hen_.2.1, hen_.2.2.1, fun m_ hm_ => re1_fr (w_ := ([], [149], [])) (hen_.2.2.2 m_ hm_) (ai_fr_aI rfl) rfl rfl rfl rfl rfl rfl⟩
  have ev2_ : ∀ x_ y_, rev fr_ (A_.1 M_) E_ O_ (q0_.1.length ≤ 1001) (sm_aI S0_ 149 0 x_ y_) := fun x_ y_ => rev_fr (w_ := ([], [149], [])) hev_ (ai_fr_aI rfl) rfl rfl
  have rn2_ : ∀ x_ y_, rnS (sm_aI S0_ 149 0 x_ y_) := fun x_ y_ => rnS_fr (w_ := ([], [149], [])) hrn_ (ai_fr_aI rfl) rfl rfl rfl rfl
  have xn2_ : ∀ x_ y_, rxn q0_.2.1 x0_ (sm_aI S0_ 149 0 x_ y_) := fun x_ y_ => rxn_fr (w_ := ([], [149], [])) hx0_ (ai_fr_aI rfl)
  have gg2_ : ∀ x_ y_, rgl F_ q0_.1 (sm_aI S0_ 149 0 x_ y_) := fun x_ y_ => rgl_fr (w_ := ([], [149], [])) hg_ (ai_fr_aI rfl) rfl rfl rfl rfl rfl rfl
  have bx1_ : 0 ≤ S0_.1 13 0 9 ∧ S0_.1 13 0 9 ≤ 1280 := hI_.1 13 0 9 rfl
  refine sm_T_go 4 (c1 := (8, [some (.inr (.inr (some (13, 0)))), none], [.inl (S0_.1 13 0 9), .inr (.inr (some (119, 0)))], S0_)) rfl ?_
  refine sm_T_bald (n := 65537) rfl rfl (by omega) (by omega) ?_
  have bx2_ : (-128) ≤ S0_.2.2.1 119 0 (S0_.1 13 0 9).toNat ∧ S0_.2.2.1 119 0 (S0_.1 13 0 9).toNat ≤ 127 := hI_.2 119 0 _
  refine sm_T_go 1 (c1 := (10, [some (.inr (.inr (some (13, 0)))), none], [.inl 1, .inl (S0_.2.2.1 119 0 (S0_.1 13 0 9).toNat)], S0_)) rfl ?_
  refine sm_T_br (a := 1) (z := 8) rfl (fun cx3_ => ?_) (fun cx3_ => ?_)
  · have cx3_ : (S0_.2.2.1 119 0 (S0_.1 13 0 9).toNat) ≠ 1 := of_decide_eq_true cx3_
    have k1_ : lx_kd b_ n_ p_ ≠ 1 := fun z_ => by have z2_ := rk_.2.1.mpr z_; rw [← ra_.1] at z2_; rw [e4_] at cx3_; omega
    have K1_ := it_K hit_ k1_
    have K2_ := hxr_.1
    have s146_ : ∀ x_ y_ t_, t_ ≠ 149 → (sm_aI S0_ 149 0 x_ y_).2.2.1 t_ 0 = S0_.2.2.1 t_ 0 := fun x_ y_ t_ ht9_ => funext fun j_ => rd_ne ht9_
    have s149_ : ∀ j_, (sm_aI S0_ 149 0 (S0_.1 13 0 29).toNat (S0_.2.2.1 149 0 (S0_.1 13 0 29).toNat + 1)).2.2.1 149 0 j_ = if j_ = fr_ then (A_.1 M_ : Int) + 1 else S0_.2.2.1 149 0 j_ := fun j_ => by rw [rd_eq, ex9_, htd_]
    have t149_ : S0_.2.2.1 149 0 (S0_.1 13 0 29).toNat = (A_.1 M_ : Int) := by rw [ex9_]; exact htd_
    have bx4_ : 0 ≤ S0_.1 13 0 29 ∧ S0_.1 13 0 29 ≤ 16 := hI_.1 13 0 29 rfl
    refine sm_T_go 4 (c1 := (26, [some (.inr (.inr (some (13, 0)))), none], [.inl (S0_.1 13 0 29), .inr (.inr (some (149, 0)))], S0_)) rfl ?_
    refine sm_T_iald (n := 16) rfl rfl (by omega) (by omega) ?_
    have bx5_ : 0 ≤ S0_.2.2.1 149 0 (S0_.1 13 0 29).toNat ∧ S0_.2.2.1 149 0 (S0_.1 13 0 29).toNat ≤ 40 := hI_.2 149 0 _
    refine sm_T_go 6 (c1 := (37, [some (.inr (.inr (some (13, 0)))), some (.inl (S0_.2.2.1 149 0 (S0_.1 13 0 29).toNat))], [.inl (S0_.1 13 0 29), .inr (.inr (some (149, 0))), .inl (S0_.1 13 0 29), .inr (.inr (some (149, 0)))], S0_)) rfl ?_
    refine sm_T_iald (n := 16) rfl rfl (by omega) (by omega) ?_
    refine sm_T_go 1 (c1 := (39, [some (.inr (.inr (some (13, 0)))), some (.inl (S0_.2.2.1 149 0 (S0_.1 13 0 29).toNat))], [.inl 1, .inl (S0_.2.2.1 149 0 (S0_.1 13 0 29).toNat), .inl (S0_.1 13 0 29), .inr (.inr (some (149, 0)))], S0_)) rfl ?_
    refine sm_T_bin (w := (S0_.2.2.1 149 0 (S0_.1 13 0 29).toNat) + 1) rfl (bi_add (by omega) (by omega) (by omega)) ?_
    refine sm_T_iast (n := 16) rfl rfl (by omega) (by omega) ?_
    have hIx6_ : gi (sm_aI S0_ 149 0 (S0_.1 13 0 29).toNat ((S0_.2.2.1 149 0 (S0_.1 13 0 29).toNat) + 1)) := gi_aI hI_ (show 0 ≤ (S0_.2.2.1 149 0 (S0_.1 13 0 29).toNat) + 1 ∧ (S0_.2.2.1 149 0 (S0_.1 13 0 29).toNat) + 1 ≤ 40 from ⟨by omega, by omega⟩)
    have hFx7_ : ai_fr (sx_W vw_348n) S0_ (sm_aI S0_ 149 0 (S0_.1 13 0 29).toNat ((S0_.2.2.1 149 0 (S0_.1 13 0 29).toNat) + 1)) := ai_fr_tr hF_ (ai_fr_aI rfl)
    refine sm_T_go 2 (c1 := (43, [some (.inr (.inr (some (13, 0)))), some (.inl (S0_.2.2.1 149 0 (S0_.1 13 0 29).toNat))], [.inl 2, .inr (.inr (some (13, 0)))], sm_aI S0_ 149 0 (S0_.1 13 0 29).toNat ((S0_.2.2.1 149 0 (S0_.1 13 0 29).toNat) + 1))) rfl ?_
    refine sm_T_cal (d1 := 0) (Q1 := vq_296 2 b_ n_ T_ (.inr p_) (sm_aI S0_ 149 0 (S0_.1 13 0 29).toNat ((S0_.2.2.1 149 0 (S0_.1 13 0 29).toNat) + 1))) rfl rfl (by decide) (vc_296 2 b_ n_ T_ (.inr p_) (sm_aI S0_ 149 0 (S0_.1 13 0 29).toNat ((S0_.2.2.1 149 0 (S0_.1 13 0 29).toNat) + 1)) hIx6_ (by exact t2_ _ _) (by exact g2_ _ _) (by decide)) (fun u_ Sx8_ px11_ => ?_)
    obtain ⟨rfl, vx13_, rfl, px11_⟩ := px11_
    have e43_ := px11_.2 p_ rfl
    have r43_ := px11_.1
    refine sm_T_b0 (a := 0) (z := 12) rfl (fun cx14_ => ?_) (fun cx14_ => ?_)
    · have cx14_ : vx13_ = 0 := of_decide_eq_true cx14_
      have n4_ : lx_kd b_ n_ p_ ≠ 4 := fun z_ => by have := e43_.mpr z_; omega
      refine sm_T_go 2 (c1 := (60, [some (.inr (.inr (some (13, 0)))), some (.inl (S0_.2.2.1 149 0 (S0_.1 13 0 29).toNat))], [.inl 5, .inr (.inr (some (13, 0)))], sm_aI S0_ 149 0 (S0_.1 13 0 29).toNat ((S0_.2.2.1 149 0 (S0_.1 13 0 29).toNat) + 1))) rfl ?_
      refine sm_T_cal (d1 := 0) (Q1 := vq_296 5 b_ n_ T_ (.inr p_) (sm_aI S0_ 149 0 (S0_.1 13 0 29).toNat ((S0_.2.2.1 149 0 (S0_.1 13 0 29).toNat) + 1))) rfl rfl (by decide) (vc_296 5 b_ n_ T_ (.inr p_) (sm_aI S0_ 149 0 (S0_.1 13 0 29).toNat ((S0_.2.2.1 149 0 (S0_.1 13 0 29).toNat) + 1)) hIx6_ (by exact t2_ _ _) (by exact g2_ _ _) (by decide)) (fun u_ Sx15_ px18_ => ?_)
      obtain ⟨rfl, vx20_, rfl, px18_⟩ := px18_
      have e60_ := px18_.2 p_ rfl
      have r60_ := px18_.1
      refine sm_T_b0 (a := 0) (z := 11) rfl (fun cx21_ => ?_) (fun cx21_ => ?_)
      · have cx21_ : vx20_ = 0 := of_decide_eq_true cx21_
        have n7_ : lx_kd b_ n_ p_ ≠ 7 := fun z_ => by have := e60_.mpr z_; omega
        refine sm_T_go 2 (c1 := (77, [some (.inr (.inr (some (13, 0)))), some (.inl (S0_.2.2.1 149 0 (S0_.1 13 0 29).toNat))], [.inl 6, .inr (.inr (some (13, 0)))], sm_aI S0_ 149 0 (S0_.1 13 0 29).toNat ((S0_.2.2.1 149 0 (S0_.1 13 0 29).toNat) + 1))) rfl ?_
        refine sm_T_cal (d1 := 0) (Q1 := vq_296 6 b_ n_ T_ (.inr p_) (sm_aI S0_ 149 0 (S0_.1 13 0 29).toNat ((S0_.2.2.1 149 0 (S0_.1 13 0 29).toNat) + 1))) rfl rfl (by decide) (vc_296 6 b_ n_ T_ (.inr p_) (sm_aI S0_ 149 0 (S0_.1 13 0 29).toNat ((S0_.2.2.1 149 0 (S0_.1 13 0 29).toNat) + 1)) hIx6_ (by exact t2_ _ _) (by exact g2_ _ _) (by decide)) (fun u_ Sx22_ px25_ => ?_)
        obtain ⟨rfl, vx27_, rfl, px25_⟩ := px25_
        have e77_ := px25_.2 p_ rfl
        have r77_ := px25_.1
        refine sm_T_b0 (a := 0) (z := 11) rfl (fun cx28_ => ?_) (fun cx28_ => ?_)
        · have cx28_ : vx27_ = 0 := of_decide_eq_true cx28_
          have n8_ : lx_kd b_ n_ p_ ≠ 8 := fun z_ => by have := e77_.mpr z_; omega
          have k56_ : lx_kd b_ n_ p_ = 5 ∨ lx_kd b_ n_ p_ = 6 := by by_cases z5_ : lx_kd b_ n_ p_ = 5; exact Or.inl z5_; (by_cases z6_ : lx_kd b_ n_ p_ = 6; exact Or.inr z6_; (exfalso; have q9_ := hit_; unfold p_it at q9_; rw [if_neg n4_, if_neg z5_, if_neg z6_, if_neg n7_, if_neg n8_, if_neg k1_] at q9_; cases q9_))
          obtain ⟨uu_, f_, v_, xr, w1_, w2_, w3_, w4_, w5_, w6_, wq_, w7_⟩ := mq_va ht_.1 hA_ hxx_ hpn hit_ k56_ hen_.1 hkk_ hxr_ hec_ hts_
          refine sm_T_go 2 (c1 := (94, [some (.inr (.inr (some (13, 0)))), some (.inl (S0_.2.2.1 149 0 (S0_.1 13 0 29).toNat))], [.inl 61, .inr (.inr (some (13, 0)))], sm_aI S0_ 149 0 (S0_.1 13 0 29).toNat ((S0_.2.2.1 149 0 (S0_.1 13 0 29).toNat) + 1))) rfl ?_
          refine sm_T_cal (d1 := 1) (Q1 := vq_343 61 b_ n_ T_ p_ uu_ f_ v_ (sm_aI S0_ 149 0 (S0_.1 13 0 29).toNat ((S0_.2.2.1 149 0 (S0_.1 13 0 29).toNat) + 1))) rfl rfl (by decide) (vc_343 61 b_ n_ T_ p_ uu_ f_ v_ (sm_aI S0_ 149 0 (S0_.1 13 0 29).toNat ((S0_.2.2.1 149 0 (S0_.1 13 0 29).toNat) + 1)) hIx6_ (by exact t2_ _ _) (by exact g2_ _ _) (by exact w1_) (by exact w2_) (by decide)) (fun u_ Sx29_ px32_ => ?_)
          obtain ⟨rfl, hIx30_, hFx31_, px32_⟩ := px32_
          have hFx33_ : ai_fr (sx_W vw_348n) S0_ Sx29_ := ai_fr_tr hFx7_ (fr_le hFx31_ rfl)
          have g94_ := px32_
          have t94_ := rtab_fr (t2_ _ _) hFx31_ rfl rfl rfl rfl rfl
          have e94_ : r_e1 b_ n_ T_ B_ M_ fr_ Sx29_ := ⟨hen_.1, (hFx31_.1 13 0 28 rfl).trans hen_.2.1, ⟨(hFx31_.1 13 0 29 rfl).trans hen_.2.2.1.1, hen_.2.2.1.2⟩, fun m_ hm_ => re1_fr ((en2_ _ _).2.2.2 m_ hm_) hFx31_ rfl rfl rfl rfl rfl rfl⟩
          have v94_ := rev_fr (ev2_ _ _) hFx31_ rfl rfl
          have G94_ := rgl_fr (gg2_ _ _) hFx31_ rfl rfl rfl rfl rfl rfl
          have m94_ := (hFx31_.1 13 0 27 rfl).trans hm1_
          have u94_ := (hFx31_.1 13 0 53 rfl).trans hR_
          have x94_ := rxn_fr (xn2_ _ _) hFx31_
          have c94_ : Sx29_.1 13 0 52 = S0_.1 13 0 52 ∧ Sx29_.1 13 0 53 = S0_.1 13 0 53 := ⟨hFx31_.1 13 0 52 rfl, hFx31_.1 13 0 53 rfl⟩
          have i94_ : Sx29_.1 13 0 28 = S0_.1 13 0 28 ∧ Sx29_.1 13 0 29 = S0_.1 13 0 29 := ⟨hFx31_.1 13 0 28 rfl, hFx31_.1 13 0 29 rfl⟩
          have j94_ := fun t_ (q9_ : (sx_W vw_343).2.1 t_ = false) (q8_ : t_ ≠ 149) => (fr_arr (t := t_) (i := 0) hFx31_ q9_).trans (s146_ _ _ t_ q8_)
          have l94_ : ∀ j_, Sx29_.2.2.1 149 0 j_ = if j_ = fr_ then (A_.1 M_ : Int) + 1 else S0_.2.2.1 149 0 j_ := fun j_ => (congrFun (fr_arr (t := 149) (i := 0) hFx31_ rfl) j_).trans (s149_ j_)
          refine sm_T_go 1 (c1 := (98, [some (.inr (.inr (some (13, 0)))), some (.inl (S0_.2.2.1 149 0 (S0_.1 13 0 29).toNat))], [.inr (.inr (some (13, 0)))], Sx29_)) rfl ?_
          refine sm_T_cal (d1 := 8) (Q1 := vq_321g b_ n_ T_ F_ I_ B_ X_ M_ (q0_, E_, O_, []) (p_pd b_ n_ A_ M_) (A_.1 M_) fr_ v_ xr Sx29_) rfl rfl (by decide) (vc_321g b_ n_ T_ F_ I_ B_ X_ M_ (q0_, E_, O_, []) (p_pd b_ n_ A_ M_) (A_.1 M_) fr_ v_ xr Sx29_ hIx30_ (by exact t94_) (by exact pd_ok hA_) (by (intro p9_ r9_ h9_; exact pd_ex hA_ hxx_ h9_)) (by exact hX_) (by exact e94_) (by exact hte_) (by exact v94_) (by exact g94_) (by exact m94_) (by exact ⟨rfl, G94_⟩) (by exact w3_)) (fun u_ Sx34_ px37_ => ?_)
          obtain ⟨rfl, hIx35_, hFx36_, px37_⟩ := px37_
          have hFx38_ : ai_fr (sx_W vw_348n) S0_ Sx34_ := ai_fr_tr hFx33_ (fr_le hFx36_ rfl)
          obtain ⟨g98_, G1_, v1_, x1_, x2_, x3_, x4_, x5_, x6_⟩ := px37_
          obtain ⟨y1_, y2_, y3_, y4_, y5_⟩ := w7_ G1_ v1_ x1_ x2_ x3_.2
          have gl_ : q0_.1.length ≤ G1_.length := ev_le hX_ x1_
          have F98_ := hFx36_
          have x98_ := rxn_fr x94_ hFx36_
          have t98_ := rtab_fr t94_ hFx36_ rfl rfl rfl rfl rfl
          refine sm_T_go 2 (c1 := (103, [some (.inr (.inr (some (13, 0)))), some (.inl (S0_.2.2.1 149 0 (S0_.1 13 0 29).toNat))], [.inl (S0_.2.2.1 149 0 (S0_.1 13 0 29).toNat), .inr (.inr (some (13, 0)))], Sx34_)) rfl ?_
          refine sm_T_cal (d1 := 0) (Q1 := vq_342 (S0_.2.2.1 149 0 (S0_.1 13 0 29).toNat) fr_ Sx34_) rfl rfl (by decide) (vc_342 (S0_.2.2.1 149 0 (S0_.1 13 0 29).toNat) fr_ Sx34_ hIx35_ (by exact ⟨(F98_.1 13 0 29 rfl).trans e94_.2.2.1.1, frb_⟩) (by omega)) (fun u_ Sx39_ px42_ => ?_)
          obtain ⟨rfl, hIx40_, hFx41_, px42_⟩ := px42_
          have hFx43_ : ai_fr (sx_W vw_348n) S0_ Sx39_ := ai_fr_tr hFx38_ (fr_le hFx41_ rfl)
          obtain ⟨r103_, l103_⟩ := px42_
          have nt_ : (S0_.2.2.1 149 0 (S0_.1 13 0 29).toNat).toNat = A_.1 M_ := by omega
          rw [nt_] at r103_ l103_
          have F103_ := hFx41_
          have x103_ := rxn_fr x98_ hFx41_
          have t103_ := rtab_fr t98_ hFx41_ rfl rfl rfl rfl rfl
          have g103_ := rg_fr g98_ hFx41_ rfl rfl rfl
          refine sm_T_go 2 (c1 := (109, [some (.inr (.inr (some (13, 0)))), some (.inl (S0_.2.2.1 149 0 (S0_.1 13 0 29).toNat))], [.inl 59, .inr (.inr (some (13, 0)))], Sx39_)) rfl ?_
          refine sm_T_cal (d1 := 3) (Q1 := vq_300 59 b_ n_ T_ (.inr xr.1) Sx39_) rfl rfl (by decide) (vc_300 59 b_ n_ T_ (.inr xr.1) Sx39_ hIx40_ (by exact t103_) (by exact g103_) (by decide)) (fun u_ Sx44_ px47_ => ?_)
          obtain ⟨rfl, hIx45_, hFx46_, px47_⟩ := px47_
          have hFx48_ : ai_fr (sx_W vw_348n) S0_ Sx44_ := ai_fr_tr hFx43_ (fr_le hFx46_ rfl)
          have g109_ := px47_
          have QQ_ : imq (Sx44_.1 13 0 37 - Sx44_.1 13 0 38 ≤ 1000) (rnS Sx44_) := by (intro q9_; have GG_ := rgl_fr (rgl_fr x5_ F103_ rfl rfl rfl rfl rfl rfl) hFx46_ rfl rfl rfl rfl rfl rfl; have l9_ : G1_.length ≤ 1000 := (rgl_b GG_).2.2.2.2.mp q9_; have n9_ := rgl_n GG_ (by omega); have m9_ := rgl_n hg_ (by omega); exact rnS_up hrn_ ((hFx46_.1 13 0 52 rfl).trans ((F103_.1 13 0 52 rfl).trans ((F98_.1 13 0 52 rfl).trans c94_.1))) ((hFx46_.1 13 0 53 rfl).trans ((F103_.1 13 0 53 rfl).trans ((F98_.1 13 0 53 rfl).trans c94_.2))) ((fr_arr hFx46_ rfl).trans ((fr_arr F103_ rfl).trans ((fr_arr F98_ rfl).trans (j94_ 151 rfl (by decide))))) (by omega))
          rw [pb_r rfl, w4_] at g109_
          have a109_ : Sx44_.2.2.1 144 0 = _ := fr_arr hFx46_ rfl
          have rw9_ : G1_.length ≤ 1001 → rwv (Sx44_.2.2.1 144 0) (8 * (40 * fr_ + A_.1 M_)) v1_ := fun z_ k9_ z9_ e9_ => by (have kl_ : k9_ < v1_.length := by by_cases q_ : k9_ < v1_.length; exact q_; (rw [List.getElem?_eq_none (by omega)] at e9_; cases e9_)); (have x8_ := x3_.2); (have q8_ := x6_ z_ k9_ z9_ e9_); rw [Nat.zero_add] at q8_; rw [a109_, r103_ k9_ (by omega)]; exact q8_
          have low9_ : ∀ j_, j_ < 8 * (40 * fr_ + A_.1 M_) ∨ 8 * (40 * fr_ + A_.1 M_) + 8 ≤ j_ → Sx44_.2.2.1 144 0 j_ = _ := fun j_ hj_ => by rw [a109_, l103_ j_ hj_, fr_arr F98_ rfl]
          have PP_ : imq (lx_kd b_ n_ p_ ≠ 8) (pN b_ n_ T_ F_ I_ B_ M_ fr_ (rr_.1.1 M_) q0_.2.2 q1_ E1_ O_ O1_ V1_ rr_.2.2 S0_ Sx44_) ∧ imq (lx_kd b_ n_ p_ = 8) (p8 b_ n_ T_ F_ I_ B_ X_ M_ fr_ (A_.1 M_) q0_ E_ O_ kk_ (rr_.1.1 M_) rr_.2.2 S0_ Sx44_) := by rw [y1_, y2_, y3_, y5_]; exact ⟨fun _ => ⟨g109_, rgl_fr (rgl_fr x5_ F103_ rfl rfl rfl rfl rfl rfl) hFx46_ rfl rfl rfl rfl rfl rfl, by rw [w6_]; exact rev_k v94_ (fun z_ => Nat.le_trans gl_ z_) (by omega) hE8_ (hON_ _ (Nat.le_refl _)) low9_ ((fr_arr hFx46_ rfl).trans ((fr_arr F103_ rfl).trans (fr_arr F98_ rfl))) rw9_, (hFx46_.1 13 0 53 rfl).trans ((F103_.1 13 0 53 rfl).trans ((F98_.1 13 0 53 rfl).trans u94_)), up_8 hE8_ x3_.2, ⟨(hFx46_.1 13 0 28 rfl).trans ((F103_.1 13 0 28 rfl).trans ((F98_.1 13 0 28 rfl).trans i94_.1)), (hFx46_.1 13 0 29 rfl).trans ((F103_.1 13 0 29 rfl).trans ((F98_.1 13 0 29 rfl).trans i94_.2))⟩, ⟨(fr_arr hFx46_ rfl).trans ((fr_arr F103_ rfl).trans ((fr_arr F98_ rfl).trans (j94_ 146 rfl (by decide)))), (fr_arr hFx46_ rfl).trans ((fr_arr F103_ rfl).trans ((fr_arr F98_ rfl).trans (j94_ 147 rfl (by decide)))), (fr_arr hFx46_ rfl).trans ((fr_arr F103_ rfl).trans ((fr_arr F98_ rfl).trans (j94_ 148 rfl (by decide))))⟩, by rw [w6_]; exact fun j_ => (congrFun ((fr_arr hFx46_ rfl).trans ((fr_arr F103_ rfl).trans (fr_arr F98_ rfl))) j_).trans (l94_ j_), fun j_ hj_ => (low9_ j_ (by omega)).trans (congrFun (j94_ 144 rfl (by decide)) j_), by rw [y2_] at y4_; exact y4_, rfl, rfl, rfl, up_B hEB_ w5_⟩, fun z_ => by omega⟩
          have a150_ : Sx44_.2.2.1 150 0 = S0_.2.2.1 150 0 := (fr_arr hFx46_ rfl).trans ((fr_arr F103_ rfl).trans ((fr_arr F98_ rfl).trans (j94_ 150 rfl (by decide))))
          have PX_ : imq (lx_kd b_ n_ p_ ≠ 8) (pNx F_ I_ B_ X_ Y_ M_ fr_ (rr_.1.1 M_) kk_ q0_ E_ O_ x0_ q1_ E1_ S0_ Sx44_) ∧ imq (lx_kd b_ n_ p_ = 8) (p8x kk_ q0_ x0_ S0_ Sx44_) := by rw [y1_, y2_, w6_]; exact ⟨fun _ => ⟨rbt_i hrb_ wq_.2 a150_ (fun s_ hs_ => up1_o (by omega)), fun j_ _ => congrFun a150_ j_, fun q9_ => by rw [ncd_pl kk_.reverse _ _ (wpl_r wq_.1)]; exact rxn_fr x103_ hFx46_⟩, fun z_ => by omega⟩
          refine sm_T_rv rfl ⟨_, _, rfl, rfl, hIx45_, hFx48_, ?_⟩
          exact ⟨⟨PP_, QQ_⟩, PX_⟩
        · have cx28_ : ¬ (vx27_ = 0) := of_decide_eq_false cx28_
          have k8_ : lx_kd b_ n_ p_ = 8 := e77_.mp (by omega)
          obtain ⟨d_, p1_, p2_, p3_, p4_, p5_, pe_, l_, w1_, w2_, w3_, w4_, w5_, w6_, w7_, w8_, w9_, wa_, wb, wc_, wd_, we_, wf_, wg_, wh_⟩ := mk_us hit_ k8_ hen_.1 hkk_ hxr_ hec_ hts_
          have wq_ := mq_us (K_ := A_.1 M_) ht_.1 hA_ hen_.1 hxx_ hte_ hpn w5_ w6_ w7_ w8_ w9_ wa_
          refine sm_T_go 2 (c1 := (85, [some (.inr (.inr (some (13, 0)))), some (.inl (S0_.2.2.1 149 0 (S0_.1 13 0 29).toNat))], [.inl (S0_.2.2.1 149 0 (S0_.1 13 0 29).toNat), .inr (.inr (some (13, 0)))], sm_aI S0_ 149 0 (S0_.1 13 0 29).toNat ((S0_.2.2.1 149 0 (S0_.1 13 0 29).toNat) + 1))) rfl ?_
          refine sm_T_cal (d1 := 9) (Q1 := vq_345 (S0_.2.2.1 149 0 (S0_.1 13 0 29).toNat) b_ n_ T_ F_ I_ A_ B_ X_ M_ fr_ q0_ E_ O_ p_ d_ p1_ p2_ p3_ p4_ p5_ pe_ rr_.2.2 l_ (sm_aI S0_ 149 0 (S0_.1 13 0 29).toNat ((S0_.2.2.1 149 0 (S0_.1 13 0 29).toNat) + 1))) rfl rfl (by decide) (vc_345 (S0_.2.2.1 149 0 (S0_.1 13 0 29).toNat) b_ n_ T_ F_ I_ A_ B_ X_ M_ fr_ q0_ E_ O_ p_ d_ p1_ p2_ p3_ p4_ p5_ pe_ rr_.2.2 l_ (sm_aI S0_ 149 0 (S0_.1 13 0 29).toNat ((S0_.2.2.1 149 0 (S0_.1 13 0 29).toNat) + 1)) hIx6_ (by exact t2_ _ _) (by exact g2_ _ _) (by exact hm1_) (by exact en2_ _ _) (by exact hA_) (by exact hxx_) (by exact hX_) (by exact hte_) (by exact ev2_ _ _) (by exact gg2_ _ _) (by exact ⟨w1_, by omega, t149_, w2_⟩) (by exact w3_) (by exact w5_) (by exact w6_) (by exact w7_) (by exact w8_) (by exact w9_) (by exact wa_) (by exact wb) (by exact wc_) (by exact wd_) (by exact we_) (by exact wf_) (by exact hE8_)) (fun u_ Sx49_ px52_ => ?_)
          obtain ⟨rfl, hIx50_, hFx51_, px52_⟩ := px52_
          have hFx53_ : ai_fr (sx_W vw_348n) S0_ Sx49_ := ai_fr_tr hFx7_ (fr_le hFx51_ rfl)
          obtain ⟨G_, o_, i9_, v1_, v2_, v3_, vz_, v4_, v5_, v6_, v7_, v8_⟩ := px52_
          rw [ex9_, htd_] at v6_
          have QQ_ : imq (Sx49_.1 13 0 37 - Sx49_.1 13 0 38 ≤ 1000) (rnS Sx49_) := by (intro q9_; have l9_ : G_.length ≤ 1000 := (rgl_b v4_).2.2.2.2.mp q9_; have l8_ : q0_.1.length ≤ G_.length := ev_le hX_ v1_; have n9_ := rgl_n v4_ (by omega); have m9_ := rgl_n hg_ (by omega); exact rnS_up hrn_ (hFx51_.1 13 0 52 rfl) (hFx51_.1 13 0 53 rfl) ((fr_arr (t := 151) hFx51_ rfl).trans (s146_ _ _ _ (by decide))) (by omega))
          have PP_ : imq (lx_kd b_ n_ p_ ≠ 8) (pN b_ n_ T_ F_ I_ B_ M_ fr_ (rr_.1.1 M_) q0_.2.2 q1_ E1_ O_ O1_ V1_ rr_.2.2 S0_ Sx49_) ∧ imq (lx_kd b_ n_ p_ = 8) (p8 b_ n_ T_ F_ I_ B_ X_ M_ fr_ (A_.1 M_) q0_ E_ O_ kk_ (rr_.1.1 M_) rr_.2.2 S0_ Sx49_) := ⟨fun z_ => absurd k8_ z_, fun _ => ⟨d_, _, G_, o_, i9_, wg_, w1_, w2_, wh_, w4_, w3_, v1_, v2_, v3_, vz_, wf_, v4_, v5_, v6_, fun j_ hj_ => (v7_ j_ hj_).trans (congrFun (s146_ _ _ _ (by decide)) j_), v8_, hFx51_.1 13 0 53 rfl⟩⟩
          have PX_ : imq (lx_kd b_ n_ p_ ≠ 8) (pNx F_ I_ B_ X_ Y_ M_ fr_ (rr_.1.1 M_) kk_ q0_ E_ O_ x0_ q1_ E1_ S0_ Sx49_) ∧ imq (lx_kd b_ n_ p_ = 8) (p8x kk_ q0_ x0_ S0_ Sx49_) := ⟨fun z_ => absurd k8_ z_, fun _ => ⟨(fr_arr (t := 150) (i := 0) hFx51_ rfl).trans (s146_ _ _ _ (by decide)), by rw [wg_]; exact wq_, fun q9_ => rxn_fr (xn2_ _ _) hFx51_⟩⟩
          refine sm_T_go 1 (c1 := (112, [some (.inr (.inr (some (13, 0)))), some (.inl (S0_.2.2.1 149 0 (S0_.1 13 0 29).toNat))], [], Sx49_)) rfl ?_
          refine sm_T_rv rfl ⟨_, _, rfl, rfl, hIx50_, hFx53_, ?_⟩
          exact ⟨⟨PP_, QQ_⟩, PX_⟩
      · have cx21_ : ¬ (vx20_ = 0) := of_decide_eq_false cx21_
        have k7_ : lx_kd b_ n_ p_ = 7 := e60_.mp (by omega)
        obtain ⟨uu_, f_, wd_, w1_, w2_, w3_, w4_, w5_, w6_, w7_, w8_, w9_, wa_, wz_⟩ := mk_re hit_ k7_ hen_.1 hkk_ hxr_ hec_ hts_
        have wq_ := mq_re hit_ k7_ hkk_
        have w4a := w4_.1
        have w4b := w4_.2
        refine sm_T_go 2 (c1 := (68, [some (.inr (.inr (some (13, 0)))), some (.inl (S0_.2.2.1 149 0 (S0_.1 13 0 29).toNat))], [.inl (S0_.2.2.1 149 0 (S0_.1 13 0 29).toNat), .inr (.inr (some (13, 0)))], sm_aI S0_ 149 0 (S0_.1 13 0 29).toNat ((S0_.2.2.1 149 0 (S0_.1 13 0 29).toNat) + 1))) rfl ?_
        refine sm_T_cal (d1 := 2) (Q1 := vq_344n (S0_.2.2.1 149 0 (S0_.1 13 0 29).toNat) b_ n_ T_ p_ uu_ f_ rr_.2.2 B_ M_ (A_.1 M_) fr_ wd_ q0_.2.1 I_ (B_.2.2.2.2 (40 * M_ + A_.1 M_)) x0_ (sm_aI S0_ 149 0 (S0_.1 13 0 29).toNat ((S0_.2.2.1 149 0 (S0_.1 13 0 29).toNat) + 1))) rfl rfl (by decide) (vc_344n (S0_.2.2.1 149 0 (S0_.1 13 0 29).toNat) b_ n_ T_ p_ uu_ f_ rr_.2.2 B_ M_ (A_.1 M_) fr_ wd_ q0_.2.1 I_ (B_.2.2.2.2 (40 * M_ + A_.1 M_)) x0_ (sm_aI S0_ 149 0 (S0_.1 13 0 29).toNat ((S0_.2.2.1 149 0 (S0_.1 13 0 29).toNat) + 1)) hIx6_ (by exact t2_ _ _) (by exact g2_ _ _) (by exact w1_) (by exact w2_) (by exact ⟨fr1_, frb_⟩) (by exact ⟨t149_, w3_, B40_, M15_⟩) (by exact hen_.2.1) (by exact ⟨by rw [s146_ _ _ _ (by decide), ((hen_.2.2.2 M_ (Nat.le_refl _)).2 (A_.1 M_) w3_).2.2.1]; exact w4a, w4b⟩) (by exact ⟨hR_, w5_⟩) (by exact hms_) (by rw [s146_ _ _ _ (by decide)]; exact hI1_) (by exact rn2_ _ _) (by (have q9_ := (rgl_b hg_).2.2.1; rw [w6_] at hRF_; have q8_ : 1 + I_ + (q0_.2.1 + wd_) ≤ F_ := hRF_; show 1 + (I_ : Int) + q0_.2.1 + wd_ ≤ S0_.1 13 0 37; omega)) (by (rw [s146_ _ _ _ (by decide)]; exact ((hen_.2.2.2 M_ (Nat.le_refl _)).2 (A_.1 M_) w3_).2.2.2.1)) (by exact xn2_ _ _)) (fun u_ Sx54_ px57_ => ?_)
        obtain ⟨rfl, hIx55_, hFx56_, px57_⟩ := px57_
        have hFx58_ : ai_fr (sx_W vw_348n) S0_ Sx54_ := ai_fr_tr hFx7_ (fr_le hFx56_ rfl)
        obtain ⟨g68_, u68_, b68_, v68_, l68_, rn68_, xn68_⟩ := px57_
        have b69_ : ∀ j_, Sx54_.2.2.1 150 0 j_ = if j_ = 40 * fr_ + A_.1 M_ then (q0_.2.1 : Int) else S0_.2.2.1 150 0 j_ := fun j_ => (b68_ j_).trans (by rw [s146_ _ _ 150 (by decide)])
        have QQ_ : imq (Sx54_.1 13 0 37 - Sx54_.1 13 0 38 ≤ 1000) (rnS Sx54_) := fun _ => rn68_
        have PP_ : imq (lx_kd b_ n_ p_ ≠ 8) (pN b_ n_ T_ F_ I_ B_ M_ fr_ (rr_.1.1 M_) q0_.2.2 q1_ E1_ O_ O1_ V1_ rr_.2.2 S0_ Sx54_) ∧ imq (lx_kd b_ n_ p_ = 8) (p8 b_ n_ T_ F_ I_ B_ X_ M_ fr_ (A_.1 M_) q0_ E_ O_ kk_ (rr_.1.1 M_) rr_.2.2 S0_ Sx54_) := by rw [w6_, w7_, w8_, wz_]; exact ⟨fun _ => ⟨g68_, rgl_fr (gg2_ _ _) hFx56_ rfl rfl rfl rfl rfl rfl, by rw [wa_]; exact rev_k (ev2_ _ _) id (by omega) hE8_ (hON_ _ (Nat.le_refl _)) l68_ (fr_arr hFx56_ rfl) (fun _ => v68_), u68_, up_8 hE8_ (by rw [r_bt_l]; omega), ⟨hFx56_.1 13 0 28 rfl, hFx56_.1 13 0 29 rfl⟩, ⟨(fr_arr hFx56_ rfl).trans (s146_ _ _ _ (by decide)), (fr_arr hFx56_ rfl).trans (s146_ _ _ _ (by decide)), (fr_arr hFx56_ rfl).trans (s146_ _ _ _ (by decide))⟩, by rw [wa_]; exact fun j_ => (congrFun (fr_arr (t := 149) (i := 0) hFx56_ rfl) j_).trans (s149_ j_), fun j_ hj_ => (l68_ j_ (by omega)).trans (congrFun (s146_ _ _ _ (by decide)) j_), by rw [w7_] at w9_; exact w9_, rfl, rfl, rfl, up_B hEB_ w3_⟩, fun z_ => by omega⟩
        have PX_ : imq (lx_kd b_ n_ p_ ≠ 8) (pNx F_ I_ B_ X_ Y_ M_ fr_ (rr_.1.1 M_) kk_ q0_ E_ O_ x0_ q1_ E1_ S0_ Sx54_) ∧ imq (lx_kd b_ n_ p_ = 8) (p8x kk_ q0_ x0_ S0_ Sx54_) := by rw [w6_, w7_, wa_]; exact ⟨fun _ => ⟨rbt_k hrb_ w4b.1 b69_, fun j_ hj_ => by rw [b69_, if_neg (by omega)], fun q9_ => by rw [nx_re wq_ B40_ w3_ hec_, show (B_.2.2.2.1 (40 * M_ + A_.1 M_)).toNat = wd_ by omega]; exact xn68_⟩, fun z_ => by omega⟩
        refine sm_T_go 1 (c1 := (112, [some (.inr (.inr (some (13, 0)))), some (.inl (S0_.2.2.1 149 0 (S0_.1 13 0 29).toNat))], [], Sx54_)) rfl ?_
        refine sm_T_rv rfl ⟨_, _, rfl, rfl, hIx55_, hFx58_, ?_⟩
        exact ⟨⟨PP_, QQ_⟩, PX_⟩
    · have cx14_ : ¬ (vx13_ = 0) := of_decide_eq_false cx14_
      have k4_ : lx_kd b_ n_ p_ = 4 := e43_.mp (by omega)
      obtain ⟨uu_, f_, w1_, w2_, w3_, w4_, w5_, w6_, w7_, wz_⟩ := mk_in hit_ k4_ hkk_ hxr_ hec_ hts_
      have wq_ := mq_in hit_ k4_ hkk_ hxr_
      refine sm_T_go 2 (c1 := (52, [some (.inr (.inr (some (13, 0)))), some (.inl (S0_.2.2.1 149 0 (S0_.1 13 0 29).toNat))], [.inl 59, .inr (.inr (some (13, 0)))], sm_aI S0_ 149 0 (S0_.1 13 0 29).toNat ((S0_.2.2.1 149 0 (S0_.1 13 0 29).toNat) + 1))) rfl ?_
      refine sm_T_cal (d1 := 1) (Q1 := vq_343 59 b_ n_ T_ p_ uu_ f_ rr_.2.2 (sm_aI S0_ 149 0 (S0_.1 13 0 29).toNat ((S0_.2.2.1 149 0 (S0_.1 13 0 29).toNat) + 1))) rfl rfl (by decide) (vc_343 59 b_ n_ T_ p_ uu_ f_ rr_.2.2 (sm_aI S0_ 149 0 (S0_.1 13 0 29).toNat ((S0_.2.2.1 149 0 (S0_.1 13 0 29).toNat) + 1)) hIx6_ (by exact t2_ _ _) (by exact g2_ _ _) (by exact w1_) (by exact w2_) (by decide)) (fun u_ Sx59_ px62_ => ?_)
      obtain ⟨rfl, hIx60_, hFx61_, px62_⟩ := px62_
      have hFx63_ : ai_fr (sx_W vw_348n) S0_ Sx59_ := ai_fr_tr hFx7_ (fr_le hFx61_ rfl)
      have QQ_ : imq (Sx59_.1 13 0 37 - Sx59_.1 13 0 38 ≤ 1000) (rnS Sx59_) := fun _ => rnS_fr (rn2_ _ _) hFx61_ rfl rfl rfl rfl
      have PP_ : imq (lx_kd b_ n_ p_ ≠ 8) (pN b_ n_ T_ F_ I_ B_ M_ fr_ (rr_.1.1 M_) q0_.2.2 q1_ E1_ O_ O1_ V1_ rr_.2.2 S0_ Sx59_) ∧ imq (lx_kd b_ n_ p_ = 8) (p8 b_ n_ T_ F_ I_ B_ X_ M_ fr_ (A_.1 M_) q0_ E_ O_ kk_ (rr_.1.1 M_) rr_.2.2 S0_ Sx59_) := by rw [w3_, w4_, w5_, wz_]; exact ⟨fun _ => ⟨px62_, rgl_fr (gg2_ _ _) hFx61_ rfl rfl rfl rfl rfl rfl, by rw [w7_]; exact rev_i (rev_fr (ev2_ _ _) hFx61_ rfl rfl) id (hON_ _ (Nat.le_refl _)), (hFx61_.1 13 0 53 rfl).trans hR_, hE8_, ⟨hFx61_.1 13 0 28 rfl, hFx61_.1 13 0 29 rfl⟩, ⟨(fr_arr hFx61_ rfl).trans (s146_ _ _ _ (by decide)), (fr_arr hFx61_ rfl).trans (s146_ _ _ _ (by decide)), (fr_arr hFx61_ rfl).trans (s146_ _ _ _ (by decide))⟩, by rw [w7_]; exact fun j_ => (congrFun (fr_arr (t := 149) (i := 0) hFx61_ rfl) j_).trans (s149_ j_), fun j_ _ => congrFun ((fr_arr hFx61_ rfl).trans (s146_ _ _ _ (by decide))) j_, w6_, rfl, rfl, rfl, hEB_⟩, fun z_ => by omega⟩
      have a150_ : Sx59_.2.2.1 150 0 = S0_.2.2.1 150 0 := (fr_arr (t := 150) (i := 0) hFx61_ rfl).trans (s146_ _ _ _ (by decide))
      have PX_ : imq (lx_kd b_ n_ p_ ≠ 8) (pNx F_ I_ B_ X_ Y_ M_ fr_ (rr_.1.1 M_) kk_ q0_ E_ O_ x0_ q1_ E1_ S0_ Sx59_) ∧ imq (lx_kd b_ n_ p_ = 8) (p8x kk_ q0_ x0_ S0_ Sx59_) := by rw [w3_, w4_, w7_, wq_.1]; exact ⟨fun _ => ⟨rbt_i hrb_ ⟨by rw [wq_.2]; decide, by rw [wq_.2]; decide⟩ a150_ (fun s_ _ => rfl), fun j_ _ => congrFun a150_ j_, fun q9_ => rxn_fr (xn2_ _ _) hFx61_⟩, fun z_ => by omega⟩
      refine sm_T_go 1 (c1 := (112, [some (.inr (.inr (some (13, 0)))), some (.inl (S0_.2.2.1 149 0 (S0_.1 13 0 29).toNat))], [], Sx59_)) rfl ?_
      refine sm_T_rv rfl ⟨_, _, rfl, rfl, hIx60_, hFx63_, ?_⟩
      exact ⟨⟨PP_, QQ_⟩, PX_⟩
  · have cx3_ : ¬ ((S0_.2.2.1 119 0 (S0_.1 13 0 9).toNat) ≠ 1) := of_decide_eq_false cx3_
    have k1_ : lx_kd b_ n_ p_ = 1 := rk_.2.1.mp (by rw [← ra_.1]; rw [e4_] at cx3_; omega)
    obtain ⟨s_, r1_, r2_, xr, w1_, w2_, w3_, w4_, w5_, w6_, w7_, wz_, wq_, w8_⟩ := mq_ne ht_.1 hen_.1 hxx_ hte_ hpn hit_ k1_ hA_ hkk_ hec_
    refine sm_T_go 1 (c1 := (14, [some (.inr (.inr (some (13, 0)))), none], [.inr (.inr (some (13, 0)))], S0_)) rfl ?_
    refine sm_T_cal (d1 := 9) (Q1 := vq_347n b_ n_ T_ F_ I_ A_ B_ X_ M_ fr_ q0_ E_ O_ p_ s_ r1_ r2_ xr rr_.2.2 (S0_.2.2.1 150 0 (40 * fr_ + s_)).toNat q0_.2.1 x0_ S0_) rfl rfl (by decide) (vc_347n b_ n_ T_ F_ I_ A_ B_ X_ M_ fr_ q0_ E_ O_ p_ s_ r1_ r2_ xr rr_.2.2 (S0_.2.2.1 150 0 (40 * fr_ + s_)).toNat q0_.2.1 x0_ S0_ hI_ (by exact ht_) (by exact hx_) (by exact hm1_) (by exact hen_) (by exact hA_) (by exact hxx_) (by exact hX_) (by exact hte_) (by exact hev_) (by exact hg_) (by exact k1_) (by exact w1_) (by exact w2_) (by exact w3_) (by exact w4_) (by exact w5_) (by exact w6_) (by (have q9_ : 0 ≤ S0_.2.2.1 150 0 (40 * fr_ + s_) ∧ S0_.2.2.1 150 0 (40 * fr_ + s_) ≤ 6 := hI_.2 150 0 _; omega)) (by exact hrn_) (by exact hlw_) (by exact hXw_) (by (have q9_ : q0_.2.1 ≤ q1_.2.1 := ev_R hXw_ hec_; omega)) (by (rw [wz_.1]; exact (hxx_.2.2 M_ s_ (Nat.le_refl _) wz_.2).2.1)) (by exact hx0_)) (fun u_ Sx64_ px67_ => ?_)
    obtain ⟨rfl, hIx65_, hFx66_, px67_⟩ := px67_
    have hFx68_ : ai_fr (sx_W vw_348n) S0_ Sx64_ := ai_fr_tr hF_ (fr_le hFx66_ rfl)
    obtain ⟨⟨g14_, G_, v9_, d1_, d2_, d3_, d4_, d5_⟩, QQ_⟩ := px67_
    obtain ⟨rg9_, yg9_, rg1_, rg2_⟩ := hrb_ s_ wz_.2 wq_.2.2
    have rgn_ : (S0_.2.2.1 150 0 (40 * fr_ + s_)).toNat = rg9_ := by omega
    rw [rgn_] at d5_
    have s40_ : s_ < 40 := by (have s41_ := wz_.2; omega)
    obtain ⟨x1_, x2_, x3_, x4_⟩ := w8_ G_ v9_ d1_
    have gl_ : q0_.1.length ≤ G_.length := ev_le hX_ d1_
    have PP_ : imq (lx_kd b_ n_ p_ ≠ 8) (pN b_ n_ T_ F_ I_ B_ M_ fr_ (rr_.1.1 M_) q0_.2.2 q1_ E1_ O_ O1_ V1_ rr_.2.2 S0_ Sx64_) ∧ imq (lx_kd b_ n_ p_ = 8) (p8 b_ n_ T_ F_ I_ B_ X_ M_ fr_ (A_.1 M_) q0_ E_ O_ kk_ (rr_.1.1 M_) rr_.2.2 S0_ Sx64_) := by rw [x1_, x2_, x3_, x4_, w7_]; exact ⟨fun _ => ⟨g14_, d4_, rev_m (rev_fr hev_ hFx66_ rfl rfl) (fun z_ => Nat.le_trans gl_ z_), (hFx66_.1 13 0 53 rfl).trans hR_, hE8_, ⟨hFx66_.1 13 0 28 rfl, hFx66_.1 13 0 29 rfl⟩, ⟨fr_arr hFx66_ rfl, fr_arr hFx66_ rfl, fr_arr hFx66_ rfl⟩, fun j_ => (congrFun (fr_arr (t := 149) (i := 0) hFx66_ rfl) j_).trans (by by_cases z_ : j_ = fr_; (rw [if_pos z_, z_]; exact htd_); (rw [if_neg z_])), fun j_ _ => congrFun (fr_arr hFx66_ rfl) j_, hts_, rfl, rfl, rfl, hEB_⟩, fun z_ => by omega⟩
    have PX_ : imq (lx_kd b_ n_ p_ ≠ 8) (pNx F_ I_ B_ X_ Y_ M_ fr_ (rr_.1.1 M_) kk_ q0_ E_ O_ x0_ q1_ E1_ S0_ Sx64_) ∧ imq (lx_kd b_ n_ p_ = 8) (p8x kk_ q0_ x0_ S0_ Sx64_) := by rw [x1_, x2_, w7_]; exact ⟨fun _ => ⟨rbt_eq hrb_ (fr_arr hFx66_ rfl), fun j_ _ => congrFun (fr_arr (t := 150) (i := 0) hFx66_ rfl) j_, fun q9_ => by rw [nx_ne wq_.1 wq_.2.1 s40_ d1_ rg1_ hec_]; exact d5_ q9_⟩, fun z_ => by omega⟩
    refine sm_T_rv rfl ⟨_, _, rfl, rfl, hIx65_, hFx68_, ?_⟩
    exact ⟨⟨PP_, QQ_⟩, PX_⟩
end
/-! 99.ztQ -/
section
/-! next values and beginning: the graph of the reference; written by wip/p55/gen/vg -/

/-! next values and beginning: the_ graph -/
def nx0 : gN := (fun _ => 0, 0)
theorem giN_0 {b_ : Nat → Int} {n_ T_ F_ I_ tp_ : Nat} {B_ : pA} {N_ : Nat → Nat} {C_ : Nat → List Int} {z_ : gQ × gE} {zx_ : gN} {S0_ S_ : sm_S} (hq_ : gq0 tp_ F_ S0_ S_) (hF_ : 1 ≤ F_ ∧ F_ ≤ 13) (hA_ : a_ok b_ n_ B_ tp_) (hg_ : gmd b_ n_ T_ B_ N_ C_ tp_ S0_) (hz_ : exm F_ I_ B_ C_ 16 tp_ ([], 0, 1) (ein B_ tp_) = some z_) (hzx_ : nxm F_ I_ B_ C_ 16 tp_ ([], 0, 1) (ein B_ tp_) nx0 = zx_) (h52_ : S_.1 13 0 52 = 0) (hsu_ : 1 + su (t_in B_ 0 tp_) (B_.1 tp_) ≤ (F_ : Int)) (hr_ : ∀ s_, s_ < 40 → rwv (S_.2.2.1 144 0) (8 * s_) (ein B_ tp_ s_)) : ∃ mu_, mu_ < 900000 ∧ giM b_ n_ T_ F_ I_ tp_ B_ N_ (exm F_ I_ B_ C_ 16) (nxm F_ I_ B_ C_ 16) z_ zx_ mu_ S_ := by
  obtain ⟨q1_, q2_, q3_, q4_, q5_, q6_, q7_, q8_, q9_, qa_, qb_⟩ := hq_
  obtain ⟨f_, A_, c0_, u_, ce_, i_, h1_, h2_, h3_, h4_, h5_⟩ := hg_
  obtain ⟨O'_, x1_⟩ := exm_ev hz_
  have x2_ : nxm F_ I_ B_ C_ 16 tp_ ([], 0, 1) (ein B_ tp_) nx0 = ncd F_ I_ B_ (exm F_ I_ B_ C_ 16) (nxm F_ I_ B_ C_ 16) tp_ (C_ tp_) (([], 0, 1), ein B_ tp_, fun _ => none, []) nx0 := nxm_ev (f_ := 15) hz_
  have LW_ : lwG F_ ([], 0, 1) (ein B_ tp_) (fun _ => none) := fun _ => ⟨⟨hF_.1, fun k_ x_ y_ e_ => by simp at e_⟩, (fun a_ => ein_w hA_ hsu_ (Nat.le_add_right _ _) a_), (fun a_ o_ e_ => by cases e_), (fun v_ hv_ => by cases hv_)⟩
  refine ⟨(300 - 1) * 3000 + (1301 - u_) + 0, by omega, 0, tp_, f_, A_, c0_, u_, ce_, (C_ tp_).reverse, ein B_ tp_, fun _ => none, ([], 0, 1), z_.1, z_.2, O'_, 0, fun x_ => x_, nx0, ⟨⟨q3_, q2_, q5_, q9_, by rw [h2_]; exact qa_⟩, ⟨q6_, i_, q1_.trans h5_, h4_⟩, h1_, h3_, by omega, ?_, (ein_8 hA_).1, (ein_8 hA_).2, fun _ _ => rfl, (fun s_ o_ e_ => by cases e_), ⟨?_, LW_⟩, rgl_0 q8_ q7_ hF_ qb_, by show (1 : Nat) ≤ 201; decide, x1_, ⟨rfl, rfl⟩, rfl⟩, ⟨rfl, rfl, rfl⟩, ?_, ?_, ?_⟩
  · rw [h2_]; exact tst_0 (ein_o hA_)
  · rw [h2_]
    exact fun _ => ⟨fun s_ hs_ => by rw [show 8 * (40 * 0 + s_) = 8 * s_ by omega]; exact hr_ s_ hs_, fun s_ o_ hs_ => absurd hs_ (Nat.not_lt_zero _)⟩
  · rw [h2_]; exact rbt_0
  · rw [List.reverse_reverse, ← hzx_]; exact x2_.symm
  · exact fun _ => ⟨h52_, fun i_ hi_ => absurd hi_ (Nat.not_lt_zero _)⟩
/-! M_.makeGraph -/
def vw_349n : sx_Wl := ([(13, 9), (13, 10), (13, 11), (13, 27), (13, 28), (13, 29), (13, 32), (13, 33), (13, 34), (13, 37), (13, 38), (13, 52), (13, 53)], [136, 137, 138, 139, 140, 141, 142, 143, 144, 145, 146, 147, 148, 149, 150, 151, 152], [])
def vq_349n (b_ : Nat → Int) (n_ : Nat) (T_ : Nat) (F_ : Nat) (I_ : Nat) (Rg_ : Nat) (tp_ : Nat) (B_ : pA) (N_ : Nat → Nat) (C_ : Nat → List Int) (z_ : gQ × gE) (zx_ : gN) (S0_ : sm_S) (u_ : Option sm_V) (S1_ : sm_S) : Prop := u_ = none ∧ gi S1_ ∧ ai_fr (sx_W vw_349n) S0_ S1_ ∧ (imq (z_.1.1.length ≤ 1000) (S1_.1 13 0 10 = 0 ∧ rgl F_ z_.1.1 S1_ ∧ (rnS S1_ ∧ S1_.1 13 0 53 = (z_.1.2.1 : Int) ∧ rxn z_.1.2.1 zx_ S1_ ∧ ∀ s9_, s9_ < 40 → rwv (S1_.2.2.1 144 0) (8 * s9_) (z_.2 s9_))) ∧ imq (1000 < z_.1.1.length) (S1_.1 13 0 10 = 23 ∧ S1_.1 13 0 11 = S0_.2.2.1 120 0 (S0_.2.2.1 124 0 tp_).toNat))
set_option maxHeartbeats 3000000 in
set_option maxRecDepth 20000 in
theorem vl_349n {sc_ : Nat × (Nat → Int)} (b_ : Nat → Int) (n_ : Nat) (T_ : Nat) (F_ : Nat) (I_ : Nat) (Rg_ : Nat) (tp_ : Nat) (B_ : pA) (N_ : Nat → Nat) (C_ : Nat → List Int) (z_ : gQ × gE) (zx_ : gN) (S0_ : sm_S) (ht_ : rtab b_ n_ T_ S0_) (hf_ : (S0_.1 13 0 10) = 0) (hmo_ : (S0_.1 13 0 12) = (tp_ : Int) + 1 ∧ tp_ ≤ 15) (hre_ : ∀ m_, m_ ≤ tp_ → re1 b_ n_ T_ B_ m_ S0_ ∧ a_ok b_ n_ B_ m_) (hgm_ : ∀ m_, m_ ≤ tp_ → gmd b_ n_ T_ B_ N_ C_ m_ S0_) (hI1_ : S0_.2.2.1 132 0 tp_ = (I_ : Int)) (hR1_ : S0_.2.2.1 134 0 tp_ = (Rg_ : Int)) (hFn_ : F_ = 1 + I_ + Rg_ ∧ I_ + Rg_ ≤ 12) (hsu_ : su (t_in B_ 0 tp_) (B_.1 tp_) = (I_ : Int)) (hz_ : exm F_ I_ B_ C_ 16 tp_ ([], 0, 1) (ein B_ tp_) = some z_) (hzR_ : z_.1.2.1 = Rg_) (hzx_ : nxm F_ I_ B_ C_ 16 tp_ ([], 0, 1) (ein B_ tp_) nx0 = zx_) : ∀ nn_ : Nat, (∀ (top_ : Int) (i_ : Int) (S_ : sm_S), gi S_ → ai_fr (sx_W vw_349n) S0_ S_ → ((0 ≤ i_ ∧ i_ ≤ 4096 ∧ top_ = (tp_ : Int)) ∧ (∀ j_, j_ < i_.toNat → S_.2.2.1 142 0 j_ = 0) ∧ (S_.1 13 0 27 = 1 ∧ S_.1 13 0 29 = 0 ∧ S_.1 13 0 37 = (F_ : Int) ∧ S_.1 13 0 38 = (F_ : Int) ∧ S_.1 13 0 10 = 0) ∧ True) → ((2000000 - i_).toNat) < nn_ → sm_T (mt_P sc_) 11 349 (46, [some (.inr (.inr (some (13, 0)))), some (.inl top_), some (.inl i_), none, none], [], S_) (fun ro9_ => ∃ u_ S1_, ro9_ = (.inl u_, S1_, 0) ∧ vq_349n b_ n_ T_ F_ I_ Rg_ tp_ B_ N_ C_ z_ zx_ S0_ u_ S1_)) ∧ (∀ (top_ : Int) (nd_ : Int) (k_ : Int) (S_ : sm_S), gi S_ → ai_fr (sx_W vw_349n) S0_ S_ → ((0 ≤ k_ ∧ k_ ≤ (B_.1 tp_ : Int) ∧ top_ = (tp_ : Int) ∧ nd_ = 1 + su (t_in B_ 0 tp_) k_.toNat) ∧ (∀ s9_ : Nat, s9_ < k_.toNat → rwv (S_.2.2.1 144 0) (8 * s9_) (ein B_ tp_ s9_) ∧ (ein B_ tp_ s9_).length ≤ 8) ∧ (gq0 tp_ F_ S0_ S_) ∧ (S_.1 13 0 52 = 0) ∧ True) → ((1000000 + 20 * (50 - k_) + 10).toNat) < nn_ → sm_T (mt_P sc_) 11 349 (87, [some (.inr (.inr (some (13, 0)))), some (.inl top_), some (.inl nd_), some (.inl k_), none], [], S_) (fun ro9_ => ∃ u_ S1_, ro9_ = (.inl u_, S1_, 0) ∧ vq_349n b_ n_ T_ F_ I_ Rg_ tp_ B_ N_ C_ z_ zx_ S0_ u_ S1_)) ∧ (∀ (top_ : Int) (nd_ : Int) (k_ : Int) (j_ : Int) (S_ : sm_S), gi S_ → ai_fr (sx_W vw_349n) S0_ S_ → ((0 ≤ k_ ∧ k_ < (B_.1 tp_ : Int) ∧ top_ = (tp_ : Int) ∧ nd_ = 1 + su (t_in B_ 0 tp_) k_.toNat + j_ ∧ 0 ≤ j_ ∧ j_ ≤ B_.2.2.2.1 (40 * tp_ + k_.toNat) ∧ (0 < j_ → B_.2.2.1 (40 * tp_ + k_.toNat) = 0)) ∧ (∀ s9_ : Nat, s9_ < k_.toNat → rwv (S_.2.2.1 144 0) (8 * s9_) (ein B_ tp_ s9_) ∧ (ein B_ tp_ s9_).length ≤ 8) ∧ (rwv (S_.2.2.1 144 0) (8 * k_.toNat) (r_bt 0 (su (t_in B_ 0 tp_) k_.toNat).toNat j_.toNat)) ∧ (gq0 tp_ F_ S0_ S_) ∧ (S_.1 13 0 52 = 0) ∧ True) → ((1000000 + 20 * (50 - k_) + 9 - j_).toNat) < nn_ → sm_T (mt_P sc_) 11 349 (100, [some (.inr (.inr (some (13, 0)))), some (.inl top_), some (.inl nd_), some (.inl k_), some (.inl j_)], [], S_) (fun ro9_ => ∃ u_ S1_, ro9_ = (.inl u_, S1_, 0) ∧ vq_349n b_ n_ T_ F_ I_ Rg_ tp_ B_ N_ C_ z_ zx_ S0_ u_ S1_)) ∧ (∀ (top_ : Int) (dn_ : Int) (mu_ : Int) (S_ : sm_S), gi S_ → ai_fr (sx_W vw_349n) S0_ S_ → (((dn_ = 0 ∧ 0 ≤ mu_ ∧ giM b_ n_ T_ F_ I_ tp_ B_ N_ (exm F_ I_ B_ C_ 16) (nxm F_ I_ B_ C_ 16) z_ zx_ mu_.toNat S_) ∨ (dn_ = 1 ∧ mu_ = -1 ∧ rgl F_ z_.1.1 S_ ∧ z_.1.1.length ≤ 1000 ∧ S_.1 13 0 10 = 0 ∧ (rnS S_ ∧ S_.1 13 0 53 = (z_.1.2.1 : Int) ∧ rxn z_.1.2.1 zx_ S_ ∧ ∀ s9_, s9_ < 40 → rwv (S_.2.2.1 144 0) (8 * s9_) (z_.2 s9_)))) ∧ (S_.1 13 0 27 = 1) ∧ (top_ = (tp_ : Int)) ∧ (imq (S_.1 13 0 37 - S_.1 13 0 38 ≤ 1000) (rnS S_)) ∧ True) → ((mu_ + 1).toNat) < nn_ → sm_T (mt_P sc_) 11 349 (163, [some (.inr (.inr (some (13, 0)))), some (.inl top_), none, some (.inl dn_), none], [], S_) (fun ro9_ => ∃ u_ S1_, ro9_ = (.inl u_, S1_, 0) ∧ vq_349n b_ n_ T_ F_ I_ Rg_ tp_ B_ N_ C_ z_ zx_ S0_ u_ S1_)) := by
  intro nn_
  induction nn_ with
  | zero => exact ⟨fun _ _ _ _ _ _ h_ => absurd h_ (Nat.not_lt_zero _), fun _ _ _ _ _ _ _ h_ => absurd h_ (Nat.not_lt_zero _), fun _ _ _ _ _ _ _ _ h_ => absurd h_ (Nat.not_lt_zero _), fun _ _ _ _ _ _ _ h_ => absurd h_ (Nat.not_lt_zero _)⟩
  | succ nn_ ih_ =>
    refine ⟨?_, ?_, ?_, ?_⟩
    · rintro top_ i_ S_ hI_ hF_ ⟨h0_, h1_, hq_, -⟩ hm_
      have ht1_ := rtab_fr ht_ hF_ rfl rfl rfl rfl rfl
      have mo1_ : S_.1 13 0 12 = (tp_ : Int) + 1 := (hF_.1 13 0 12 rfl).trans hmo_.1
      have tp15_ := hmo_.2
      have hB_ := (hre_ tp_ (Nat.le_refl _)).2
      have B40_ := (hB_.2 tp_ (Nat.le_refl _)).1
      refine sm_T_go 2 (c1 := (50, [some (.inr (.inr (some (13, 0)))), some (.inl top_), some (.inl i_), none, none], [.inl 4096, .inl i_], S_)) rfl ?_
      refine sm_T_br (a := 3) (z := 16) rfl (fun cx1_ => ?_) (fun cx1_ => ?_)
      · have cx1_ : 4096 ≤ i_ := of_decide_eq_true cx1_
        have hIx2_ : gi (sm_pI S_ 13 0 53 0) := gi_pI hI_ (show 0 ≤ 0 ∧ 0 ≤ 6 from ⟨by omega, by omega⟩)
        have hFx3_ : ai_fr (sx_W vw_349n) S0_ (sm_pI S_ 13 0 53 0) := ai_fr_tr hF_ (ai_fr_pI rfl)
        have hIx4_ : gi (sm_pI (sm_pI S_ 13 0 53 0) 13 0 52 0) := gi_pI hIx2_ (show 0 ≤ 0 ∧ 0 ≤ 63 from ⟨by omega, by omega⟩)
        have hFx5_ : ai_fr (sx_W vw_349n) S0_ (sm_pI (sm_pI S_ 13 0 53 0) 13 0 52 0) := ai_fr_tr hFx3_ (ai_fr_pI rfl)
        refine sm_T_go 10 (c1 := (80, [some (.inr (.inr (some (13, 0)))), some (.inl top_), some (.inl i_), none, none], [.inl 0, .inl 0, .inl top_, .inr (.inr (some (13, 0)))], sm_pI (sm_pI S_ 13 0 53 0) 13 0 52 0)) rfl ?_
        refine sm_T_cal (d1 := 0) (Q1 := vq_341 top_ 0 0 0 (sm_pI (sm_pI S_ 13 0 53 0) 13 0 52 0)) rfl rfl (by decide) (vc_341 top_ 0 0 0 (sm_pI (sm_pI S_ 13 0 53 0) 13 0 52 0) hIx4_ (by (refine ⟨?_, by decide⟩; (have q9_ := hq_.2.1); (try simp only [rd_eq, rd_ne, rf_eq, rf_nk, rf_nt, rd_fa, rd_af, rd_fl, rd_al, rd_lf, rd_la, rd_leq, rd_lne, rd_fr, rd_ar, ne_eq, Nat.reduceEqDiff, not_false_eq_true]); omega)) (by omega) (by decide) (by decide)) (fun u_ Sx6_ px9_ => ?_)
        obtain ⟨rfl, hIx7_, hFx8_, px9_⟩ := px9_
        have hFx10_ : ai_fr (sx_W vw_349n) S0_ Sx6_ := ai_fr_tr hFx5_ (fr_le hFx8_ rfl)
        obtain ⟨e1_, e2_, e3_, e4_, e5_, e6_⟩ := px9_
        have b80_ : Sx6_.1 13 0 52 = 0 := (hFx8_.1 13 0 52 rfl).trans (by (try simp only [rd_eq, rd_ne, rf_eq, rf_nk, rf_nt, rd_fa, rd_af, rd_fl, rd_al, rd_lf, rd_la, rd_leq, rd_lne, rd_fr, rd_ar, ne_eq, Nat.reduceEqDiff, not_false_eq_true]))
        have Q80_ : gq0 tp_ F_ S0_ Sx6_ := by (refine ⟨e6_.trans ?_, e5_.trans ?_, (hFx8_.1 13 0 29 rfl).trans ?_, (hFx8_.1 13 0 27 rfl).trans ?_, (hFx8_.1 13 0 53 rfl).trans ?_, (hFx8_.1 13 0 10 rfl).trans ?_, (hFx8_.1 13 0 37 rfl).trans ?_, (hFx8_.1 13 0 38 rfl).trans ?_, (e1_ 0).trans ?_, (e4_ 0).trans ?_, fun c_ hc_ => (congrFun (fr_arr (t := 142) (i := 0) hFx8_ rfl) c_).trans (h1_ c_ (by omega))⟩); (rw [show top_.toNat = tp_ by omega]; exact congrFun (fr_arr (t := 125) (i := 0) hF_ rfl) tp_); (exact h0_.2.2); ((try simp only [rd_eq, rd_ne, rf_eq, rf_nk, rf_nt, rd_fa, rd_af, rd_fl, rd_al, rd_lf, rd_la, rd_leq, rd_lne, rd_fr, rd_ar, ne_eq, Nat.reduceEqDiff, not_false_eq_true]); exact hq_.2.1); ((try simp only [rd_eq, rd_ne, rf_eq, rf_nk, rf_nt, rd_fa, rd_af, rd_fl, rd_al, rd_lf, rd_la, rd_leq, rd_lne, rd_fr, rd_ar, ne_eq, Nat.reduceEqDiff, not_false_eq_true]); exact hq_.1); ((try simp only [rd_eq, rd_ne, rf_eq, rf_nk, rf_nt, rd_fa, rd_af, rd_fl, rd_al, rd_lf, rd_la, rd_leq, rd_lne, rd_fr, rd_ar, ne_eq, Nat.reduceEqDiff, not_false_eq_true])); ((try simp only [rd_eq, rd_ne, rf_eq, rf_nk, rf_nt, rd_fa, rd_af, rd_fl, rd_al, rd_lf, rd_la, rd_leq, rd_lne, rd_fr, rd_ar, ne_eq, Nat.reduceEqDiff, not_false_eq_true]); exact hq_.2.2.2.2); ((try simp only [rd_eq, rd_ne, rf_eq, rf_nk, rf_nt, rd_fa, rd_af, rd_fl, rd_al, rd_lf, rd_la, rd_leq, rd_lne, rd_fr, rd_ar, ne_eq, Nat.reduceEqDiff, not_false_eq_true]); exact hq_.2.2.1); ((try simp only [rd_eq, rd_ne, rf_eq, rf_nk, rf_nt, rd_fa, rd_af, rd_fl, rd_al, rd_lf, rd_la, rd_leq, rd_lne, rd_fr, rd_ar, ne_eq, Nat.reduceEqDiff, not_false_eq_true]); exact hq_.2.2.2.1); (rw [if_pos rfl]; exact h0_.2.2); (rw [if_pos rfl])
        refine sm_T_go 4 (c1 := (87, [some (.inr (.inr (some (13, 0)))), some (.inl top_), some (.inl 1), some (.inl 0), none], [], Sx6_)) rfl ?_
        refine ih_.2.1 top_ 1 0 Sx6_ hIx7_ hFx10_ ⟨?_, ?_, ?_, ?_, trivial⟩ ?_
        · exact ⟨by decide, by omega, h0_.2.2, rfl⟩
        · (intro j_ hj_; exact absurd hj_ (Nat.not_lt_zero _))
        · exact Q80_
        · exact b80_
        · omega
      · have cx1_ : ¬ (4096 ≤ i_) := of_decide_eq_false cx1_
        refine sm_T_go 4 (c1 := (59, [some (.inr (.inr (some (13, 0)))), some (.inl top_), some (.inl i_), none, none], [.inl 0, .inl i_, .inr (.inr (some (142, 0)))], S_)) rfl ?_
        refine sm_T_iast (n := 4096) rfl rfl (by omega) (by omega) ?_
        have hIx11_ : gi (sm_aI S_ 142 0 i_.toNat 0) := gi_aI hI_ (show 0 ≤ 0 ∧ 0 ≤ 1023 from ⟨by omega, by omega⟩)
        have hFx12_ : ai_fr (sx_W vw_349n) S0_ (sm_aI S_ 142 0 i_.toNat 0) := ai_fr_tr hF_ (ai_fr_aI rfl)
        refine sm_T_inc (a := 2) (z := 1) (v := i_) (w := i_ + 1) rfl rfl (by omega) (by omega) (by omega) ?_
        refine sm_T_go 1 (c1 := (46, [some (.inr (.inr (some (13, 0)))), some (.inl top_), some (.inl (i_ + 1)), none, none], [], sm_aI S_ 142 0 i_.toNat 0)) rfl ?_
        refine ih_.1 top_ (i_ + 1) (sm_aI S_ 142 0 i_.toNat 0) hIx11_ hFx12_ ⟨?_, ?_, ?_, trivial⟩ ?_
        · omega
        · intro j_ hj_
          rw [rd_eq]
          by_cases w9_ : j_ = i_.toNat
          · rw [if_pos w9_]
          · rw [if_neg w9_]; exact h1_ j_ (by omega)
        · exact hq_
        · omega
    · rintro top_ nd_ k_ S_ hI_ hF_ ⟨h0_, h1_, hq_, hbg_, -⟩ hm_
      have ht1_ := rtab_fr ht_ hF_ rfl rfl rfl rfl rfl
      have mo1_ : S_.1 13 0 12 = (tp_ : Int) + 1 := (hF_.1 13 0 12 rfl).trans hmo_.1
      have tp15_ := hmo_.2
      have hB_ := (hre_ tp_ (Nat.le_refl _)).2
      have B40_ := (hB_.2 tp_ (Nat.le_refl _)).1
      have cn_ : S_.2.2.1 126 0 top_.toNat = (B_.1 tp_ : Int) := by rw [fr_arr (t := 126) (i := 0) hF_ rfl, show top_.toNat = tp_ by omega]; exact (hre_ tp_ (Nat.le_refl _)).1.1
      have cb_ := su_el (f_ := t_in B_ 0 tp_) (k_ := B_.1 tp_) (fun j_ hj_ => by have z_ := ((hB_.2 tp_ (Nat.le_refl _)).2 j_ hj_).2.2.1; unfold t_in; split <;> omega)
      have sv_ : k_ < (B_.1 tp_ : Int) → S_.2.2.1 128 0 (40 * top_ + k_).toNat = r_s2 (B_.2.2.1 (40 * tp_ + k_.toNat)) ∧ S_.2.2.1 129 0 (40 * top_ + k_).toNat = B_.2.2.2.1 (40 * tp_ + k_.toNat) ∧ (r_s2 (B_.2.2.1 (40 * tp_ + k_.toNat)) = 1 ↔ B_.2.2.1 (40 * tp_ + k_.toNat) = 0) := by intro z_; rw [fr_arr (t := 128) (i := 0) hF_ rfl, fr_arr (t := 129) (i := 0) hF_ rfl, show (40 * top_ + k_).toNat = 40 * tp_ + k_.toNat by omega]; exact ⟨((hre_ tp_ (Nat.le_refl _)).1.2 k_.toNat (by omega)).2.1, ((hre_ tp_ (Nat.le_refl _)).1.2 k_.toNat (by omega)).2.2.1, by have q_ := g_in_0 hB_ (Nat.le_refl tp_) (show k_.toNat < B_.1 tp_ by omega); unfold g_in at q_; exact decide_eq_decide.mp q_⟩
      have s1_ : k_ < (B_.1 tp_ : Int) → su (t_in B_ 0 tp_) (k_.toNat + 1) = su (t_in B_ 0 tp_) k_.toNat + t_in B_ 0 tp_ k_.toNat ∧ su (t_in B_ 0 tp_) (k_.toNat + 1) ≤ su (t_in B_ 0 tp_) (B_.1 tp_) ∧ 0 ≤ su (t_in B_ 0 tp_) k_.toNat := fun z_ => ⟨rfl, (cb_.2.2 (k_.toNat + 1) (by omega)).2, (cb_.2.2 k_.toNat (by omega)).1⟩
      refine sm_T_go 4 (c1 := (93, [some (.inr (.inr (some (13, 0)))), some (.inl top_), some (.inl nd_), some (.inl k_), none], [.inl top_, .inr (.inr (some (126, 0))), .inl k_], S_)) rfl ?_
      refine sm_T_iald (n := 16) rfl rfl (by omega) (by omega) ?_
      have bx1_ : 0 ≤ S_.2.2.1 126 0 top_.toNat ∧ S_.2.2.1 126 0 top_.toNat ≤ 40 := hI_.2 126 0 _
      refine sm_T_br (a := 3) (z := 67) rfl (fun cx2_ => ?_) (fun cx2_ => ?_)
      · have cx2_ : (S_.2.2.1 126 0 top_.toNat) ≤ k_ := of_decide_eq_true cx2_
        obtain ⟨mg_, mg1_, mg2_⟩ : ∃ mg_ : Int, (0 ≤ mg_ ∧ mg_ < 900000) ∧ giM b_ n_ T_ F_ I_ tp_ B_ N_ (exm F_ I_ B_ C_ 16) (nxm F_ I_ B_ C_ 16) z_ zx_ mg_.toNat S_ := by obtain ⟨m9_, y1_, y2_⟩ := giN_0 (N_ := N_) hq_ (by omega) hB_ (hgm_ tp_ (Nat.le_refl _)) hz_ hzx_ hbg_ (by omega) (fun s9_ hs9_ => by by_cases w9_ : s9_ < k_.toNat; exact (h1_ s9_ w9_).1; (rw [(ein_8 hB_).2 s9_ (by omega)]; intro k9_ z9_ e9_; simp at e9_)); exact ⟨(m9_ : Int), by omega, by rw [Int.toNat_natCast]; exact y2_⟩
        refine sm_T_go 2 (c1 := (163, [some (.inr (.inr (some (13, 0)))), some (.inl top_), some (.inl nd_), some (.inl 0), none], [], S_)) rfl ?_
        refine sm_T_wk [some (.inr (.inr (some (13, 0)))), some (.inl top_), none, some (.inl 0), none] (by exact ⟨rfl, rfl, rfl, trivial⟩) ?_
        refine ih_.2.2.2 top_ 0 mg_ S_ hI_ hF_ ⟨?_, ?_, ?_, ?_, trivial⟩ ?_
        · exact Or.inl ⟨rfl, mg1_.1, mg2_⟩
        · exact hq_.2.2.2.1
        · exact h0_.2.2.1
        · exact fun _ => ⟨by rw [hbg_, hq_.2.2.2.2.1]; exact ⟨Int.le_refl _, (by decide : (0 : Int) < 2 ^ 0)⟩, fun k9_ hk9_ => by rw [hq_.2.2.2.2.1] at hk9_; omega⟩
        · omega
      · have cx2_ : ¬ ((S_.2.2.1 126 0 top_.toNat) ≤ k_) := of_decide_eq_false cx2_
        have sv1_ := sv_ (by omega)
        have s2_ := s1_ (by omega)
        have wb := ((hB_.2 tp_ (Nat.le_refl _)).2 k_.toNat (by omega)).2.2.1
        refine sm_T_go 2 (c1 := (100, [some (.inr (.inr (some (13, 0)))), some (.inl top_), some (.inl nd_), some (.inl k_), some (.inl 0)], [], S_)) rfl ?_
        refine ih_.2.2.1 top_ nd_ k_ 0 S_ hI_ hF_ ⟨?_, ?_, ?_, ?_, ?_, trivial⟩ ?_
        · omega
        · exact h1_
        · (intro k9_ z9_ e9_; simp [r_bt] at e9_)
        · exact hq_
        · exact hbg_
        · omega
    · rintro top_ nd_ k_ j_ S_ hI_ hF_ ⟨h0_, h1_, h2_, hq_, hbg_, -⟩ hm_
      have ht1_ := rtab_fr ht_ hF_ rfl rfl rfl rfl rfl
      have mo1_ : S_.1 13 0 12 = (tp_ : Int) + 1 := (hF_.1 13 0 12 rfl).trans hmo_.1
      have tp15_ := hmo_.2
      have hB_ := (hre_ tp_ (Nat.le_refl _)).2
      have B40_ := (hB_.2 tp_ (Nat.le_refl _)).1
      have cn_ : S_.2.2.1 126 0 top_.toNat = (B_.1 tp_ : Int) := by rw [fr_arr (t := 126) (i := 0) hF_ rfl, show top_.toNat = tp_ by omega]; exact (hre_ tp_ (Nat.le_refl _)).1.1
      have cb_ := su_el (f_ := t_in B_ 0 tp_) (k_ := B_.1 tp_) (fun j_ hj_ => by have z_ := ((hB_.2 tp_ (Nat.le_refl _)).2 j_ hj_).2.2.1; unfold t_in; split <;> omega)
      have sv_ : k_ < (B_.1 tp_ : Int) → S_.2.2.1 128 0 (40 * top_ + k_).toNat = r_s2 (B_.2.2.1 (40 * tp_ + k_.toNat)) ∧ S_.2.2.1 129 0 (40 * top_ + k_).toNat = B_.2.2.2.1 (40 * tp_ + k_.toNat) ∧ (r_s2 (B_.2.2.1 (40 * tp_ + k_.toNat)) = 1 ↔ B_.2.2.1 (40 * tp_ + k_.toNat) = 0) := by intro z_; rw [fr_arr (t := 128) (i := 0) hF_ rfl, fr_arr (t := 129) (i := 0) hF_ rfl, show (40 * top_ + k_).toNat = 40 * tp_ + k_.toNat by omega]; exact ⟨((hre_ tp_ (Nat.le_refl _)).1.2 k_.toNat (by omega)).2.1, ((hre_ tp_ (Nat.le_refl _)).1.2 k_.toNat (by omega)).2.2.1, by have q_ := g_in_0 hB_ (Nat.le_refl tp_) (show k_.toNat < B_.1 tp_ by omega); unfold g_in at q_; exact decide_eq_decide.mp q_⟩
      have s1_ : k_ < (B_.1 tp_ : Int) → su (t_in B_ 0 tp_) (k_.toNat + 1) = su (t_in B_ 0 tp_) k_.toNat + t_in B_ 0 tp_ k_.toNat ∧ su (t_in B_ 0 tp_) (k_.toNat + 1) ≤ su (t_in B_ 0 tp_) (B_.1 tp_) ∧ 0 ≤ su (t_in B_ 0 tp_) k_.toNat := fun z_ => ⟨rfl, (cb_.2.2 (k_.toNat + 1) (by omega)).2, (cb_.2.2 k_.toNat (by omega)).1⟩
      have sv1_ := sv_ (by omega)
      have s2_ := s1_ (by omega)
      have wb := ((hB_.2 tp_ (Nat.le_refl _)).2 k_.toNat (by omega)).2.2.1
      refine sm_T_go 5 (c1 := (109, [some (.inr (.inr (some (13, 0)))), some (.inl top_), some (.inl nd_), some (.inl k_), some (.inl j_)], [.inl top_, .inl 40, .inr (.inr (some (129, 0))), .inl j_], S_)) rfl ?_
      refine sm_T_bin (w := 40 * top_) rfl (bi_mul (by omega) (by omega) (by omega)) ?_
      refine sm_T_go 1 (c1 := (111, [some (.inr (.inr (some (13, 0)))), some (.inl top_), some (.inl nd_), some (.inl k_), some (.inl j_)], [.inl k_, .inl (40 * top_), .inr (.inr (some (129, 0))), .inl j_], S_)) rfl ?_
      refine sm_T_bin (w := 40 * top_ + k_) rfl (bi_add (by omega) (by omega) (by omega)) ?_
      refine sm_T_iald (n := 640) rfl rfl (by omega) (by omega) ?_
      have bx1_ : 0 ≤ S_.2.2.1 129 0 (40 * top_ + k_).toNat ∧ S_.2.2.1 129 0 (40 * top_ + k_).toNat ≤ 8 := hI_.2 129 0 _
      refine sm_T_br (a := 3) (z := 42) rfl (fun cx2_ => ?_) (fun cx2_ => ?_)
      · have cx2_ : (S_.2.2.1 129 0 (40 * top_ + k_).toNat) ≤ j_ := of_decide_eq_true cx2_
        refine sm_T_inc (a := 3) (z := 1) (v := k_) (w := k_ + 1) rfl rfl (by omega) (by omega) (by omega) ?_
        refine sm_T_go 1 (c1 := (87, [some (.inr (.inr (some (13, 0)))), some (.inl top_), some (.inl nd_), some (.inl (k_ + 1)), some (.inl j_)], [], S_)) rfl ?_
        refine sm_T_wk [some (.inr (.inr (some (13, 0)))), some (.inl top_), some (.inl nd_), some (.inl (k_ + 1)), none] (by exact ⟨rfl, rfl, rfl, rfl, trivial⟩) ?_
        refine ih_.2.1 top_ nd_ (k_ + 1) S_ hI_ hF_ ⟨?_, ?_, ?_, ?_, trivial⟩ ?_
        · have t9_ : t_in B_ 0 tp_ k_.toNat = j_ := by unfold t_in; split <;> omega
          rw [show (k_ + 1).toNat = k_.toNat + 1 by omega]
          omega
        · intro s9_ hs9_
          by_cases z9_ : s9_ < k_.toNat
          · exact h1_ s9_ z9_
          · have z8_ : s9_ = k_.toNat := by omega
            by_cases k0_ : B_.2.2.1 (40 * tp_ + k_.toNat) = 0
            · have e0_ : ein B_ tp_ s9_ = r_bt 0 (su (t_in B_ 0 tp_) k_.toNat).toNat j_.toNat := by unfold ein; rw [z8_, if_pos ⟨by omega, k0_⟩, show (B_.2.2.2.1 (40 * tp_ + k_.toNat)).toNat = j_.toNat by omega]
              rw [e0_, z8_, r_bt_l]; exact ⟨h2_, by omega⟩
            · have e0_ : ein B_ tp_ s9_ = [] := by unfold ein; rw [z8_, if_neg (fun q_ => k0_ q_.2)]
              rw [e0_]; exact ⟨fun k9_ z9_ e9_ => by simp at e9_, by simp⟩
        · exact hq_
        · exact hbg_
        · omega
      · have cx2_ : ¬ ((S_.2.2.1 129 0 (40 * top_ + k_).toNat) ≤ j_) := of_decide_eq_false cx2_
        refine sm_T_go 4 (c1 := (123, [some (.inr (.inr (some (13, 0)))), some (.inl top_), some (.inl nd_), some (.inl k_), some (.inl j_)], [.inl top_, .inl 40, .inr (.inr (some (128, 0)))], S_)) rfl ?_
        refine sm_T_bin (w := 40 * top_) rfl (bi_mul (by omega) (by omega) (by omega)) ?_
        refine sm_T_go 1 (c1 := (125, [some (.inr (.inr (some (13, 0)))), some (.inl top_), some (.inl nd_), some (.inl k_), some (.inl j_)], [.inl k_, .inl (40 * top_), .inr (.inr (some (128, 0)))], S_)) rfl ?_
        refine sm_T_bin (w := 40 * top_ + k_) rfl (bi_add (by omega) (by omega) (by omega)) ?_
        refine sm_T_iald (n := 640) rfl rfl (by omega) (by omega) ?_
        have bx3_ : 0 ≤ S_.2.2.1 128 0 (40 * top_ + k_).toNat ∧ S_.2.2.1 128 0 (40 * top_ + k_).toNat ≤ 5 := hI_.2 128 0 _
        refine sm_T_go 1 (c1 := (128, [some (.inr (.inr (some (13, 0)))), some (.inl top_), some (.inl nd_), some (.inl k_), some (.inl j_)], [.inl 1, .inl (S_.2.2.1 128 0 (40 * top_ + k_).toNat)], S_)) rfl ?_
        refine sm_T_br (a := 1) (z := 27) rfl (fun cx4_ => ?_) (fun cx4_ => ?_)
        · have cx4_ : (S_.2.2.1 128 0 (40 * top_ + k_).toNat) ≠ 1 := of_decide_eq_true cx4_
          refine sm_T_inc (a := 3) (z := 1) (v := k_) (w := k_ + 1) rfl rfl (by omega) (by omega) (by omega) ?_
          refine sm_T_go 1 (c1 := (87, [some (.inr (.inr (some (13, 0)))), some (.inl top_), some (.inl nd_), some (.inl (k_ + 1)), some (.inl j_)], [], S_)) rfl ?_
          refine sm_T_wk [some (.inr (.inr (some (13, 0)))), some (.inl top_), some (.inl nd_), some (.inl (k_ + 1)), none] (by exact ⟨rfl, rfl, rfl, rfl, trivial⟩) ?_
          refine ih_.2.1 top_ nd_ (k_ + 1) S_ hI_ hF_ ⟨?_, ?_, ?_, ?_, trivial⟩ ?_
          · have t9_ : t_in B_ 0 tp_ k_.toNat = j_ := by unfold t_in; split <;> omega
            rw [show (k_ + 1).toNat = k_.toNat + 1 by omega]
            omega
          · intro s9_ hs9_
            by_cases z9_ : s9_ < k_.toNat
            · exact h1_ s9_ z9_
            · have z8_ : s9_ = k_.toNat := by omega
              by_cases k0_ : B_.2.2.1 (40 * tp_ + k_.toNat) = 0
              · have e0_ : ein B_ tp_ s9_ = r_bt 0 (su (t_in B_ 0 tp_) k_.toNat).toNat j_.toNat := by unfold ein; rw [z8_, if_pos ⟨by omega, k0_⟩, show (B_.2.2.2.1 (40 * tp_ + k_.toNat)).toNat = j_.toNat by omega]
                rw [e0_, z8_, r_bt_l]; exact ⟨h2_, by omega⟩
              · have e0_ : ein B_ tp_ s9_ = [] := by unfold ein; rw [z8_, if_neg (fun q_ => k0_ q_.2)]
                rw [e0_]; exact ⟨fun k9_ z9_ e9_ => by simp at e9_, by simp⟩
          · exact hq_
          · exact hbg_
          · omega
        · have cx4_ : ¬ ((S_.2.2.1 128 0 (40 * top_ + k_).toNat) ≠ 1) := of_decide_eq_false cx4_
          have k0_ : B_.2.2.1 (40 * tp_ + k_.toNat) = 0 := sv1_.2.2.mp (by rw [← sv1_.1]; omega)
          have tn0_ : t_in B_ 0 tp_ k_.toNat = B_.2.2.2.1 (40 * tp_ + k_.toNat) := by unfold t_in; rw [if_pos k0_]
          have sw_ := sv1_.2.1
          refine sm_T_go 4 (c1 := (138, [some (.inr (.inr (some (13, 0)))), some (.inl top_), some (.inl nd_), some (.inl k_), some (.inl j_)], [.inl k_, .inl 8, .inr (.inr (some (144, 0)))], S_)) rfl ?_
          refine sm_T_bin (w := 8 * k_) rfl (bi_mul (by omega) (by omega) (by omega)) ?_
          refine sm_T_go 1 (c1 := (141, [some (.inr (.inr (some (13, 0)))), some (.inl top_), some (.inl nd_), some (.inl k_), some (.inl j_)], [.inl j_, .inl (8 * k_), .inr (.inr (some (144, 0)))], S_)) rfl ?_
          refine sm_T_bin (w := 8 * k_ + j_) rfl (bi_add (by omega) (by omega) (by omega)) ?_
          refine sm_T_go 2 (c1 := (144, [some (.inr (.inr (some (13, 0)))), some (.inl top_), some (.inl nd_), some (.inl k_), some (.inl j_)], [.inl nd_, .inl 2, .inl (8 * k_ + j_), .inr (.inr (some (144, 0)))], S_)) rfl ?_
          refine sm_T_bin (w := 2 * nd_) rfl (bi_mul (by omega) (by omega) (by omega)) ?_
          refine sm_T_iast (n := 5120) rfl rfl (by omega) (by omega) ?_
          have hIx5_ : gi (sm_aI S_ 144 0 (8 * k_ + j_).toNat (2 * nd_)) := gi_aI hI_ (show 0 ≤ 2 * nd_ ∧ 2 * nd_ ≤ 2047 from ⟨by omega, by omega⟩)
          have hFx6_ : ai_fr (sx_W vw_349n) S0_ (sm_aI S_ 144 0 (8 * k_ + j_).toNat (2 * nd_)) := ai_fr_tr hF_ (ai_fr_aI rfl)
          refine sm_T_inc (a := 2) (z := 1) (v := nd_) (w := nd_ + 1) rfl rfl (by omega) (by omega) (by omega) ?_
          refine sm_T_inc (a := 4) (z := 1) (v := j_) (w := j_ + 1) rfl rfl (by omega) (by omega) (by omega) ?_
          refine sm_T_go 1 (c1 := (100, [some (.inr (.inr (some (13, 0)))), some (.inl top_), some (.inl (nd_ + 1)), some (.inl k_), some (.inl (j_ + 1))], [], sm_aI S_ 144 0 (8 * k_ + j_).toNat (2 * nd_))) rfl ?_
          refine ih_.2.2.1 top_ (nd_ + 1) k_ (j_ + 1) (sm_aI S_ 144 0 (8 * k_ + j_).toNat (2 * nd_)) hIx5_ hFx6_ ⟨?_, ?_, ?_, ?_, ?_, trivial⟩ ?_
          · omega
          · intro s9_ hs9_
            have w_ := h1_ s9_ hs9_
            exact ⟨rwv_cg w_.1 (fun k9_ hk9_ => by have w2_ := w_.2; rw [rd_eq, if_neg (by omega)]), w_.2⟩
          · rw [show (j_ + 1).toNat = j_.toNat + 1 by omega, r_bt_s]
            refine rwv_ap (q_ := 8 * k_.toNat + j_.toNat) h2_ (by rw [r_bt_l]) (fun j9_ => ?_)
            rw [rd_eq, show (_ : Int).toNat = 8 * k_.toNat + j_.toNat from by omega]
            by_cases q9_ : j9_ = 8 * k_.toNat + j_.toNat
            · rw [if_pos q9_, if_pos q9_]; push_cast; omega
            · rw [if_neg q9_, if_neg q9_]
          · exact gq0_fr (w_ := ([], [144], [])) hq_ (ai_fr_aI rfl) rfl rfl rfl rfl rfl rfl rfl rfl rfl rfl rfl
          · exact hbg_
          · omega
    · rintro top_ dn_ mu_ S_ hI_ hF_ ⟨h0_, hm1_, h2_, h3_, -⟩ hm_
      have ht1_ := rtab_fr ht_ hF_ rfl rfl rfl rfl rfl
      have mo1_ : S_.1 13 0 12 = (tp_ : Int) + 1 := (hF_.1 13 0 12 rfl).trans hmo_.1
      have tp15_ := hmo_.2
      have hB_ := (hre_ tp_ (Nat.le_refl _)).2
      have B40_ := (hB_.2 tp_ (Nat.le_refl _)).1
      refine sm_T_go 1 (c1 := (164, [some (.inr (.inr (some (13, 0)))), some (.inl top_), none, some (.inl dn_), none], [.inl dn_], S_)) rfl ?_
      refine sm_T_b0 (a := 1) (z := 53) rfl (fun cx1_ => ?_) (fun cx1_ => ?_)
      · have cx1_ : dn_ ≠ 0 := of_decide_eq_true cx1_
        have PP_ : rgl F_ z_.1.1 S_ ∧ z_.1.1.length ≤ 1000 ∧ S_.1 13 0 10 = 0 ∧ (rnS S_ ∧ S_.1 13 0 53 = (z_.1.2.1 : Int) ∧ rxn z_.1.2.1 zx_ S_ ∧ ∀ s9_, s9_ < 40 → rwv (S_.2.2.1 144 0) (8 * s9_) (z_.2 s9_)) := by rcases h0_ with z9_ | z9_; (exfalso; have := z9_.1; omega); exact z9_.2.2
        have PQ_ : imq (z_.1.1.length ≤ 1000) (S_.1 13 0 10 = 0 ∧ rgl F_ z_.1.1 S_ ∧ (rnS S_ ∧ S_.1 13 0 53 = (z_.1.2.1 : Int) ∧ rxn z_.1.2.1 zx_ S_ ∧ ∀ s9_, s9_ < 40 → rwv (S_.2.2.1 144 0) (8 * s9_) (z_.2 s9_))) ∧ imq (1000 < z_.1.1.length) (S_.1 13 0 10 = 23 ∧ S_.1 13 0 11 = S0_.2.2.1 120 0 (S0_.2.2.1 124 0 tp_).toNat) := ⟨fun _ => ⟨PP_.2.2.1, PP_.1, PP_.2.2.2⟩, fun z9_ => by have := PP_.2.1; omega⟩
        refine sm_T_go 1 (c1 := (218, [some (.inr (.inr (some (13, 0)))), some (.inl top_), none, some (.inl dn_), none], [.inl dn_], S_)) rfl ?_
        refine sm_T_b0 (a := 1) (z := 15) rfl (fun cx2_ => ?_) (fun cx2_ => ?_)
        · have cx2_ : dn_ ≠ 0 := of_decide_eq_true cx2_
          refine sm_T_rv rfl ⟨_, _, rfl, rfl, hI_, hF_, ?_⟩
          exact PQ_
        · have cx2_ : ¬ (dn_ ≠ 0) := of_decide_eq_false cx2_
          exfalso; omega
      · have cx1_ : ¬ (dn_ ≠ 0) := of_decide_eq_false cx1_
        have hgi_ : 0 ≤ mu_ ∧ giM b_ n_ T_ F_ I_ tp_ B_ N_ (exm F_ I_ B_ C_ 16) (nxm F_ I_ B_ C_ 16) z_ zx_ mu_.toNat S_ := by rcases h0_ with z9_ | z9_; exact z9_.2; (exfalso; have := z9_.1; omega)
        obtain ⟨hmu_, fr_, M_, f_, A_, c_, p_, ce_, rest, E_, O_, q_, q9_, E9_, O9_, w_, gk_, x9_, GN_⟩ := hgi_
        have G_ := GN_.1
        have G0_ := G_
        obtain ⟨g1_, g2_, g3_, g4_, g5_, g6_, g7_, g8_, g9_, ga_, gb_, gc_, gd_, ge_, gf_, gg_⟩ := G_
        have lb_ := rgl_b gc_
        have lz := gin_le exm_hX G0_
        have lb1_ := lb_.1
        have lb2_ := lb_.2.2.1
        have lb3_ := lb_.2.2.2.1
        have lb4_ := lb_.2.2.2.2
        have g11_ := g1_.1
        have hrn0_ := h3_
        have bx3_ : 0 ≤ S_.1 13 0 37 ∧ S_.1 13 0 37 ≤ 1014 := hI_.1 13 0 37 rfl
        have bx4_ : 0 ≤ S_.1 13 0 38 ∧ S_.1 13 0 38 ≤ 19 := hI_.1 13 0 38 rfl
        refine sm_T_go 4 (c1 := (175, [some (.inr (.inr (some (13, 0)))), some (.inl top_), none, some (.inl dn_), none], [.inl (S_.1 13 0 38), .inl (S_.1 13 0 37)], S_)) rfl ?_
        refine sm_T_bin (w := (S_.1 13 0 37) - (S_.1 13 0 38)) rfl (bi_sub (by omega) (by omega) (by omega)) ?_
        refine sm_T_go 1 (c1 := (179, [some (.inr (.inr (some (13, 0)))), some (.inl top_), none, some (.inl dn_), none], [.inl 1000, .inl ((S_.1 13 0 37) - (S_.1 13 0 38))], S_)) rfl ?_
        refine sm_T_br (a := 4) (z := 38) rfl (fun cx5_ => ?_) (fun cx5_ => ?_)
        · have cx5_ : 1000 < (S_.1 13 0 37) - (S_.1 13 0 38) := of_decide_eq_true cx5_
          refine sm_T_go 1 (c1 := (218, [some (.inr (.inr (some (13, 0)))), some (.inl top_), none, some (.inl dn_), none], [.inl dn_], S_)) rfl ?_
          refine sm_T_b0 (a := 1) (z := 15) rfl (fun cx6_ => ?_) (fun cx6_ => ?_)
          · have cx6_ : dn_ ≠ 0 := of_decide_eq_true cx6_
            exfalso; omega
          · have cx6_ : ¬ (dn_ ≠ 0) := of_decide_eq_false cx6_
            refine sm_T_go 5 (c1 := (229, [some (.inr (.inr (some (13, 0)))), some (.inl top_), none, some (.inl dn_), none], [.inl top_, .inr (.inr (some (124, 0))), .inl 23, .inr (.inr (some (13, 0)))], S_)) rfl ?_
            refine sm_T_iald (n := 16) rfl rfl (by omega) (by omega) ?_
            have bx7_ : 0 ≤ S_.2.2.1 124 0 top_.toNat ∧ S_.2.2.1 124 0 top_.toNat ≤ 1280 := hI_.2 124 0 _
            refine sm_T_cal (d1 := 0) (Q1 := vq_294 23 (S_.2.2.1 124 0 top_.toNat) S_) rfl rfl (by decide) (vc_294 23 (S_.2.2.1 124 0 top_.toNat) S_ hI_ (by decide) (by omega)) (fun u_ Sx8_ px11_ => ?_)
            obtain ⟨rfl, hIx9_, hFx10_, px11_⟩ := px11_
            have hFx12_ : ai_fr (sx_W vw_349n) S0_ Sx8_ := ai_fr_tr hF_ (fr_le hFx10_ rfl)
            have ex13_ : Sx8_.1 13 0 37 = S_.1 13 0 37 := hFx10_.1 13 0 37 rfl
            have ex14_ : Sx8_.1 13 0 38 = S_.1 13 0 38 := hFx10_.1 13 0 38 rfl
            have PQ_ : imq (z_.1.1.length ≤ 1000) (Sx8_.1 13 0 10 = 0 ∧ rgl F_ z_.1.1 Sx8_ ∧ (rnS Sx8_ ∧ Sx8_.1 13 0 53 = (z_.1.2.1 : Int) ∧ rxn z_.1.2.1 zx_ Sx8_ ∧ ∀ s9_, s9_ < 40 → rwv (Sx8_.2.2.1 144 0) (8 * s9_) (z_.2 s9_))) ∧ imq (1000 < z_.1.1.length) (Sx8_.1 13 0 10 = 23 ∧ Sx8_.1 13 0 11 = S0_.2.2.1 120 0 (S0_.2.2.1 124 0 tp_).toNat) := ⟨fun z9_ => by omega, fun _ => by rcases px11_ with x_ | x_; (exact absurd g2_.1 x_.1); (refine ⟨x_.2.1, x_.2.2.trans ?_⟩; rw [fr_arr (t := 120) (i := 0) hF_ rfl, fr_arr (t := 124) (i := 0) hF_ rfl, show top_.toNat = tp_ by omega])⟩
            refine sm_T_rv rfl ⟨_, _, rfl, rfl, hIx9_, hFx12_, ?_⟩
            exact PQ_
        · have cx5_ : ¬ (1000 < (S_.1 13 0 37) - (S_.1 13 0 38)) := of_decide_eq_false cx5_
          refine sm_T_go 2 (c1 := (185, [some (.inr (.inr (some (13, 0)))), some (.inl top_), none, some (.inl dn_), none], [.inl 125, .inr (.inr (some (13, 0)))], S_)) rfl ?_
          refine sm_T_cal (d1 := 0) (Q1 := vq_295 125 b_ n_ T_ (.inr p_) S_) rfl rfl (by decide) (vc_295 125 b_ n_ T_ (.inr p_) S_ hI_ (by exact ht1_) (by exact g2_) (by decide)) (fun u_ Sx15_ px18_ => ?_)
          obtain ⟨rfl, vx20_, rfl, px18_⟩ := px18_
          have e185_ := px18_.2 p_ rfl
          have r185_ := px18_.1.1
          refine sm_T_b0 (a := 1) (z := 10) rfl (fun cx21_ => ?_) (fun cx21_ => ?_)
          · have cx21_ : vx20_ ≠ 0 := of_decide_eq_true cx21_
            have k125_ : lx_kd b_ n_ p_ = 125 := e185_.mp (by omega)
            have bx22_ : 0 ≤ S_.1 13 0 29 ∧ S_.1 13 0 29 ≤ 16 := hI_.1 13 0 29 rfl
            refine sm_T_go 2 (c1 := (202, [some (.inr (.inr (some (13, 0)))), some (.inl top_), none, some (.inl dn_), none], [.inl (S_.1 13 0 29)], S_)) rfl ?_
            refine sm_T_b0 (a := 5) (z := 10) rfl (fun cx23_ => ?_) (fun cx23_ => ?_)
            · have cx23_ : (S_.1 13 0 29) ≤ 0 := of_decide_eq_true cx23_
              have fr0_ : fr_ = 0 := by omega
              subst fr0_
              have zz_ := gin_D G0_ k125_
              have zy_ := giN_D GN_ k125_
              have GR_ : ∀ s9_, s9_ < 40 → rwv (S_.2.2.1 144 0) (8 * s9_) (E_ s9_) := by (intro s9_ hs9_; have e9_ := gin_e G0_ k125_; by_cases y9_ : s9_ < A_.1 M_; (have w9_ := (gb_.1 (by omega)).1 s9_ (by omega); rw [show 8 * (40 * 0 + s9_) = 8 * s9_ by omega] at w9_; exact w9_); (rw [g8_ s9_ (by rw [← e9_.1]; omega)]; intro k9_ z9_ e8_; simp at e8_))
              obtain ⟨mg_, mg1_⟩ : ∃ mg_ : Int, mg_ = -1 := ⟨-1, rfl⟩
              have m27_ := hm1_
              have H3_ := h3_
              refine sm_T_go 3 (c1 := (163, [some (.inr (.inr (some (13, 0)))), some (.inl top_), none, some (.inl 1), none], [], S_)) rfl ?_
              refine ih_.2.2.2 top_ 1 mg_ S_ hI_ hF_ ⟨?_, ?_, ?_, ?_, trivial⟩ ?_
              · first | exact Or.inl ⟨by omega, mg1_.1, mg2_⟩ | (refine Or.inr ⟨rfl, mg1_, ?_, ?_, g2_.1, ?_, ?_, ?_, ?_⟩; (rw [zz_]; exact gc_); (rw [zz_]; show q_.1.length ≤ 1000; omega); (exact hrn0_ (by omega)); (rw [zz_]; exact g1_.2.2.1); (rw [zz_, zy_]; exact GN_.2.2.2.2 (by omega)); (intro s9_ hs9_; rw [zz_]; exact GR_ s9_ hs9_))
              · exact m27_
              · exact h2_
              · exact H3_
              · omega
            · have cx23_ : ¬ ((S_.1 13 0 29) ≤ 0) := of_decide_eq_false cx23_
              obtain ⟨fr0_, hfr_⟩ : ∃ fr0_, fr_ = fr0_ + 1 := ⟨fr_ - 1, by omega⟩
              subst hfr_
              obtain ⟨K_, y1_, y2_, y3_, y4_, -⟩ := gin_L0 tp15_ G0_
              refine sm_T_go 1 (c1 := (206, [some (.inr (.inr (some (13, 0)))), some (.inl top_), none, some (.inl dn_), none], [.inr (.inr (some (13, 0)))], S_)) rfl ?_
              refine sm_T_cal (d1 := 0) (Q1 := vq_346 fr0_ M_ K_ (B_.1 M_) S_) rfl rfl (by decide) (vc_346 fr0_ M_ K_ (B_.1 M_) S_ hI_ (by omega) (by exact ⟨g1_.2.1, y3_⟩) (by exact ⟨y1_, y2_⟩) (by exact ⟨(re1_fr (hre_ M_ (by omega)).1 hF_ rfl rfl rfl rfl rfl rfl).1, ((a_ok_le hB_ (show M_ ≤ tp_ by omega)).2 M_ (Nat.le_refl _)).1⟩)) (fun u_ Sx24_ px27_ => ?_)
              obtain ⟨rfl, hIx25_, hFx26_, px27_⟩ := px27_
              have hFx28_ : ai_fr (sx_W vw_349n) S0_ Sx24_ := ai_fr_tr hF_ (fr_le hFx26_ rfl)
              have ex29_ : Sx24_.1 13 0 37 = S_.1 13 0 37 := hFx26_.1 13 0 37 rfl
              have ex30_ : Sx24_.1 13 0 38 = S_.1 13 0 38 := hFx26_.1 13 0 38 rfl
              obtain ⟨x1_, x2_, x3_, x4_, x5_⟩ := px27_
              obtain ⟨mg_, mg1_, mg2_⟩ : ∃ mg_ : Int, (0 ≤ mg_ ∧ mg_ < mu_) ∧ giM b_ n_ T_ F_ I_ tp_ B_ N_ (exm F_ I_ B_ C_ 16) (nxm F_ I_ B_ C_ 16) z_ zx_ mg_.toNat Sx24_ := by obtain ⟨m9_, v1_, v2_⟩ := giN_L ht_.1 GN_ k125_ y1_ x1_ x2_ x3_ x4_ x5_ (fr_arr hFx26_ rfl) (fr_arr hFx26_ rfl) (fr_arr hFx26_ rfl) (fr_arr hFx26_ rfl) (fr_arr hFx26_ rfl) (hFx26_.1 13 0 53 rfl) (hFx26_.1 13 0 10 rfl) (fun z9_ => rgl_fr z9_ hFx26_ rfl rfl rfl rfl rfl rfl) (fr_arr (t := 150) hFx26_ rfl) (fun q7_ => rxn_fr (GN_.2.2.2.2 (by omega)) hFx26_); exact ⟨(m9_ : Int), by omega, by rw [Int.toNat_natCast]; exact v2_⟩
              have m27_ := (hFx26_.1 13 0 27 rfl).trans hm1_
              have H3_ : imq (Sx24_.1 13 0 37 - Sx24_.1 13 0 38 ≤ 1000) (rnS Sx24_) := fun q7_ => rnS_fr (hrn0_ (by omega)) hFx26_ rfl rfl rfl rfl
              refine sm_T_go 1 (c1 := (163, [some (.inr (.inr (some (13, 0)))), some (.inl top_), none, some (.inl dn_), none], [], Sx24_)) rfl ?_
              refine ih_.2.2.2 top_ dn_ mg_ Sx24_ hIx25_ hFx28_ ⟨?_, ?_, ?_, ?_, trivial⟩ ?_
              · first | exact Or.inl ⟨by omega, mg1_.1, mg2_⟩ | (refine Or.inr ⟨rfl, mg1_, ?_, ?_, g2_.1, ?_, ?_, ?_, ?_⟩; (rw [zz_]; exact gc_); (rw [zz_]; show q_.1.length ≤ 1000; omega); (exact hrn0_ (by omega)); (rw [zz_]; exact g1_.2.2.1); (rw [zz_, zy_]; exact GN_.2.2.2.2 (by omega)); (intro s9_ hs9_; rw [zz_]; exact GR_ s9_ hs9_))
              · exact m27_
              · exact h2_
              · exact H3_
              · omega
          · have cx21_ : ¬ (vx20_ ≠ 0) := of_decide_eq_false cx21_
            have k125_ : lx_kd b_ n_ p_ ≠ 125 := fun z9_ => by have := e185_.mpr z9_; omega
            obtain ⟨f1_, rr_, kk_, rest1, q1_, E1_, O1_, V1_, i1_, i2_, i3_, i4_, i5_, i6_, i7_, i8_, i9_⟩ := gin_it ht_.1 G0_ k125_
            have mx_ := mch_ex g3_
            have M15_ := mx_.1.1
            refine sm_T_go 1 (c1 := (192, [some (.inr (.inr (some (13, 0)))), some (.inl top_), none, some (.inl dn_), none], [.inr (.inr (some (13, 0)))], S_)) rfl ?_
            refine sm_T_cal (d1 := 10) (Q1 := vq_348n b_ n_ T_ F_ I_ A_ B_ (exm F_ I_ B_ C_ 16) M_ fr_ q_ E_ O_ p_ N_ c_ kk_ rr_ q1_ E1_ O1_ V1_ (nxm F_ I_ B_ C_ 16) x9_ S_) rfl rfl (by decide) (vc_348n b_ n_ T_ F_ I_ A_ B_ (exm F_ I_ B_ C_ 16) M_ fr_ q_ E_ O_ p_ N_ c_ kk_ rr_ q1_ E1_ O1_ V1_ (nxm F_ I_ B_ C_ 16) x9_ S_ hI_ (by exact ht1_) (by exact g2_) (by exact hm1_) (by exact ⟨a_ok_le hB_ (by omega), g1_.2.1, ⟨g1_.1, by omega⟩, fun m_ hm_ => re1_fr (hre_ m_ (by omega)).1 hF_ rfl rfl rfl rfl rfl rfl⟩) (by exact mx_.1) (by exact mx_.2.1) (by exact exm_hX) (by exact g6_.1) (by exact gb_.1) (by exact gc_) (by exact g6_) (by exact i1_) (by exact i2_) (by exact i3_) (by exact i4_) (by exact g8_) (by exact g7_) (by exact g9_) (by exact g1_.2.2.1) (by omega) (by (refine ⟨?_, by omega⟩; rw [fr_arr (t := 132) (i := 0) hF_ rfl, show (S_.1 13 0 12 - 1).toNat = tp_ by omega]; exact hI1_)) (by exact g1_.2.2.2.2) (by omega) (by exact hrn0_ (by omega)) (by exact gb_.2 (by omega)) (by exact exm_w 16) (by (have q7_ : q1_.2.1 ≤ q9_.2.1 := ev_R (exm_w 16) i7_; have q8_ := gin_R (exm_w 16) G0_; omega)) (by exact mx_.2.2.1) (by exact GN_.2.2.1) (by exact GN_.2.2.2.2 (by omega))) (fun u_ Sx31_ px34_ => ?_)
            obtain ⟨rfl, hIx32_, hFx33_, px34_⟩ := px34_
            have hFx35_ : ai_fr (sx_W vw_349n) S0_ Sx31_ := ai_fr_tr hF_ (fr_le hFx33_ rfl)
            have ex36_ : Sx31_.1 13 0 38 = S_.1 13 0 38 := hFx33_.1 13 0 38 rfl
            obtain ⟨mg_, mg1_, mg2_⟩ : ∃ mg_ : Int, (0 ≤ mg_ ∧ mg_ < mu_) ∧ giM b_ n_ T_ F_ I_ tp_ B_ N_ (exm F_ I_ B_ C_ 16) (nxm F_ I_ B_ C_ 16) z_ zx_ mg_.toNat Sx31_ := by by_cases k8_ : lx_kd b_ n_ p_ = 8; (obtain ⟨m9_, y1_, y2_⟩ := giN_8 ht_.1 (fun m_ hm_ => gmd_fr (hgm_ m_ hm_) hF_ rfl) GN_ i2_ i5_ i6_ i4_ i7_ i8_ (fr_arr hFx33_ rfl) (by omega) (by omega) (px34_.1.1.2 k8_) (px34_.2.2 k8_); exact ⟨(m9_ : Int), by omega, by rw [Int.toNat_natCast]; exact y2_⟩); (obtain ⟨m9_, y1_, y2_⟩ := giN_N (kk_ := kk_) ht_.1 GN_ i2_ i5_ i6_ i7_ i8_ i9_ (fr_arr hFx33_ rfl) (exm_w 16) (by omega) i4_ (by have q7_ : q1_.2.1 ≤ q9_.2.1 := ev_R (exm_w 16) i7_; have q8_ := gin_R (exm_w 16) G0_; omega) (px34_.1.1.1 k8_) (px34_.2.1 k8_); exact ⟨(m9_ : Int), by omega, by rw [Int.toNat_natCast]; exact y2_⟩)
            have m27_ := (hFx33_.1 13 0 27 rfl).trans hm1_
            have H3_ := px34_.1.2
            refine sm_T_go 1 (c1 := (163, [some (.inr (.inr (some (13, 0)))), some (.inl top_), none, some (.inl dn_), none], [], Sx31_)) rfl ?_
            refine ih_.2.2.2 top_ dn_ mg_ Sx31_ hIx32_ hFx35_ ⟨?_, ?_, ?_, ?_, trivial⟩ ?_
            · first | exact Or.inl ⟨by omega, mg1_.1, mg2_⟩ | (refine Or.inr ⟨rfl, mg1_, ?_, ?_, g2_.1, ?_, ?_, ?_, ?_⟩; (rw [zz_]; exact gc_); (rw [zz_]; show q_.1.length ≤ 1000; omega); (exact hrn0_ (by omega)); (rw [zz_]; exact g1_.2.2.1); (rw [zz_, zy_]; exact GN_.2.2.2.2 (by omega)); (intro s9_ hs9_; rw [zz_]; exact GR_ s9_ hs9_))
            · exact m27_
            · exact h2_
            · exact H3_
            · omega
set_option maxHeartbeats 3000000 in
set_option maxRecDepth 20000 in
theorem vc_349n {sc_ : Nat × (Nat → Int)} (b_ : Nat → Int) (n_ : Nat) (T_ : Nat) (F_ : Nat) (I_ : Nat) (Rg_ : Nat) (tp_ : Nat) (B_ : pA) (N_ : Nat → Nat) (C_ : Nat → List Int) (z_ : gQ × gE) (zx_ : gN) (S0_ : sm_S) (hI_ : gi S0_) (ht_ : rtab b_ n_ T_ S0_) (hf_ : (S0_.1 13 0 10) = 0) (hmo_ : (S0_.1 13 0 12) = (tp_ : Int) + 1 ∧ tp_ ≤ 15) (hre_ : ∀ m_, m_ ≤ tp_ → re1 b_ n_ T_ B_ m_ S0_ ∧ a_ok b_ n_ B_ m_) (hgm_ : ∀ m_, m_ ≤ tp_ → gmd b_ n_ T_ B_ N_ C_ m_ S0_) (hI1_ : S0_.2.2.1 132 0 tp_ = (I_ : Int)) (hR1_ : S0_.2.2.1 134 0 tp_ = (Rg_ : Int)) (hFn_ : F_ = 1 + I_ + Rg_ ∧ I_ + Rg_ ≤ 12) (hsu_ : su (t_in B_ 0 tp_) (B_.1 tp_) = (I_ : Int)) (hz_ : exm F_ I_ B_ C_ 16 tp_ ([], 0, 1) (ein B_ tp_) = some z_) (hzR_ : z_.1.2.1 = Rg_) (hzx_ : nxm F_ I_ B_ C_ 16 tp_ ([], 0, 1) (ein B_ tp_) nx0 = zx_) : sm_T (mt_P sc_) 11 349 (0, [some (.inr (.inr (some (13, 0)))), none, none, none, none], [], S0_) (fun ro9_ => ∃ u_ S1_, ro9_ = (.inl u_, S1_, 0) ∧ vq_349n b_ n_ T_ F_ I_ Rg_ tp_ B_ N_ C_ z_ zx_ S0_ u_ S1_) := by
  have hF_ : ai_fr (sx_W vw_349n) S0_ S0_ := ai_fr_rf
  have tp15_ := hmo_.2
  have tpe_ : (S0_.1 13 0 12 - 1).toNat = tp_ := by omega
  have i1_ : S0_.2.2.1 132 0 (S0_.1 13 0 12 - 1).toNat = (I_ : Int) := by rw [tpe_]; exact hI1_
  have i2_ : S0_.2.2.1 134 0 (S0_.1 13 0 12 - 1).toNat = (Rg_ : Int) := by rw [tpe_]; exact hR1_
  have bx1_ : 0 ≤ S0_.1 13 0 12 ∧ S0_.1 13 0 12 ≤ 16 := hI_.1 13 0 12 rfl
  refine sm_T_go 3 (c1 := (5, [some (.inr (.inr (some (13, 0)))), none, none, none, none], [.inl 1, .inl (S0_.1 13 0 12)], S0_)) rfl ?_
  refine sm_T_bin (w := (S0_.1 13 0 12) - 1) rfl (bi_sub (by omega) (by omega) (by omega)) ?_
  have hIx2_ : gi (sm_pI S0_ 13 0 27 1) := gi_pI hI_ (show 0 ≤ 1 ∧ 1 ≤ 2 from ⟨by omega, by omega⟩)
  have hFx3_ : ai_fr (sx_W vw_349n) S0_ (sm_pI S0_ 13 0 27 1) := ai_fr_tr hF_ (ai_fr_pI rfl)
  have hIx4_ : gi (sm_pI (sm_pI S0_ 13 0 27 1) 13 0 29 0) := gi_pI hIx2_ (show 0 ≤ 0 ∧ 0 ≤ 16 from ⟨by omega, by omega⟩)
  have hFx5_ : ai_fr (sx_W vw_349n) S0_ (sm_pI (sm_pI S0_ 13 0 27 1) 13 0 29 0) := ai_fr_tr hFx3_ (ai_fr_pI rfl)
  refine sm_T_go 12 (c1 := (24, [some (.inr (.inr (some (13, 0)))), some (.inl ((S0_.1 13 0 12) - 1)), none, none, none], [.inl ((S0_.1 13 0 12) - 1), .inr (.inr (some (132, 0))), .inl 1, .inr (.inr (some (13, 0)))], sm_pI (sm_pI S0_ 13 0 27 1) 13 0 29 0)) rfl ?_
  refine sm_T_iald (n := 16) rfl rfl (by omega) (by omega) ?_
  have bx6_ : 0 ≤ S0_.2.2.1 132 0 ((S0_.1 13 0 12) - 1).toNat ∧ S0_.2.2.1 132 0 ((S0_.1 13 0 12) - 1).toNat ≤ 320 := hI_.2 132 0 _
  refine sm_T_go 0 (c1 := (25, [some (.inr (.inr (some (13, 0)))), some (.inl ((S0_.1 13 0 12) - 1)), none, none, none], [.inl (S0_.2.2.1 132 0 ((S0_.1 13 0 12) - 1).toNat), .inl 1, .inr (.inr (some (13, 0)))], sm_pI (sm_pI S0_ 13 0 27 1) 13 0 29 0)) rfl ?_
  refine sm_T_bin (w := (S0_.2.2.1 132 0 ((S0_.1 13 0 12) - 1).toNat) + 1) rfl (bi_add (by omega) (by omega) (by omega)) ?_
  refine sm_T_go 3 (c1 := (31, [some (.inr (.inr (some (13, 0)))), some (.inl ((S0_.1 13 0 12) - 1)), none, none, none], [.inl ((S0_.1 13 0 12) - 1), .inr (.inr (some (134, 0))), .inl ((S0_.2.2.1 132 0 ((S0_.1 13 0 12) - 1).toNat) + 1), .inr (.inr (some (13, 0)))], sm_pI (sm_pI S0_ 13 0 27 1) 13 0 29 0)) rfl ?_
  refine sm_T_iald (n := 16) rfl rfl (by omega) (by omega) ?_
  have bx7_ : 0 ≤ S0_.2.2.1 134 0 ((S0_.1 13 0 12) - 1).toNat ∧ S0_.2.2.1 134 0 ((S0_.1 13 0 12) - 1).toNat ≤ 1073741823 := hI_.2 134 0 _
  refine sm_T_go 0 (c1 := (32, [some (.inr (.inr (some (13, 0)))), some (.inl ((S0_.1 13 0 12) - 1)), none, none, none], [.inl (S0_.2.2.1 134 0 ((S0_.1 13 0 12) - 1).toNat), .inl ((S0_.2.2.1 132 0 ((S0_.1 13 0 12) - 1).toNat) + 1), .inr (.inr (some (13, 0)))], sm_pI (sm_pI S0_ 13 0 27 1) 13 0 29 0)) rfl ?_
  refine sm_T_bin (w := (S0_.2.2.1 132 0 ((S0_.1 13 0 12) - 1).toNat) + (S0_.2.2.1 134 0 ((S0_.1 13 0 12) - 1).toNat) + 1) rfl (bi_add (by omega) (by omega) (by omega)) ?_
  have hIx8_ : gi (sm_pI (sm_pI (sm_pI S0_ 13 0 27 1) 13 0 29 0) 13 0 37 ((S0_.2.2.1 132 0 ((S0_.1 13 0 12) - 1).toNat) + (S0_.2.2.1 134 0 ((S0_.1 13 0 12) - 1).toNat) + 1)) := gi_pI hIx4_ (show 0 ≤ (S0_.2.2.1 132 0 ((S0_.1 13 0 12) - 1).toNat) + (S0_.2.2.1 134 0 ((S0_.1 13 0 12) - 1).toNat) + 1 ∧ (S0_.2.2.1 132 0 ((S0_.1 13 0 12) - 1).toNat) + (S0_.2.2.1 134 0 ((S0_.1 13 0 12) - 1).toNat) + 1 ≤ 1014 from ⟨by omega, by omega⟩)
  have hFx9_ : ai_fr (sx_W vw_349n) S0_ (sm_pI (sm_pI (sm_pI S0_ 13 0 27 1) 13 0 29 0) 13 0 37 ((S0_.2.2.1 132 0 ((S0_.1 13 0 12) - 1).toNat) + (S0_.2.2.1 134 0 ((S0_.1 13 0 12) - 1).toNat) + 1)) := ai_fr_tr hFx5_ (ai_fr_pI rfl)
  have hIx10_ : gi (sm_pI (sm_pI (sm_pI (sm_pI S0_ 13 0 27 1) 13 0 29 0) 13 0 37 ((S0_.2.2.1 132 0 ((S0_.1 13 0 12) - 1).toNat) + (S0_.2.2.1 134 0 ((S0_.1 13 0 12) - 1).toNat) + 1)) 13 0 38 ((S0_.2.2.1 132 0 ((S0_.1 13 0 12) - 1).toNat) + (S0_.2.2.1 134 0 ((S0_.1 13 0 12) - 1).toNat) + 1)) := gi_pI hIx8_ (show 0 ≤ (S0_.2.2.1 132 0 ((S0_.1 13 0 12) - 1).toNat) + (S0_.2.2.1 134 0 ((S0_.1 13 0 12) - 1).toNat) + 1 ∧ (S0_.2.2.1 132 0 ((S0_.1 13 0 12) - 1).toNat) + (S0_.2.2.1 134 0 ((S0_.1 13 0 12) - 1).toNat) + 1 ≤ 19 from ⟨by omega, by omega⟩)
  have hFx11_ : ai_fr (sx_W vw_349n) S0_ (sm_pI (sm_pI (sm_pI (sm_pI S0_ 13 0 27 1) 13 0 29 0) 13 0 37 ((S0_.2.2.1 132 0 ((S0_.1 13 0 12) - 1).toNat) + (S0_.2.2.1 134 0 ((S0_.1 13 0 12) - 1).toNat) + 1)) 13 0 38 ((S0_.2.2.1 132 0 ((S0_.1 13 0 12) - 1).toNat) + (S0_.2.2.1 134 0 ((S0_.1 13 0 12) - 1).toNat) + 1)) := ai_fr_tr hFx9_ (ai_fr_pI rfl)
  refine sm_T_go 7 (c1 := (46, [some (.inr (.inr (some (13, 0)))), some (.inl ((S0_.1 13 0 12) - 1)), some (.inl 0), none, none], [], sm_pI (sm_pI (sm_pI (sm_pI S0_ 13 0 27 1) 13 0 29 0) 13 0 37 ((S0_.2.2.1 132 0 ((S0_.1 13 0 12) - 1).toNat) + (S0_.2.2.1 134 0 ((S0_.1 13 0 12) - 1).toNat) + 1)) 13 0 38 ((S0_.2.2.1 132 0 ((S0_.1 13 0 12) - 1).toNat) + (S0_.2.2.1 134 0 ((S0_.1 13 0 12) - 1).toNat) + 1))) rfl ?_
  refine (vl_349n b_ n_ T_ F_ I_ Rg_ tp_ B_ N_ C_ z_ zx_ S0_ ht_ hf_ hmo_ hre_ hgm_ hI1_ hR1_ hFn_ hsu_ hz_ hzR_ hzx_ _).1 ((S0_.1 13 0 12) - 1) 0 (sm_pI (sm_pI (sm_pI (sm_pI S0_ 13 0 27 1) 13 0 29 0) 13 0 37 ((S0_.2.2.1 132 0 ((S0_.1 13 0 12) - 1).toNat) + (S0_.2.2.1 134 0 ((S0_.1 13 0 12) - 1).toNat) + 1)) 13 0 38 ((S0_.2.2.1 132 0 ((S0_.1 13 0 12) - 1).toNat) + (S0_.2.2.1 134 0 ((S0_.1 13 0 12) - 1).toNat) + 1)) hIx10_ hFx11_ ⟨?_, ?_, ?_, trivial⟩ (Nat.lt_succ_self _)
  · exact ⟨by decide, by decide, by omega⟩
  · (intro j_ hj_; exact absurd hj_ (Nat.not_lt_zero _))
  · (refine ⟨?_, ?_, ?_, ?_, ?_⟩ <;> (try simp only [rd_eq, rd_ne, rf_eq, rf_nk, rf_nt, rd_fa, rd_af, rd_fl, rd_al, rd_lf, rd_la, rd_leq, rd_lne, rd_fr, rd_ar, ne_eq, Nat.reduceEqDiff, not_false_eq_true]) <;> omega)
end
/-! 99.ztU -/
section
/-! rows of values, bit by bit; written by wip/p55/gen/vg -/

/-! bits of_ rows -/
def lbt (x_ : Int) (i_ : Nat) : Bool := (Int64.ofInt x_).toBitVec.getLsbD i_
theorem lbt_3 {x_ y_ : Int} {i_ : Nat} : lbt (l_3 x_ y_) i_ = (lbt x_ i_ && lbt y_ i_) := by
  unfold lbt l_3
  rw [Int64.ofInt_toInt, Int64.toBitVec_and, BitVec.getLsbD_and]
theorem lbt_5 {x_ y_ : Int} {i_ : Nat} : lbt (l_5 x_ y_) i_ = Bool.xor (lbt x_ i_) (lbt y_ i_) := by
  unfold lbt l_5
  rw [Int64.ofInt_toInt, Int64.toBitVec_xor, BitVec.getLsbD_xor]
theorem lbt_e {x_ y_ : Int} (hx_ : lcn x_) (hy_ : lcn y_) (h_ : ∀ i_, i_ < 64 → lbt x_ i_ = lbt y_ i_) : x_ = y_ := by
  have e_ : Int64.ofInt x_ = Int64.ofInt y_ := Int64.toBitVec_inj.mp (BitVec.eq_of_getLsbD_eq (fun i_ hi_ => h_ i_ hi_))
  have q_ : (Int64.ofInt x_).toInt = (Int64.ofInt y_).toInt := by rw [e_]
  exact hx_.symm.trans (q_.trans hy_)
theorem lbt_0 {i_ : Nat} : lbt 0 i_ = false := by
  have h_ := lbt_5 (x_ := 0) (y_ := 0) (i_ := i_)
  rw [l5_self, Bool.xor_self] at h_
  exact h_
theorem lbt_m1 : ∀ i_ : Fin 64, lbt (-1) (i_ : Nat) = true := by decide +kernel
theorem lbt_m {i_ : Nat} (h_ : i_ < 64) : lbt (-1) i_ = true := lbt_m1 ⟨i_, h_⟩
theorem lbt_k1 : ∀ b_ : Fin 6, ∀ i_ : Fin 64, lbt (l_1 (l_s0 1 (i_shl 1 ((b_ : Nat) : Int))) 1) (i_ : Nat) = decide ((i_ : Nat) < 2 ^ (b_ : Nat)) := by decide +kernel
theorem lbt_k {b_ i_ : Nat} (hb_ : b_ < 6) (hi_ : i_ < 64) : lbt (l_1 (l_s0 1 (i_shl 1 (b_ : Int))) 1) i_ = decide (i_ < 2 ^ b_) := lbt_k1 ⟨b_, hb_⟩ ⟨i_, hi_⟩
/-- words of_ a_ row_, and what is_ cut_ off_ -/
def wmk (bi_ : Int) (W_ : Nat) (mk_ : Int) : Prop := (6 ≤ bi_ ∧ bi_ ≤ 12 ∧ W_ = 2 ^ (bi_ - 6).toNat ∧ mk_ = -1) ∨ (0 ≤ bi_ ∧ bi_ < 6 ∧ W_ = 1 ∧ mk_ = l_1 (l_s0 1 (i_shl 1 bi_)) 1)
theorem wmk_r : wmk 12 64 (-1) := Or.inl ⟨by decide, by decide, by decide, rfl⟩
theorem p2_le {a_ b_ : Nat} (h_ : a_ ≤ b_) : 2 ^ a_ ≤ 2 ^ b_ := Nat.pow_le_pow_right (by decide) h_
theorem wmk_q {bi_ W_ q_ : Nat} {mk_ : Int} (h_ : wmk (bi_ : Int) W_ mk_) (hq_ : q_ < 2 ^ bi_) : q_ / 64 < W_ ∧ lbt mk_ (q_ % 64) = true := by
  rcases h_ with ⟨h1_, h2_, h3_, h4_⟩ | ⟨h1_, h2_, h3_, h4_⟩
  · obtain ⟨c_, rfl⟩ : ∃ c_, bi_ = 6 + c_ := ⟨bi_ - 6, by omega⟩
    rw [show (((6 + c_ : Nat) : Int) - 6).toNat = c_ by omega] at h3_
    rw [Nat.pow_add] at hq_
    have hq_ : q_ < 64 * 2 ^ c_ := hq_
    rw [h3_, h4_]
    exact ⟨by omega, lbt_m (Nat.mod_lt _ (by decide))⟩
  · have l_ := p2_le (show bi_ ≤ 5 by omega)
    have l_ : 2 ^ bi_ ≤ 32 := l_
    rw [h3_, h4_, lbt_k (by omega) (Nat.mod_lt _ (by decide))]
    exact ⟨by omega, decide_eq_true (by omega)⟩
theorem wmk_i {bi_ W_ j_ i_ : Nat} {mk_ : Int} (h_ : wmk (bi_ : Int) W_ mk_) (hj_ : j_ < W_) (hi_ : i_ < 64) (hm_ : lbt mk_ i_ = true) : 64 * j_ + i_ < 2 ^ bi_ := by
  rcases h_ with ⟨h1_, h2_, h3_, h4_⟩ | ⟨h1_, h2_, h3_, h4_⟩
  · obtain ⟨c_, rfl⟩ : ∃ c_, bi_ = 6 + c_ := ⟨bi_ - 6, by omega⟩
    rw [show (((6 + c_ : Nat) : Int) - 6).toNat = c_ by omega] at h3_
    rw [Nat.pow_add]
    show 64 * j_ + i_ < 64 * 2 ^ c_
    rw [h3_] at hj_
    omega
  · rw [h4_, lbt_k (by omega) hi_] at hm_
    have := of_decide_eq_true hm_
    omega
theorem wmk_c {bi_ W_ : Nat} {mk_ : Int} (h_ : wmk (bi_ : Int) W_ mk_) : lcn mk_ ∧ mk_ ≠ 0 ∧ bi_ ≤ 12 ∧ 0 < W_ := by
  rcases h_ with ⟨h1_, h2_, h3_, h4_⟩ | ⟨h1_, h2_, h3_, h4_⟩
  · rw [h4_]
    exact ⟨mkm.1, mkm.2.2, by omega, by rw [h3_]; exact Nat.two_pow_pos _⟩
  · have k_ := mkb (b_ := (bi_ : Int)) (by omega)
    rw [h4_]
    exact ⟨k_.1, k_.2.2, by omega, by omega⟩
/-- the_ row_ of_ an_ input or a_ register -/
def bwv (k_ w_ : Nat) : Int := if k_ < 6 then st_at 2 (k_ : Int) else if w_ / 2 ^ (k_ - 6) % 2 = 1 then -1 else 0
theorem bwv_1 : ∀ k_ : Fin 6, lcn (st_at 2 ((k_ : Nat) : Int)) ∧ ∀ i_ : Fin 64, lbt (st_at 2 ((k_ : Nat) : Int)) (i_ : Nat) = decide ((i_ : Nat) / 2 ^ (k_ : Nat) % 2 = 1) := by
  unfold lcn
  decide +kernel
theorem bwv_c {k_ w_ : Nat} : lcn (bwv k_ w_) := by
  unfold bwv
  split
  · rename_i h_
    exact (bwv_1 ⟨k_, h_⟩).1
  · split
    · exact mkm.1
    · exact lcn_c.1
theorem bwv_b {k_ w_ i_ : Nat} (hk_ : k_ ≤ 11) (hi_ : i_ < 64) : lbt (bwv k_ w_) i_ = Nat.testBit (64 * w_ + i_) k_ := by
  rw [Nat.testBit_eq_decide_div_mod_eq]
  unfold bwv
  by_cases c_ : k_ < 6
  · rw [if_pos c_, (bwv_1 ⟨k_, c_⟩).2 ⟨i_, hi_⟩]
    have e_ : i_ / 2 ^ k_ % 2 = (64 * w_ + i_) / 2 ^ k_ % 2 := by
      have q_ : k_ = 0 ∨ k_ = 1 ∨ k_ = 2 ∨ k_ = 3 ∨ k_ = 4 ∨ k_ = 5 := by omega
      rcases q_ with rfl | rfl | rfl | rfl | rfl | rfl <;> omega
    show decide (i_ / 2 ^ k_ % 2 = 1) = decide ((64 * w_ + i_) / 2 ^ k_ % 2 = 1)
    rw [e_]
  · rw [if_neg c_]
    have e_ : (64 * w_ + i_) / 2 ^ k_ % 2 = w_ / 2 ^ (k_ - 6) % 2 := by
      have q_ : k_ = 6 ∨ k_ = 7 ∨ k_ = 8 ∨ k_ = 9 ∨ k_ = 10 ∨ k_ = 11 := by omega
      rcases q_ with rfl | rfl | rfl | rfl | rfl | rfl <;> omega
    rw [e_]
    by_cases d_ : w_ / 2 ^ (k_ - 6) % 2 = 1
    · rw [if_pos d_, lbt_m hi_]
      exact (decide_eq_true d_).symm
    · rw [if_neg d_, lbt_0]
      exact (decide_eq_false d_).symm
def srb (F_ n_ w_ : Nat) (mk_ : Int) (R_ : Nat → Int) : Prop := ∀ j_, j_ < w_ → 1 ≤ n_ → n_ < F_ → R_ (64 * n_ + j_) = l_3 (bwv (n_ - 1) j_) mk_
/-- all_ rows of_ a_ graph -/
def fwr (F_ N_ W_ : Nat) (mk_ : Int) (lo_ hi_ R_ : Nat → Int) : Prop := ∀ n_, n_ < N_ → srw F_ n_ W_ mk_ lo_ hi_ R_ ∧ srb F_ n_ W_ mk_ R_
/-- what a_ node, a_ literal is_ at a_ pattern -/
def pvl (R_ : Nat → Int) (n_ q_ : Nat) : Bool := lbt (R_ (64 * n_ + q_ / 64)) (q_ % 64)
def ltv (v_ : Nat → Nat → Bool) (l_ : Int) (q_ : Nat) : Bool := Bool.xor (v_ (l_ / 2).toNat q_) (decide (l_ % 2 = 1))
theorem wlt_b {R_ : Nat → Int} {l_ : Int} {q_ : Nat} : lbt (wlt R_ l_ (q_ / 64)) (q_ % 64) = ltv (pvl R_) l_ q_ := by
  unfold wlt ltv pvl
  by_cases c_ : l_ % 2 = 0
  · rw [if_pos c_, decide_eq_false (by omega), Bool.xor_false]
  · rw [if_neg c_, lbt_5, lbt_m (Nat.mod_lt _ (by decide)), decide_eq_true (by omega)]
/-- the_ values of_ a_ graph's nodes -/
def nvr (F_ N_ P_ : Nat) (lo_ hi_ : Nat → Int) (v_ : Nat → Nat → Bool) : Prop := ∀ q_, q_ < P_ → (0 < N_ → v_ 0 q_ = false) ∧ (∀ n_, 1 ≤ n_ → n_ < F_ → n_ < N_ → v_ n_ q_ = Nat.testBit q_ (n_ - 1)) ∧ ∀ n_, F_ ≤ n_ → n_ < N_ → v_ n_ q_ = (ltv v_ (lo_ n_) q_ && ltv v_ (hi_ n_) q_)
theorem nvr_of {F_ N_ W_ bi_ : Nat} {mk_ : Int} {lo_ hi_ R_ : Nat → Int} (h_ : fwr F_ N_ W_ mk_ lo_ hi_ R_) (hw_ : wmk (bi_ : Int) W_ mk_) (hF_ : F_ ≤ 13) : nvr F_ N_ (2 ^ bi_) lo_ hi_ (pvl R_) := by
  intro q_ hq_
  obtain ⟨w1_, w2_⟩ := wmk_q hw_ hq_
  refine ⟨fun hN_ => ?_, fun n_ h1_ h2_ h3_ => ?_, fun n_ h1_ h2_ => ?_⟩
  · have e_ := ((h_ 0 hN_).1 (q_ / 64) w1_).2.2 rfl
    unfold pvl
    rw [e_]
    exact lbt_0
  · have e_ := (h_ n_ h3_).2 (q_ / 64) w1_ h1_ h2_
    unfold pvl
    rw [e_, lbt_3, w2_, Bool.and_true, bwv_b (by omega) (Nat.mod_lt _ (by decide)), show 64 * (q_ / 64) + q_ % 64 = q_ by omega]
  · have e_ := ((h_ n_ h2_).1 (q_ / 64) w1_).2.1 h1_
    show lbt (R_ (64 * n_ + q_ / 64)) (q_ % 64) = _
    rw [e_, lbt_3, w2_, Bool.and_true, lbt_3, wlt_b, wlt_b]
theorem ltv_cg {v_ u_ : Nat → Nat → Bool} {l_ : Int} {q_ q'_ : Nat} (h_ : v_ (l_ / 2).toNat q_ = u_ (l_ / 2).toNat q'_) : ltv v_ l_ q_ = ltv u_ l_ q'_ := by
  unfold ltv
  rw [h_]
theorem nvr_u {F_ N_ P_ Q_ : Nat} {lo_ hi_ lo'_ hi'_ : Nat → Int} {v_ u_ : Nat → Nat → Bool} (hg_ : glo F_ N_ lo_ hi_) (e_ : ∀ n_, F_ ≤ n_ → n_ < N_ → lo'_ n_ = lo_ n_ ∧ hi'_ n_ = hi_ n_) (h_ : nvr F_ N_ P_ lo_ hi_ v_) (g_ : nvr F_ N_ Q_ lo'_ hi'_ u_) : ∀ (m_ n_ : Nat), n_ < m_ → n_ < N_ → ∀ q_, q_ < P_ → q_ < Q_ → v_ n_ q_ = u_ n_ q_
  | 0, n_, hm_, _, _, _, _ => absurd hm_ (Nat.not_lt_zero _)
  | m_ + 1, n_, hm_, hN_, q_, hp_, hq_ => by
    obtain ⟨a1_, a2_, a3_⟩ := h_ q_ hp_
    obtain ⟨b1_, b2_, b3_⟩ := g_ q_ hq_
    by_cases c_ : n_ = 0
    · rw [c_, a1_ (by omega), b1_ (by omega)]
    · by_cases d_ : n_ < F_
      · rw [a2_ n_ (by omega) d_ hN_, b2_ n_ (by omega) d_ hN_]
      · have x_ := hg_ n_ (by omega) hN_
        have y_ := e_ n_ (by omega) hN_
        rw [a3_ n_ (by omega) hN_, b3_ n_ (by omega) hN_, y_.1, y_.2, ltv_cg (u_ := u_) (nvr_u hg_ e_ h_ g_ m_ _ (by omega) (by omega) q_ hp_ hq_), ltv_cg (u_ := u_) (nvr_u hg_ e_ h_ g_ m_ _ (by omega) (by omega) q_ hp_ hq_)]
/-- a_ value hangs on_ the_ inputs and registers alone -/
theorem nvr_p {F_ N_ P_ b_ : Nat} {lo_ hi_ : Nat → Int} {v_ : Nat → Nat → Bool} (hg_ : glo F_ N_ lo_ hi_) (hb_ : F_ ≤ b_ + 1) (h_ : nvr F_ N_ P_ lo_ hi_ v_) : ∀ (m_ n_ : Nat), n_ < m_ → n_ < N_ → ∀ q_, q_ < P_ → v_ n_ q_ = v_ n_ (q_ % 2 ^ b_)
  | 0, n_, hm_, _, _, _ => absurd hm_ (Nat.not_lt_zero _)
  | m_ + 1, n_, hm_, hN_, q_, hp_ => by
    have hp2_ : q_ % 2 ^ b_ < P_ := Nat.lt_of_le_of_lt (Nat.mod_le _ _) hp_
    obtain ⟨a1_, a2_, a3_⟩ := h_ q_ hp_
    obtain ⟨b1_, b2_, b3_⟩ := h_ (q_ % 2 ^ b_) hp2_
    by_cases c_ : n_ = 0
    · rw [c_, a1_ (by omega), b1_ (by omega)]
    · by_cases d_ : n_ < F_
      · rw [a2_ n_ (by omega) d_ hN_, b2_ n_ (by omega) d_ hN_, Nat.testBit_mod_two_pow, decide_eq_true (show n_ - 1 < b_ by omega), Bool.true_and]
      · have x_ := hg_ n_ (by omega) hN_
        rw [a3_ n_ (by omega) hN_, b3_ n_ (by omega) hN_, ltv_cg (u_ := v_) (nvr_p hg_ hb_ h_ m_ _ (by omega) (by omega) q_ hp_), ltv_cg (u_ := v_) (nvr_p hg_ hb_ h_ m_ _ (by omega) (by omega) q_ hp_)]
/-- alike over all_ patterns, turned or not -/
def pal (v_ : Nat → Nat → Bool) (P_ n_ p_ : Nat) (s_ : Bool) : Prop := ∀ q_, q_ < P_ → v_ n_ q_ = Bool.xor (v_ p_ q_) s_
theorem lik_pal {W_ bi_ n_ p_ : Nat} {mk_ t_ : Int} {R_ : Nat → Int} (hw_ : wmk (bi_ : Int) W_ mk_) (ht_ : tmk mk_ t_) (h_ : lik W_ R_ n_ p_ t_) : pal (pvl R_) (2 ^ bi_) n_ p_ (decide (t_ ≠ 0)) := by
  intro q_ hq_
  obtain ⟨w1_, w2_⟩ := wmk_q hw_ hq_
  show lbt (R_ (64 * n_ + q_ / 64)) (q_ % 64) = _
  rw [h_ (q_ / 64) w1_, lbt_5]
  rcases ht_ with ht_ | ht_
  · rw [ht_, lbt_0]
    rfl
  · rw [ht_, w2_, decide_eq_true (wmk_c hw_).2.1]
    rfl
theorem pal_lik {W_ bi_ n_ p_ : Nat} {mk_ : Int} {s_ : Bool} {R_ : Nat → Int} (hw_ : wmk (bi_ : Int) W_ mk_) (hn_ : rok W_ mk_ R_ n_) (hp_ : rok W_ mk_ R_ p_) (h_ : pal (pvl R_) (2 ^ bi_) n_ p_ s_) : lik W_ R_ n_ p_ (if s_ = true then mk_ else 0) := by
  have mt_ : tmk mk_ (if s_ = true then mk_ else 0) := by
    split
    · exact Or.inr rfl
    · exact Or.inl rfl
  intro w_ hw2_
  refine lbt_e (rok_c hn_ w_ hw2_) lcn_5 (fun i_ hi_ => ?_)
  rw [lbt_5]
  by_cases c_ : lbt mk_ i_ = true
  · have q_ := h_ (64 * w_ + i_) (wmk_i hw_ hw2_ hi_ c_)
    unfold pvl at q_
    rw [show (64 * w_ + i_) / 64 = w_ by omega, show (64 * w_ + i_) % 64 = i_ by omega] at q_
    rw [q_]
    cases s_
    · rw [if_neg (by decide), lbt_0]
    · rw [if_pos rfl, c_]
  · have c0_ : lbt mk_ i_ = false := by
      cases z_ : lbt mk_ i_
      · rfl
      · exact absurd z_ c_
    have x1_ : lbt (R_ (64 * n_ + w_)) i_ = false := by
      rw [← hn_ w_ hw2_, lbt_3, c0_, Bool.and_false]
    have x2_ : lbt (R_ (64 * p_ + w_)) i_ = false := by
      rw [← hp_ w_ hw2_, lbt_3, c0_, Bool.and_false]
    have x3_ : lbt (if s_ = true then mk_ else 0) i_ = false := by
      rcases mt_ with z_ | z_
      · rw [z_]; exact lbt_0
      · rw [z_]; exact c0_
    rw [x1_, x2_, x3_]
    rfl
/-- whom the_ nodes below n_ stand for_, by rows -/
def swl (W_ : Nat) (mk_ : Int) (R_ : Nat → Int) (n_ : Nat) (sf_ : Nat → Int) : Prop := ∀ m_, m_ < n_ → (sf_ m_ = 2 * (m_ : Int) ∧ ∀ p_, sPn sf_ m_ p_ → ∀ t_, tmk mk_ t_ → ¬ lik W_ R_ m_ p_ t_) ∨ ∃ p_ t_, sPn sf_ m_ p_ ∧ tmk mk_ t_ ∧ lik W_ R_ m_ p_ t_ ∧ sf_ m_ = 2 * (p_ : Int) + (if t_ = 0 then 0 else 1)
/-- by patterns -/
def swc (P_ N_ : Nat) (v_ : Nat → Nat → Bool) (sf_ : Nat → Int) : Prop := ∀ m_, m_ < N_ → (sf_ m_ = 2 * (m_ : Int) ∧ ∀ p_, sPn sf_ m_ p_ → ∀ s_, ¬ pal v_ P_ m_ p_ s_) ∨ ∃ p_ s_, sPn sf_ m_ p_ ∧ pal v_ P_ m_ p_ s_ ∧ sf_ m_ = 2 * (p_ : Int) + (if s_ = true then 1 else 0)
theorem swl_c {W_ bi_ N_ : Nat} {mk_ : Int} {R_ sf_ : Nat → Int} (hw_ : wmk (bi_ : Int) W_ mk_) (hr_ : ∀ n_, n_ < N_ → rok W_ mk_ R_ n_) (h_ : swl W_ mk_ R_ N_ sf_) : swc (2 ^ bi_) N_ (pvl R_) sf_ := by
  intro m_ hm_
  rcases h_ m_ hm_ with ⟨h1_, h2_⟩ | ⟨p_, t_, h1_, h2_, h3_, h4_⟩
  · refine Or.inl ⟨h1_, fun p_ hp_ s_ hs_ => ?_⟩
    have k_ := pal_lik hw_ (hr_ m_ hm_) (hr_ p_ (by have := hp_.1; omega)) hs_
    refine h2_ p_ hp_ _ ?_ k_
    split
    · exact Or.inr rfl
    · exact Or.inl rfl
  · refine Or.inr ⟨p_, decide (t_ ≠ 0), h1_, lik_pal hw_ h2_ h3_, ?_⟩
    rw [h4_]
    by_cases c_ : t_ = 0
    · rw [if_pos c_, if_neg (by rw [decide_eq_false (fun z_ => z_ c_)]; decide)]
    · rw [if_neg c_, if_pos (decide_eq_true c_)]
theorem pal_cg {v_ u_ : Nat → Nat → Bool} {P_ Q_ n_ p_ : Nat} {s_ : Bool} (hn_ : ∀ q_, q_ < P_ → v_ n_ q_ = u_ n_ (q_ % Q_)) (hp_ : ∀ q_, q_ < P_ → v_ p_ q_ = u_ p_ (q_ % Q_)) (hQ_ : 0 < Q_) (h_ : pal u_ Q_ n_ p_ s_) : pal v_ P_ n_ p_ s_ := fun q_ hq_ => by
  rw [hn_ q_ hq_, hp_ q_ hq_]
  exact h_ _ (Nat.mod_lt _ hQ_)
/-- the_ patterns of_ the_ inputs and registers are_ enough -/
theorem swc_p {F_ N_ b_ bi_ : Nat} {lo_ hi_ sf_ : Nat → Int} {v_ : Nat → Nat → Bool} (hg_ : glo F_ N_ lo_ hi_) (hb_ : F_ ≤ b_ + 1) (hbi_ : b_ ≤ bi_) (hv_ : nvr F_ N_ (2 ^ bi_) lo_ hi_ v_) (h_ : swc (2 ^ bi_) N_ v_ sf_) : swc (2 ^ b_) N_ v_ sf_ := by
  have le_ := p2_le hbi_
  have up_ : ∀ m_ p_ s_, m_ < N_ → p_ < N_ → pal v_ (2 ^ b_) m_ p_ s_ → pal v_ (2 ^ bi_) m_ p_ s_ := fun m_ p_ s_ hm_ hp_ k_ => pal_cg (fun q_ hq_ => nvr_p hg_ hb_ hv_ (m_ + 1) m_ (Nat.lt_succ_self m_) hm_ q_ hq_) (fun q_ hq_ => nvr_p hg_ hb_ hv_ (p_ + 1) p_ (Nat.lt_succ_self p_) hp_ q_ hq_) (Nat.two_pow_pos _) k_
  intro m_ hm_
  rcases h_ m_ hm_ with ⟨h1_, h2_⟩ | ⟨p_, s_, h1_, h2_, h3_⟩
  · exact Or.inl ⟨h1_, fun p_ hp_ s_ hs_ => h2_ p_ hp_ s_ (up_ m_ p_ s_ hm_ (by have := hp_.1; omega) hs_)⟩
  · exact Or.inr ⟨p_, s_, h1_, fun q_ hq_ => h2_ q_ (by omega), h3_⟩
theorem swc_v {P_ N_ : Nat} {v_ u_ : Nat → Nat → Bool} {sf_ : Nat → Int} (e_ : ∀ n_, n_ < N_ → ∀ q_, q_ < P_ → v_ n_ q_ = u_ n_ q_) (h_ : swc P_ N_ v_ sf_) : swc P_ N_ u_ sf_ := by
  intro m_ hm_
  rcases h_ m_ hm_ with ⟨h1_, h2_⟩ | ⟨p_, s_, h1_, h2_, h3_⟩
  · exact Or.inl ⟨h1_, fun p_ hp_ s_ hs_ => h2_ p_ hp_ s_ (fun q_ hq_ => by
      have k_ := hp_.1
      rw [e_ m_ hm_ q_ hq_, e_ p_ (by omega) q_ hq_]
      exact hs_ q_ hq_)⟩
  · refine Or.inr ⟨p_, s_, h1_, fun q_ hq_ => ?_, h3_⟩
    have k_ := h1_.1
    rw [← e_ m_ hm_ q_ hq_, ← e_ p_ (by omega) q_ hq_]
    exact h2_ q_ hq_
/-- of_ two_ nodes that stand for_ themselves none is_ like the_ other -/
theorem swc_no {P_ N_ n_ p_ r_ : Nat} {v_ : Nat → Nat → Bool} {sf_ : Nat → Int} {s_ t_ : Bool} (h_ : swc P_ N_ v_ sf_) (hn_ : n_ < N_) (h1_ : sPn sf_ n_ p_) (h2_ : sPn sf_ n_ r_) (k1_ : pal v_ P_ n_ p_ s_) (k2_ : pal v_ P_ n_ r_ t_) (hl_ : p_ < r_) : False := by
  have a1_ := h1_.1
  have a2_ := h2_.1
  have a3_ := h2_.2
  rcases h_ r_ (by omega) with ⟨-, g_⟩ | ⟨x_, y_, g1_, g2_, g3_⟩
  · refine g_ p_ ⟨hl_, h1_.2⟩ (Bool.xor s_ t_) (fun q_ hq_ => ?_)
    have c1_ := k1_ q_ hq_
    have c2_ := k2_ q_ hq_
    rw [c1_] at c2_
    revert c2_
    cases v_ p_ q_ <;> cases v_ r_ q_ <;> cases s_ <;> cases t_ <;> decide
  · have b1_ := g1_.1
    rw [a3_] at g3_
    revert g3_
    cases y_
    · intro g3_
      rw [if_neg (by decide)] at g3_
      omega
    · intro g3_
      rw [if_pos rfl] at g3_
      omega
theorem swc_u {P_ N_ : Nat} {v_ : Nat → Nat → Bool} {sf_ sg_ : Nat → Int} (hP_ : 0 < P_) (h_ : swc P_ N_ v_ sf_) (g_ : swc P_ N_ v_ sg_) : ∀ (m_ n_ : Nat), n_ < m_ → n_ < N_ → sf_ n_ = sg_ n_
  | 0, n_, hm_, _ => absurd hm_ (Nat.not_lt_zero _)
  | m_ + 1, n_, hm_, hN_ => by
    have ih_ : ∀ k_, k_ < n_ → sf_ k_ = sg_ k_ := fun k_ hk_ => swc_u hP_ h_ g_ m_ k_ (by omega) (by omega)
    have fg_ : ∀ p_, sPn sf_ n_ p_ → sPn sg_ n_ p_ := fun p_ hp_ => ⟨hp_.1, by rw [← ih_ p_ hp_.1]; exact hp_.2⟩
    have gf_ : ∀ p_, sPn sg_ n_ p_ → sPn sf_ n_ p_ := fun p_ hp_ => ⟨hp_.1, by rw [ih_ p_ hp_.1]; exact hp_.2⟩
    rcases h_ n_ hN_ with ⟨h1_, h2_⟩ | ⟨p_, s_, h1_, h2_, h3_⟩
    · rcases g_ n_ hN_ with ⟨g1_, g2_⟩ | ⟨r_, t_, g1_, g2_, g3_⟩
      · rw [h1_, g1_]
      · exact absurd g2_ (h2_ r_ (gf_ r_ g1_) t_)
    · rcases g_ n_ hN_ with ⟨g1_, g2_⟩ | ⟨r_, t_, g1_, g2_, g3_⟩
      · exact absurd h2_ (g2_ p_ (fg_ p_ h1_) s_)
      · rcases Nat.lt_trichotomy p_ r_ with c_ | c_ | c_
        · exact (swc_no h_ hN_ h1_ (gf_ r_ g1_) h2_ g2_ c_).elim
        · subst c_
          have c1_ := h2_ 0 hP_
          have c2_ := g2_ 0 hP_
          rw [c1_] at c2_
          have st_ : s_ = t_ := by
            revert c2_
            cases v_ p_ 0 <;> cases s_ <;> cases t_ <;> decide
          rw [h3_, g3_, st_]
        · exact (swc_no h_ hN_ (gf_ r_ g1_) h1_ g2_ h2_ c_).elim
/-- whom the_ nodes of_ a_ graph stand for_ -/
def swd (F_ N_ : Nat) (lo_ hi_ sf_ : Nat → Int) : Prop := ∃ (bi_ W_ : Nat) (mk_ : Int) (R_ : Nat → Int), F_ ≤ bi_ + 1 ∧ wmk (bi_ : Int) W_ mk_ ∧ fwr F_ N_ W_ mk_ lo_ hi_ R_ ∧ swl W_ mk_ R_ N_ sf_
theorem swd_u {F_ N_ : Nat} {lo_ hi_ sf_ lo'_ hi'_ sg_ : Nat → Int} (hF_ : 1 ≤ F_ ∧ F_ ≤ 13) (hg_ : glo F_ N_ lo_ hi_) (e_ : ∀ n_, F_ ≤ n_ → n_ < N_ → lo'_ n_ = lo_ n_ ∧ hi'_ n_ = hi_ n_) (h_ : swd F_ N_ lo_ hi_ sf_) (g_ : swd F_ N_ lo'_ hi'_ sg_) : ∀ n_, n_ < N_ → sf_ n_ = sg_ n_ := by
  obtain ⟨b1_, W1_, m1_, R1_, x1_, x2_, x3_, x4_⟩ := h_
  obtain ⟨b2_, W2_, m2_, R2_, y1_, y2_, y3_, y4_⟩ := g_
  have hg2_ : glo F_ N_ lo'_ hi'_ := fun k_ h1_ h2_ => by
    rw [(e_ k_ h1_ h2_).1, (e_ k_ h1_ h2_).2]
    exact hg_ k_ h1_ h2_
  have v1_ := nvr_of x3_ x2_ hF_.2
  have v2_ := nvr_of y3_ y2_ hF_.2
  have c1_ := swc_p (b_ := F_ - 1) hg_ (by omega) (by omega) v1_ (swl_c x2_ (fun n_ hn_ w_ hw_ => ((x3_ n_ hn_).1 w_ hw_).1) x4_)
  have c2_ := swc_p (b_ := F_ - 1) hg2_ (by omega) (by omega) v2_ (swl_c y2_ (fun n_ hn_ w_ hw_ => ((y3_ n_ hn_).1 w_ hw_).1) y4_)
  have l1_ := p2_le (show F_ - 1 ≤ b1_ by omega)
  have l2_ := p2_le (show F_ - 1 ≤ b2_ by omega)
  have c3_ := swc_v (fun n_ hn_ q_ hq_ => (nvr_u hg_ e_ v1_ v2_ (n_ + 1) n_ (Nat.lt_succ_self n_) hn_ q_ (by omega) (by omega))) c1_
  exact fun n_ hn_ => swc_u (Nat.two_pow_pos _) c3_ c2_ (n_ + 1) n_ (Nat.lt_succ_self n_) hn_
/-! the_ steps of_ a_ sweep -/
theorem swl_0 {W_ : Nat} {mk_ : Int} {R_ sf_ : Nat → Int} : swl W_ mk_ R_ 0 sf_ := fun m_ hm_ => absurd hm_ (Nat.not_lt_zero _)
theorem swl_cg {W_ n_ : Nat} {mk_ : Int} {R_ Q_ sf_ sg_ : Nat → Int} (h_ : swl W_ mk_ R_ n_ sf_) (hW_ : W_ ≤ 64) (hQ_ : ∀ j_, j_ < 64 * n_ → Q_ j_ = R_ j_) (hs_ : ∀ k_, k_ < n_ → sg_ k_ = sf_ k_) : swl W_ mk_ Q_ n_ sg_ := by
  have lk_ : ∀ m_ p_ t_, m_ < n_ → p_ < n_ → (lik W_ Q_ m_ p_ t_ ↔ lik W_ R_ m_ p_ t_) := fun m_ p_ t_ hm_ hp_ => ⟨fun k_ => lik_cg k_ (fun w_ hw_ => (hQ_ _ (by omega)).symm) (fun w_ hw_ => (hQ_ _ (by omega)).symm), fun k_ => lik_cg k_ (fun w_ hw_ => hQ_ _ (by omega)) (fun w_ hw_ => hQ_ _ (by omega))⟩
  intro m_ hm_
  have sp_ : ∀ p_, sPn sg_ m_ p_ ↔ sPn sf_ m_ p_ := fun p_ => sPn_sf (fun k_ hk_ => hs_ k_ (by omega))
  rw [hs_ m_ hm_]
  rcases h_ m_ hm_ with ⟨h1_, h2_⟩ | ⟨p_, t_, h1_, h2_, h3_, h4_⟩
  · exact Or.inl ⟨h1_, fun p_ hp_ t_ ht_ k_ => h2_ p_ ((sp_ p_).mp hp_) t_ ht_ ((lk_ m_ p_ t_ hm_ (by have := hp_.1; omega)).mp k_)⟩
  · exact Or.inr ⟨p_, t_, (sp_ p_).mpr h1_, h2_, (lk_ m_ p_ t_ hm_ (by have := h1_.1; omega)).mpr h3_, h4_⟩
theorem swl_s {W_ n_ : Nat} {mk_ : Int} {R_ sf_ : Nat → Int} (h_ : swl W_ mk_ R_ n_ sf_) (g_ : (sf_ n_ = 2 * (n_ : Int) ∧ ∀ p_, sPn sf_ n_ p_ → ∀ t_, tmk mk_ t_ → ¬ lik W_ R_ n_ p_ t_) ∨ ∃ p_ t_, sPn sf_ n_ p_ ∧ tmk mk_ t_ ∧ lik W_ R_ n_ p_ t_ ∧ sf_ n_ = 2 * (p_ : Int) + (if t_ = 0 then 0 else 1)) : swl W_ mk_ R_ (n_ + 1) sf_ := by
  intro m_ hm_
  by_cases c_ : m_ = n_
  · rw [c_]
    exact g_
  · exact h_ m_ (by omega)
theorem srw_cw {F_ n_ W_ : Nat} {mk_ : Int} {lo_ hi_ R_ Q_ : Nat → Int} (hg_ : F_ ≤ n_ → 2 ≤ lo_ n_ ∧ lo_ n_ < hi_ n_ ∧ hi_ n_ < 2 * (n_ : Int)) (hW_ : W_ ≤ 64) (h_ : srw F_ n_ W_ mk_ lo_ hi_ R_) (e_ : ∀ k_, k_ < 64 * (n_ + 1) → Q_ k_ = R_ k_) : srw F_ n_ W_ mk_ lo_ hi_ Q_ := by
  intro j_ hj_
  have q_ := h_ j_ hj_
  rw [e_ _ (by omega)]
  refine ⟨q_.1, fun a_ => ?_, q_.2.2⟩
  have g_ := hg_ a_
  rw [wlt_cg (R_ := R_) (e_ _ (by omega)), wlt_cg (R_ := R_) (e_ _ (by omega))]
  exact q_.2.1 a_
theorem srb_cg {F_ n_ W_ : Nat} {mk_ : Int} {R_ Q_ : Nat → Int} (h_ : srb F_ n_ W_ mk_ R_) (hW_ : W_ ≤ 64) (e_ : ∀ k_, k_ < 64 * (n_ + 1) → Q_ k_ = R_ k_) : srb F_ n_ W_ mk_ Q_ := fun j_ hj_ a_ b_ => (e_ _ (by omega)).trans (h_ j_ hj_ a_ b_)
theorem fwr_cg {F_ n_ N_ W_ : Nat} {mk_ : Int} {lo_ hi_ R_ Q_ : Nat → Int} (hg_ : glo F_ N_ lo_ hi_) (hN_ : n_ ≤ N_) (hW_ : W_ ≤ 64) (h_ : fwr F_ n_ W_ mk_ lo_ hi_ R_) (e_ : ∀ k_, k_ < 64 * n_ → Q_ k_ = R_ k_) : fwr F_ n_ W_ mk_ lo_ hi_ Q_ := fun m_ hm_ => ⟨srw_cw (fun a_ => hg_ m_ a_ (by omega)) hW_ (h_ m_ hm_).1 (fun k_ hk_ => e_ k_ (by omega)), srb_cg (h_ m_ hm_).2 hW_ (fun k_ hk_ => e_ k_ (by omega))⟩
theorem fwr_s {F_ n_ W_ : Nat} {mk_ : Int} {lo_ hi_ R_ : Nat → Int} (h_ : fwr F_ n_ W_ mk_ lo_ hi_ R_) (h1_ : srw F_ n_ W_ mk_ lo_ hi_ R_) (h2_ : srb F_ n_ W_ mk_ R_) : fwr F_ (n_ + 1) W_ mk_ lo_ hi_ R_ := fun m_ hm_ => by
  by_cases c_ : m_ = n_
  · rw [c_]
    exact ⟨h1_, h2_⟩
  · exact h_ m_ (by omega)
theorem srb_up {F_ n_ w_ : Nat} {mk_ row_ : Int} {R_ Q_ : Nat → Int} (h_ : srb F_ n_ w_ mk_ R_) (e_ : ∀ k_, Q_ k_ = if k_ = 64 * n_ + w_ then l_3 row_ mk_ else R_ k_) (h1_ : 1 ≤ n_ → n_ < F_ → row_ = bwv (n_ - 1) w_) : srb F_ n_ (w_ + 1) mk_ Q_ := by
  intro j_ hj_ a_ b_
  rw [e_]
  by_cases c_ : j_ = w_
  · rw [if_pos (by omega), c_, h1_ a_ b_]
  · rw [if_neg (by omega)]
    exact h_ j_ (by omega) a_ b_
theorem wmk_64 {bi_ W_ : Nat} {mk_ : Int} (h_ : wmk (bi_ : Int) W_ mk_) : W_ ≤ 64 := by
  rcases h_ with ⟨h1_, h2_, h3_, h4_⟩ | ⟨h1_, h2_, h3_, h4_⟩
  · have l_ := p2_le (show ((bi_ : Int) - 6).toNat ≤ 6 by omega)
    rw [h3_]
    exact l_
  · omega
theorem swd_cg {F_ N_ : Nat} {lo_ hi_ sf_ lo'_ hi'_ sg_ : Nat → Int} (h_ : swd F_ N_ lo_ hi_ sf_) (e_ : ∀ k_, k_ < N_ → lo'_ k_ = lo_ k_ ∧ hi'_ k_ = hi_ k_ ∧ sg_ k_ = sf_ k_) : swd F_ N_ lo'_ hi'_ sg_ := by
  obtain ⟨bi_, W_, mk_, R_, h1_, h2_, h3_, h4_⟩ := h_
  refine ⟨bi_, W_, mk_, R_, h1_, h2_, fun n_ hn_ => ⟨fun j_ hj_ => ?_, (h3_ n_ hn_).2⟩, swl_cg h4_ (wmk_64 h2_) (fun _ _ => rfl) (fun k_ hk_ => (e_ k_ hk_).2.2)⟩
  have q_ := (h3_ n_ hn_).1 j_ hj_
  refine ⟨q_.1, fun a_ => ?_, q_.2.2⟩
  rw [(e_ n_ hn_).1, (e_ n_ hn_).2.1]
  exact q_.2.1 a_
theorem p2_tn {k_ : Nat} {x_ : Int} (h_ : x_ = 2 ^ k_) : x_.toNat = 2 ^ k_ := by
  rw [h_, show (2 : Int) ^ k_ = ((2 ^ k_ : Nat) : Int) by push_cast; rfl]
  exact Int.toNat_natCast _
end
