/-! ways of making a literal; written by wip/p55/gen/vg -/

/-! ways of_ making a_ literal -/
theorem tbit {v_ e_ k_ : Int} (hv_ : 0 ≤ v_ ∧ v_ < 48) (he_ : e_ = 2 ∨ e_ = 3) (hk_ : 0 ≤ k_ ∧ k_ < e_) : i_shr (i_and v_ (i_shl 1 e_ - 1)) k_ % 2 = i_shr v_ k_ % 2 := by
  have c2_ : ∀ j_ : Fin 48, ∀ i_ : Fin 2, i_shr (i_and ((j_.val : Nat) : Int) (i_shl 1 2 - 1)) ((i_.val : Nat) : Int) % 2 = i_shr ((j_.val : Nat) : Int) ((i_.val : Nat) : Int) % 2 := by decide +kernel
  have c3_ : ∀ j_ : Fin 48, ∀ i_ : Fin 3, i_shr (i_and ((j_.val : Nat) : Int) (i_shl 1 3 - 1)) ((i_.val : Nat) : Int) % 2 = i_shr ((j_.val : Nat) : Int) ((i_.val : Nat) : Int) % 2 := by decide +kernel
  have hv1_ : ((v_.toNat : Nat) : Int) = v_ := by omega
  have hk1_ : ((k_.toNat : Nat) : Int) = k_ := by omega
  rcases he_ with he_ | he_
  · have q_ := c2_ ⟨v_.toNat, by omega⟩ ⟨k_.toNat, by omega⟩
    simp only [hv1_, hk1_] at q_
    rw [he_]; exact q_
  · have q_ := c3_ ⟨v_.toNat, by omega⟩ ⟨k_.toNat, by omega⟩
    simp only [hv1_, hk1_] at q_
    rw [he_]; exact q_
theorem mcs_b {P_ : Int → Prop} {S_ : sm_S} (g_ : mcs P_ S_) {i_ k_ : Int} (hi_ : 0 ≤ i_ ∧ i_ < S_.1 6 0 11) (hk_ : 0 ≤ k_ ∧ k_ ≤ 2) (hn_ : k_ = 2 → S_.2.2.1 65 0 (3 * i_ + 2).toNat ≠ -1) : P_ (S_.2.2.1 65 0 (3 * i_ + k_).toNat) := by
  have q_ := g_ i_.toNat (by omega)
  have c_ : k_ = 0 ∨ k_ = 1 ∨ k_ = 2 := by omega
  rcases c_ with c_ | c_ | c_
  · rw [show (3 * i_ + k_).toNat = 3 * i_.toNat by omega]; exact q_.1
  · rw [show (3 * i_ + k_).toNat = 3 * i_.toNat + 1 by omega]; exact q_.2.1
  · have w_ := hn_ c_
    rw [show (3 * i_ + 2).toNat = 3 * i_.toNat + 2 by omega] at w_
    rw [show (3 * i_ + k_).toNat = 3 * i_.toNat + 2 by omega]
    exact q_.2.2.resolve_left w_
/-- a_ part may_ be_ made: node x_, turned or not; inverter iv_ -/
def wpt (F_ n_ iv_ : Int) (u_ r_ need : Nat → Int) (x_ t_ : Int) : Prop := npd n_ u_ x_ ∧ imq ((x_ < F_ ∨ r_ x_.toNat ≠ 0) ∧ t_ ≠ 0) (iv_ ≠ -1) ∧ imq (F_ ≤ x_ ∧ r_ x_.toNat = 0) (need (2 * x_ + t_).toNat < 268435456)
/-- a_ literal has_ no_ way_, or a_ cell with its_ parts -/
def wo3 (F_ n_ : Int) (ll_ : Nat) (S_ : sm_S) (l_ : Nat) : Prop := (S_.2.2.1 62 0 l_ = -1 ∧ S_.2.2.1 61 0 l_ = 268435456) ∨ (0 ≤ S_.2.2.1 62 0 l_ ∧ S_.2.2.1 61 0 l_ < 268435456 ∧ ∀ k_ : Nat, (k_ : Int) < S_.2.2.1 55 (0 + ll_) (S_.2.2.1 62 0 l_).toNat → wpt F_ n_ (S_.1 5 ll_ 2) (S_.2.2.1 59 0) (S_.2.2.1 60 0) (S_.2.2.1 61 0) (S_.2.2.1 64 0 (3 * l_ + k_)) (i_shr (S_.2.2.1 63 0 l_) (k_ : Int) % 2))
/-- only literal l_ has_ changed -/
def wfl (l_ : Nat) (S_ S'_ : sm_S) : Prop := (∀ j_, j_ ≠ l_ → S'_.2.2.1 61 0 j_ = S_.2.2.1 61 0 j_ ∧ S'_.2.2.1 62 0 j_ = S_.2.2.1 62 0 j_ ∧ S'_.2.2.1 63 0 j_ = S_.2.2.1 63 0 j_) ∧ ∀ j_, (j_ < 3 * l_ ∨ 3 * l_ + 3 ≤ j_) → S'_.2.2.1 64 0 j_ = S_.2.2.1 64 0 j_
theorem wfl_rf {l_ : Nat} {S_ : sm_S} : wfl l_ S_ S_ := ⟨fun _ _ => ⟨rfl, rfl, rfl⟩, fun _ _ => rfl⟩
theorem wfl_tr {l_ : Nat} {S_ S'_ S2_ : sm_S} (h_ : wfl l_ S_ S'_) (g_ : wfl l_ S'_ S2_) : wfl l_ S_ S2_ := ⟨fun j_ hj_ => ⟨(g_.1 j_ hj_).1.trans (h_.1 j_ hj_).1, (g_.1 j_ hj_).2.1.trans (h_.1 j_ hj_).2.1, (g_.1 j_ hj_).2.2.trans (h_.1 j_ hj_).2.2⟩, fun j_ hj_ => (g_.2 j_ hj_).trans (h_.2 j_ hj_)⟩
theorem wpt_cg {F_ n_ iv_ : Int} {u_ r_ f_ g_ : Nat → Int} {x_ t_ : Int} (h_ : wpt F_ n_ iv_ u_ r_ f_ x_ t_) (ht_ : 0 ≤ t_ ∧ t_ ≤ 1) (e_ : ∀ j_ : Nat, (j_ : Int) < 2 * n_ → g_ j_ = f_ j_) : wpt F_ n_ iv_ u_ r_ g_ x_ t_ := by
  obtain ⟨a_, b_, c_⟩ := h_
  refine ⟨a_, b_, fun q_ => ?_⟩
  have a1_ := a_.1
  have a2_ := a_.2.1
  rw [e_ _ (by omega)]
  exact c_ q_
/-- another literal's way_ stays -/
theorem wo3_cg {F_ n_ : Int} {ll_ l_ m_ : Nat} {S_ S'_ : sm_S} (h_ : wo3 F_ n_ ll_ S_ l_) (g_ : wfl m_ S_ S'_) (ne_ : l_ ≠ m_) (hm_ : 2 * n_ ≤ (m_ : Int)) (e5_ : S'_.1 5 ll_ 2 = S_.1 5 ll_ 2) (e55_ : S'_.2.2.1 55 (0 + ll_) = S_.2.2.1 55 (0 + ll_)) (e59_ : S'_.2.2.1 59 0 = S_.2.2.1 59 0) (e60_ : S'_.2.2.1 60 0 = S_.2.2.1 60 0) (c55_ : ∀ k_, S_.2.2.1 55 (0 + ll_) k_ ≤ 3) : wo3 F_ n_ ll_ S'_ l_ := by
  unfold wo3
  rw [(g_.1 l_ ne_).1, (g_.1 l_ ne_).2.1, (g_.1 l_ ne_).2.2, e5_, e55_, e59_, e60_]
  rcases h_ with h_ | h_
  · exact Or.inl h_
  · refine Or.inr ⟨h_.1, h_.2.1, fun k_ hk_ => ?_⟩
    have w_ := c55_ (S_.2.2.1 62 0 l_).toNat
    rw [g_.2 (3 * l_ + k_) (by omega)]
    exact wpt_cg (h_.2.2 k_ hk_) (by omega) (fun j_ hj_ => (g_.1 j_ (by omega)).1)
/-! Mapper.offer -/
def vw_108 : sx_Wl := ([], [61, 62, 63, 64], [])
def vq_108 (a1_ : Int) (a2_ : Int) (a3_ : Int) (a4_ : Int) (dd_ : Nat) (ll_ : Nat) (n9_ : Int) (S0_ : sm_S) (u_ : Option sm_V) (S1_ : sm_S) : Prop := u_ = none ∧ gi S1_ ∧ ai_fr (sx_W vw_108) S0_ S1_ ∧ (wo3 (1 + S0_.1 3 dd_ 1 + S0_.1 3 dd_ 2) n9_ ll_ S1_ a1_.toNat ∧ wfl a1_.toNat S0_ S1_)
set_option maxHeartbeats 3000000 in
set_option maxRecDepth 20000 in
theorem vl_108 {sc_ : Nat × (Nat → Int)} (a1_ : Int) (a2_ : Int) (a3_ : Int) (a4_ : Int) (dd_ : Nat) (ll_ : Nat) (n9_ : Int) (S0_ : sm_S) (hd_ : S0_.2.1 6 0 0 = some dd_) (hc_ : S0_.2.1 6 0 1 = some ll_) (h1_ : (a1_ = 2 * n9_ ∨ a1_ = 2 * n9_ + 1) ∧ 1 ≤ n9_ ∧ n9_ ≤ 1012) (h2_ : 0 ≤ a2_ ∧ a2_ ≤ 11) (h3_ : 0 ≤ a3_ ∧ a3_ < S0_.1 6 0 11) (his_ : ((S0_.2.2.1 55 (0 + ll_) a2_.toNat) = 2 ∧ 0 ≤ a4_ ∧ a4_ < 8) ∨ ((S0_.2.2.1 55 (0 + ll_) a2_.toNat) = 3 ∧ 0 ≤ a4_ ∧ a4_ < 48 ∧ S0_.2.2.1 65 0 (3 * a3_ + 2).toNat ≠ -1)) (hcs_ : mcs (npd n9_ (S0_.2.2.1 59 0)) S0_) (hw_ : wo3 (1 + S0_.1 3 dd_ 1 + S0_.1 3 dd_ 2) n9_ ll_ S0_ a1_.toNat) : ∀ nn_ : Nat, (∀ (is_ : Int) (co_ : Int) (k_ : Int) (S_ : sm_S), gi S_ → ai_fr (sx_W vw_108) S0_ S_ → ((is_ = (S0_.2.2.1 55 (0 + ll_) a2_.toNat) ∧ 0 ≤ co_ ∧ co_ ≤ 268435456 ∧ 0 ≤ k_ ∧ k_ ≤ is_) ∧ (S_ = S0_) ∧ (co_ < 268435456 → ∀ j_ : Nat, (j_ : Int) < k_ → wpt (1 + S0_.1 3 dd_ 1 + S0_.1 3 dd_ 2) n9_ (S0_.1 5 ll_ 2) (S0_.2.2.1 59 0) (S0_.2.2.1 60 0) (S0_.2.2.1 61 0) (S0_.2.2.1 65 0 (3 * a3_ + plo (S0_.2.2.1 55 (0 + ll_) a2_.toNat) (i_shr a4_ (S0_.2.2.1 55 (0 + ll_) a2_.toNat)) (j_ : Int)).toNat) (i_shr a4_ (j_ : Int) % 2)) ∧ True) → ((1000 - k_).toNat) < nn_ → sm_T (mt_P sc_) 2 108 (25, [some (.inr (.inr (some (6, 0)))), some (.inl a1_), some (.inl a2_), some (.inl a3_), some (.inl a4_), some (.inl is_), some (.inl co_), some (.inl k_), none, none], [], S_) (fun ro9_ => ∃ u_ S1_, ro9_ = (.inl u_, S1_, 0) ∧ vq_108 a1_ a2_ a3_ a4_ dd_ ll_ n9_ S0_ u_ S1_)) ∧ (∀ (is_ : Int) (co_ : Int) (k_ : Int) (S_ : sm_S), gi S_ → ai_fr (sx_W vw_108) S0_ S_ → ((is_ = (S0_.2.2.1 55 (0 + ll_) a2_.toNat) ∧ 0 ≤ k_ ∧ k_ ≤ is_ ∧ 0 ≤ co_ ∧ co_ < 268435456) ∧ (∀ j_ : Nat, (j_ : Int) < is_ → wpt (1 + S0_.1 3 dd_ 1 + S0_.1 3 dd_ 2) n9_ (S0_.1 5 ll_ 2) (S0_.2.2.1 59 0) (S0_.2.2.1 60 0) (S0_.2.2.1 61 0) (S0_.2.2.1 65 0 (3 * a3_ + plo (S0_.2.2.1 55 (0 + ll_) a2_.toNat) (i_shr a4_ (S0_.2.2.1 55 (0 + ll_) a2_.toNat)) (j_ : Int)).toNat) (i_shr a4_ (j_ : Int) % 2)) ∧ (S_.2.2.1 61 0 a1_.toNat = co_ ∧ S_.2.2.1 62 0 a1_.toNat = a2_ ∧ S_.2.2.1 63 0 a1_.toNat = i_and a4_ (i_shl 1 is_ - 1)) ∧ (wfl a1_.toNat S0_ S_) ∧ (∀ j_ : Nat, (j_ : Int) < k_ → S_.2.2.1 64 0 (3 * a1_.toNat + j_) = (S0_.2.2.1 65 0 (3 * a3_ + plo (S0_.2.2.1 55 (0 + ll_) a2_.toNat) (i_shr a4_ (S0_.2.2.1 55 (0 + ll_) a2_.toNat)) (j_ : Int)).toNat)) ∧ True) → ((100 - k_).toNat) < nn_ → sm_T (mt_P sc_) 2 108 (193, [some (.inr (.inr (some (6, 0)))), some (.inl a1_), some (.inl a2_), some (.inl a3_), some (.inl a4_), some (.inl is_), some (.inl co_), some (.inl k_), none, none], [], S_) (fun ro9_ => ∃ u_ S1_, ro9_ = (.inl u_, S1_, 0) ∧ vq_108 a1_ a2_ a3_ a4_ dd_ ll_ n9_ S0_ u_ S1_)) := by
  intro nn_
  induction nn_ with
  | zero => exact ⟨fun _ _ _ _ _ _ _ h_ => absurd h_ (Nat.not_lt_zero _), fun _ _ _ _ _ _ _ h_ => absurd h_ (Nat.not_lt_zero _)⟩
  | succ nn_ ih_ =>
    refine ⟨?_, ?_⟩
    · rintro is_ co_ k_ S_ hI_ hF_ ⟨h0_, hS_, hp_, -⟩ hm_
      have f55_ : S_.2.2.1 55 (0 + ll_) = S0_.2.2.1 55 (0 + ll_) := fr_arr hF_ rfl
      have f65_ : S_.2.2.1 65 0 = S0_.2.2.1 65 0 := fr_arr hF_ rfl
      have f60_ : S_.2.2.1 60 0 = S0_.2.2.1 60 0 := fr_arr hF_ rfl
      have f1_ : S_.1 3 dd_ 1 = S0_.1 3 dd_ 1 := hF_.1 3 dd_ 1 rfl
      have f2_ : S_.1 3 dd_ 2 = S0_.1 3 dd_ 2 := hF_.1 3 dd_ 2 rfl
      have f5_ : S_.1 5 ll_ 2 = S0_.1 5 ll_ 2 := hF_.1 5 ll_ 2 rfl
      have ck_ : 0 ≤ S_.1 6 0 11 ∧ S_.1 6 0 11 ≤ 1024 := hI_.1 6 0 11 rfl
      have ek_ : S_.1 6 0 11 = S0_.1 6 0 11 := by rw [hS_]
      refine sm_T_go 2 (c1 := (29, [some (.inr (.inr (some (6, 0)))), some (.inl a1_), some (.inl a2_), some (.inl a3_), some (.inl a4_), some (.inl is_), some (.inl co_), some (.inl k_), none, none], [.inl is_, .inl k_], S_)) rfl ?_
      refine sm_T_br (a := 3) (z := 120) rfl (fun cx1_ => ?_) (fun cx1_ => ?_)
      · have cx1_ : is_ ≤ k_ := of_decide_eq_true cx1_
        refine sm_T_go 4 (c1 := (156, [some (.inr (.inr (some (6, 0)))), some (.inl a1_), some (.inl a2_), some (.inl a3_), some (.inl a4_), some (.inl is_), some (.inl co_), some (.inl k_), none, none], [.inl a1_, .inr (.inr (some (61, 0))), .inl co_], S_)) rfl ?_
        refine sm_T_iald (n := 2026) rfl rfl (by omega) (by omega) ?_
        have bx2_ : 0 ≤ S_.2.2.1 61 0 a1_.toNat ∧ S_.2.2.1 61 0 a1_.toNat ≤ 268435456 := hI_.2 61 0 _
        refine sm_T_br (a := 3) (z := 81) rfl (fun cx3_ => ?_) (fun cx3_ => ?_)
        · have cx3_ : (S_.2.2.1 61 0 a1_.toNat) ≤ co_ := of_decide_eq_true cx3_
          refine sm_T_rv rfl ⟨_, _, rfl, rfl, hI_, hF_, ?_⟩
          first | exact ⟨by (rw [hS_]; exact hw_), by (rw [hS_]; exact wfl_rf)⟩ | (refine ⟨Or.inr ⟨by rw [hv_.2.1]; exact h2_.1, by rw [hv_.1]; exact h0_.2.2.2.2, fun j_ hj_ => ?_⟩, hf_⟩; rw [hv_.2.1, f55_, ← h0_.1] at hj_; rw [f5_, fr_arr (t := 59) (i := 0) hF_ rfl, f60_, hn_ j_ (by omega), hv_.2.2, tbit (by omega) (by omega) (by omega)]; exact wpt_cg (hp_ j_ hj_) (by omega) (fun q9_ w9_ => (hf_.1 q9_ (by omega)).1))
        · have cx3_ : ¬ ((S_.2.2.1 61 0 a1_.toNat) ≤ co_) := of_decide_eq_false cx3_
          refine sm_T_go 4 (c1 := (167, [some (.inr (.inr (some (6, 0)))), some (.inl a1_), some (.inl a2_), some (.inl a3_), some (.inl a4_), some (.inl is_), some (.inl co_), some (.inl k_), none, none], [.inl co_, .inl a1_, .inr (.inr (some (61, 0)))], S_)) rfl ?_
          refine sm_T_iast (n := 2026) rfl rfl (by omega) (by omega) ?_
          have hIx4_ : gi (sm_aI S_ 61 0 a1_.toNat co_) := gi_aI hI_ (show 0 ≤ co_ ∧ co_ ≤ 268435456 from ⟨by omega, by omega⟩)
          have hFx5_ : ai_fr (sx_W vw_108) S0_ (sm_aI S_ 61 0 a1_.toNat co_) := ai_fr_tr hF_ (ai_fr_aI rfl)
          refine sm_T_go 4 (c1 := (174, [some (.inr (.inr (some (6, 0)))), some (.inl a1_), some (.inl a2_), some (.inl a3_), some (.inl a4_), some (.inl is_), some (.inl co_), some (.inl k_), none, none], [.inl a2_, .inl a1_, .inr (.inr (some (62, 0)))], sm_aI S_ 61 0 a1_.toNat co_)) rfl ?_
          refine sm_T_iast (n := 2026) rfl rfl (by omega) (by omega) ?_
          have hIx6_ : gi (sm_aI (sm_aI S_ 61 0 a1_.toNat co_) 62 0 a1_.toNat a2_) := gi_aI hIx4_ (show (-2) ≤ a2_ ∧ a2_ ≤ 11 from ⟨by omega, by omega⟩)
          have hFx7_ : ai_fr (sx_W vw_108) S0_ (sm_aI (sm_aI S_ 61 0 a1_.toNat co_) 62 0 a1_.toNat a2_) := ai_fr_tr hFx5_ (ai_fr_aI rfl)
          refine sm_T_go 6 (c1 := (185, [some (.inr (.inr (some (6, 0)))), some (.inl a1_), some (.inl a2_), some (.inl a3_), some (.inl a4_), some (.inl is_), some (.inl co_), some (.inl k_), none, none], [.inl is_, .inl 1, .inl a4_, .inl a1_, .inr (.inr (some (63, 0)))], sm_aI (sm_aI S_ 61 0 a1_.toNat co_) 62 0 a1_.toNat a2_)) rfl ?_
          refine sm_T_bin (w := (i_shl 1 is_)) rfl rfl ?_ -- pc_ 185
          have vp8_ := vpw (e_ := is_) (by omega)
          refine sm_T_go 1 (c1 := (187, [some (.inr (.inr (some (6, 0)))), some (.inl a1_), some (.inl a2_), some (.inl a3_), some (.inl a4_), some (.inl is_), some (.inl co_), some (.inl k_), none, none], [.inl 1, .inl (i_shl 1 is_), .inl a4_, .inl a1_, .inr (.inr (some (63, 0)))], sm_aI (sm_aI S_ 61 0 a1_.toNat co_) 62 0 a1_.toNat a2_)) rfl ?_
          refine sm_T_bin (w := (i_shl 1 is_) - 1) rfl (bi_sub (by omega) (by omega) (by omega)) ?_ -- pc_ 187
          refine sm_T_bin (w := (i_and a4_ ((i_shl 1 is_) - 1))) rfl rfl ?_ -- pc_ 188
          have bx9_ := i_and_y a4_ (y_ := ((i_shl 1 is_) - 1)) (by omega)
          refine sm_T_iast (n := 2026) rfl rfl (by omega) (by omega) ?_
          have hIx10_ : gi (sm_aI (sm_aI (sm_aI S_ 61 0 a1_.toNat co_) 62 0 a1_.toNat a2_) 63 0 a1_.toNat (i_and a4_ ((i_shl 1 is_) - 1))) := gi_aI hIx6_ (show 0 ≤ (i_and a4_ ((i_shl 1 is_) - 1)) ∧ (i_and a4_ ((i_shl 1 is_) - 1)) ≤ 15 from ⟨by omega, by omega⟩)
          have hFx11_ : ai_fr (sx_W vw_108) S0_ (sm_aI (sm_aI (sm_aI S_ 61 0 a1_.toNat co_) 62 0 a1_.toNat a2_) 63 0 a1_.toNat (i_and a4_ ((i_shl 1 is_) - 1))) := ai_fr_tr hFx7_ (ai_fr_aI rfl)
          refine sm_T_go 2 (c1 := (193, [some (.inr (.inr (some (6, 0)))), some (.inl a1_), some (.inl a2_), some (.inl a3_), some (.inl a4_), some (.inl is_), some (.inl co_), some (.inl 0), none, none], [], sm_aI (sm_aI (sm_aI S_ 61 0 a1_.toNat co_) 62 0 a1_.toNat a2_) 63 0 a1_.toNat (i_and a4_ ((i_shl 1 is_) - 1)))) rfl ?_
          refine ih_.2 is_ co_ 0 (sm_aI (sm_aI (sm_aI S_ 61 0 a1_.toNat co_) 62 0 a1_.toNat a2_) 63 0 a1_.toNat (i_and a4_ ((i_shl 1 is_) - 1))) hIx10_ hFx11_ ⟨?_, ?_, ?_, ?_, ?_, trivial⟩ ?_
          · omega
          · (intro j_ hj_; exact hp_ (by omega) j_ (by omega))
          · (rw [rd_ne (by decide), rd_ne (by decide), rd_eq, if_pos rfl, rd_ne (by decide), rd_eq, if_pos rfl, rd_eq, if_pos rfl]; exact ⟨rfl, rfl, rfl⟩)
          · refine ⟨fun j_ hj_ => ?_, fun j_ hj_ => ?_⟩
            · rw [hS_, rd_ne (by decide), rd_ne (by decide), rd_eq, if_neg hj_, rd_ne (by decide), rd_eq, if_neg hj_, rd_ne (by decide), rd_eq, if_neg hj_, rd_ne (by decide), rd_ne (by decide)]; exact ⟨rfl, rfl, rfl⟩
            · rw [hS_, rd_ne (by decide), rd_ne (by decide), rd_ne (by decide)]
          · (intro j_ hj_; exfalso; omega)
          · omega
      · have cx1_ : ¬ (is_ ≤ k_) := of_decide_eq_false cx1_
        refine sm_T_go 4 (c1 := (38, [some (.inr (.inr (some (6, 0)))), some (.inl a1_), some (.inl a2_), some (.inl a3_), some (.inl a4_), some (.inl is_), some (.inl co_), some (.inl k_), none, none], [.inl a3_, .inl 3, .inr (.inr (some (65, 0)))], S_)) rfl ?_
        refine sm_T_bin (w := 3 * a3_) rfl (bi_mul (by omega) (by omega) (by omega)) ?_ -- pc_ 38
        refine sm_T_go 3 (c1 := (45, [some (.inr (.inr (some (6, 0)))), some (.inl a1_), some (.inl a2_), some (.inl a3_), some (.inl a4_), some (.inl is_), some (.inl co_), some (.inl k_), none, none], [.inl is_, .inl a4_, .inl is_, .inl (3 * a3_), .inr (.inr (some (65, 0)))], S_)) rfl ?_
        refine sm_T_bin (w := (i_shr a4_ is_)) rfl rfl ?_ -- pc_ 45
        have vo9_ := vor (v_ := a4_) (e_ := is_) (by omega) (by omega)
        refine sm_T_go 1 (c1 := (48, [some (.inr (.inr (some (6, 0)))), some (.inl a1_), some (.inl a2_), some (.inl a3_), some (.inl a4_), some (.inl is_), some (.inl co_), some (.inl k_), none, none], [.inl k_, .inl (i_shr a4_ is_), .inl is_, .inl (3 * a3_), .inr (.inr (some (65, 0)))], S_)) rfl ?_
        refine sm_T_cal (d1 := 0) (Q1 := vq_98 is_ (i_shr a4_ is_) k_ S_) rfl rfl (by decide) (vc_98 is_ (i_shr a4_ is_) k_ S_ hI_ (by omega)) (fun u_ Sx13_ px16_ => ?_)
        obtain ⟨rfl, vx18_, rfl, px16_⟩ := px16_
        have p48_ := px16_.1
        have q48_ : vx18_ = plo (S0_.2.2.1 55 (0 + ll_) a2_.toNat) (i_shr a4_ (S0_.2.2.1 55 (0 + ll_) a2_.toNat)) k_ := by (have z9_ := px16_.2; rw [h0_.1] at z9_; exact z9_)
        have nx9_ : npd n9_ (S0_.2.2.1 59 0) (S0_.2.2.1 65 0 (3 * a3_ + vx18_).toNat) := mcs_b hcs_ h3_ (by omega) (fun u9_ => by rcases his_ with w9_ | w9_; (exfalso; omega); exact w9_.2.2.2)
        have nx1_ := nx9_.1
        have nx2_ := nx9_.2.1
        have nx0_ : S_.2.2.1 65 0 (3 * a3_ + vx18_).toNat = S0_.2.2.1 65 0 (3 * a3_ + vx18_).toNat := by rw [f65_]
        have xk9_ : S0_.2.2.1 65 0 (3 * a3_ + vx18_).toNat = (S0_.2.2.1 65 0 (3 * a3_ + plo (S0_.2.2.1 55 (0 + ll_) a2_.toNat) (i_shr a4_ (S0_.2.2.1 55 (0 + ll_) a2_.toNat)) k_).toNat) := by rw [q48_]
        refine sm_T_bin (w := 3 * a3_ + vx18_) rfl (bi_add (by omega) (by omega) (by omega)) ?_ -- pc_ 51
        refine sm_T_iald (n := 3072) rfl rfl (by omega) (by omega) ?_
        have bx19_ : (-1) ≤ S_.2.2.1 65 0 (3 * a3_ + vx18_).toNat ∧ S_.2.2.1 65 0 (3 * a3_ + vx18_).toNat ≤ 1012 := hI_.2 65 0 _
        refine sm_T_go 3 (c1 := (59, [some (.inr (.inr (some (6, 0)))), some (.inl a1_), some (.inl a2_), some (.inl a3_), some (.inl a4_), some (.inl is_), some (.inl co_), some (.inl k_), some (.inl (S_.2.2.1 65 0 (3 * a3_ + vx18_).toNat)), none], [.inl k_, .inl a4_], S_)) rfl ?_
        refine sm_T_bin (w := (i_shr a4_ k_)) rfl rfl ?_ -- pc_ 59
        first | have bx20_ := i_shr_p (x_ := a4_) (e_ := k_) (by omega) (by omega) (by omega) | have bx20_ := i_shr_n a4_ k_
        refine sm_T_go 1 (c1 := (61, [some (.inr (.inr (some (6, 0)))), some (.inl a1_), some (.inl a2_), some (.inl a3_), some (.inl a4_), some (.inl is_), some (.inl co_), some (.inl k_), some (.inl (S_.2.2.1 65 0 (3 * a3_ + vx18_).toNat)), none], [.inl 1, .inl (i_shr a4_ k_)], S_)) rfl ?_
        refine sm_T_bin (w := ((i_shr a4_ k_) % 2)) rfl (bi_msk (k := 1) (by decide)) ?_ -- pc_ 61
        refine sm_T_go 3 (c1 := (67, [some (.inr (.inr (some (6, 0)))), some (.inl a1_), some (.inl a2_), some (.inl a3_), some (.inl a4_), some (.inl is_), some (.inl co_), some (.inl k_), some (.inl (S_.2.2.1 65 0 (3 * a3_ + vx18_).toNat)), some (.inl ((i_shr a4_ k_) % 2))], [.inl (S_.2.2.1 65 0 (3 * a3_ + vx18_).toNat), .inr (.inr (some (6, 0)))], S_)) rfl ?_
        refine sm_T_cal (d1 := 1) (Q1 := vq_94 (S_.2.2.1 65 0 (3 * a3_ + vx18_).toNat) dd_ S_) rfl rfl (by decide) (vc_94 (S_.2.2.1 65 0 (3 * a3_ + vx18_).toNat) dd_ S_ hI_ (by exact (hF_.2.1 6 0 0 rfl).trans hd_) (by omega)) (fun u_ Sx21_ px24_ => ?_)
        obtain ⟨rfl, vx26_, rfl, px24_⟩ := px24_
        have lf9_ := px24_
        rw [f1_, f2_, f60_] at lf9_
        refine sm_T_b0 (a := 1) (z := 23) rfl (fun cx27_ => ?_) (fun cx27_ => ?_)
        · have cx27_ : vx26_ ≠ 0 := of_decide_eq_true cx27_
          refine sm_T_go 1 (c1 := (95, [some (.inr (.inr (some (6, 0)))), some (.inl a1_), some (.inl a2_), some (.inl a3_), some (.inl a4_), some (.inl is_), some (.inl co_), some (.inl k_), some (.inl (S_.2.2.1 65 0 (3 * a3_ + vx18_).toNat)), some (.inl ((i_shr a4_ k_) % 2))], [.inl ((i_shr a4_ k_) % 2)], S_)) rfl ?_
          refine sm_T_b0 (a := 0) (z := 39) rfl (fun cx28_ => ?_) (fun cx28_ => ?_)
          · have cx28_ : ((i_shr a4_ k_) % 2) = 0 := of_decide_eq_true cx28_
            refine sm_T_go 1 (c1 := (136, [some (.inr (.inr (some (6, 0)))), some (.inl a1_), some (.inl a2_), some (.inl a3_), some (.inl a4_), some (.inl is_), some (.inl co_), some (.inl k_), some (.inl (S_.2.2.1 65 0 (3 * a3_ + vx18_).toNat)), some (.inl ((i_shr a4_ k_) % 2))], [.inl co_], S_)) rfl ?_
            refine sm_T_nt (u := some (.inl 268435456)) (S1 := S_) rfl rfl rfl ?_
            refine sm_T_nt (u := some (.inl (sm_mn co_ 268435456))) (S1 := S_) rfl rfl rfl ?_
            have bx29_ := sm_mn_d co_ 268435456
            refine sm_T_go 1 (c1 := (143, [some (.inr (.inr (some (6, 0)))), some (.inl a1_), some (.inl a2_), some (.inl a3_), some (.inl a4_), some (.inl is_), some (.inl (sm_mn co_ 268435456)), some (.inl k_), some (.inl (S_.2.2.1 65 0 (3 * a3_ + vx18_).toNat)), some (.inl ((i_shr a4_ k_) % 2))], [], S_)) rfl ?_
            refine sm_T_inc (a := 7) (z := 1) (v := k_) (w := k_ + 1) rfl rfl (by omega) (by omega) (by omega) ?_ -- pc_ 143
            refine sm_T_go 1 (c1 := (25, [some (.inr (.inr (some (6, 0)))), some (.inl a1_), some (.inl a2_), some (.inl a3_), some (.inl a4_), some (.inl is_), some (.inl (sm_mn co_ 268435456)), some (.inl (k_ + 1)), some (.inl (S_.2.2.1 65 0 (3 * a3_ + vx18_).toNat)), some (.inl ((i_shr a4_ k_) % 2))], [], S_)) rfl ?_
            refine sm_T_wk [some (.inr (.inr (some (6, 0)))), some (.inl a1_), some (.inl a2_), some (.inl a3_), some (.inl a4_), some (.inl is_), some (.inl (sm_mn co_ 268435456)), some (.inl (k_ + 1)), none, none] (by exact ⟨rfl, rfl, rfl, rfl, rfl, rfl, rfl, rfl, trivial⟩) ?_
            refine ih_.1 is_ (sm_mn co_ 268435456) (k_ + 1) S_ hI_ hF_ ⟨?_, ?_, ?_, trivial⟩ ?_
            · omega
            · exact hS_
            · intro lt9_ j_ hj_
              by_cases y9_ : (j_ : Int) = k_
              · rw [y9_, ← xk9_]
                have lf8_ := lf9_
                rw [nx0_] at lf8_
                refine ⟨nx9_, fun q9_ => ?_, fun q9_ => ?_⟩
                · have q8_ := q9_.1; have q7_ := q9_.2; simp only [hS_] at *; omega
                · have q8_ := q9_.1; have q7_ := q9_.2; simp only [hS_] at *; first | omega | (exfalso; omega)
              · exact hp_ (by simp only [hS_] at *; omega) j_ (by omega)
            · omega
          · have cx28_ : ¬ (((i_shr a4_ k_) % 2) = 0) := of_decide_eq_false cx28_
            refine sm_T_go 2 (c1 := (101, [some (.inr (.inr (some (6, 0)))), some (.inl a1_), some (.inl a2_), some (.inl a3_), some (.inl a4_), some (.inl is_), some (.inl co_), some (.inl k_), some (.inl (S_.2.2.1 65 0 (3 * a3_ + vx18_).toNat)), some (.inl ((i_shr a4_ k_) % 2))], [.inr (.inr (some (6, 0))), .inl co_], S_)) rfl ?_
            refine sm_T_gr rfl rfl ((hF_.2.1 6 0 1 rfl).trans hc_) ?_
            have bx30_ : (-1) ≤ S_.1 5 ll_ 2 ∧ S_.1 5 ll_ 2 ≤ 11 := hI_.1 5 ll_ 2 rfl
            refine sm_T_go 2 (c1 := (108, [some (.inr (.inr (some (6, 0)))), some (.inl a1_), some (.inl a2_), some (.inl a3_), some (.inl a4_), some (.inl is_), some (.inl co_), some (.inl k_), some (.inl (S_.2.2.1 65 0 (3 * a3_ + vx18_).toNat)), some (.inl ((i_shr a4_ k_) % 2))], [.inl (-1), .inl (S_.1 5 ll_ 2), .inl co_], S_)) rfl ?_
            refine sm_T_br (a := 1) (z := 8) rfl (fun cx31_ => ?_) (fun cx31_ => ?_)
            · have cx31_ : (S_.1 5 ll_ 2) ≠ (-1) := of_decide_eq_true cx31_
              refine sm_T_go 1 (c1 := (117, [some (.inr (.inr (some (6, 0)))), some (.inl a1_), some (.inl a2_), some (.inl a3_), some (.inl a4_), some (.inl is_), some (.inl co_), some (.inl k_), some (.inl (S_.2.2.1 65 0 (3 * a3_ + vx18_).toNat)), some (.inl ((i_shr a4_ k_) % 2))], [.inr (.inr (some (6, 0))), .inl co_], S_)) rfl ?_
              refine sm_T_gr rfl rfl ((hF_.2.1 6 0 1 rfl).trans hc_) ?_
              refine sm_T_go 2 (c1 := (124, [some (.inr (.inr (some (6, 0)))), some (.inl a1_), some (.inl a2_), some (.inl a3_), some (.inl a4_), some (.inl is_), some (.inl co_), some (.inl k_), some (.inl (S_.2.2.1 65 0 (3 * a3_ + vx18_).toNat)), some (.inl ((i_shr a4_ k_) % 2))], [.inr (.inr (some (6, 0))), .inr (.inr (some (57, (0 + ll_)))), .inl co_], S_)) rfl ?_
              refine sm_T_gr rfl rfl ((hF_.2.1 6 0 1 rfl).trans hc_) ?_
              refine sm_T_go 1 (c1 := (130, [some (.inr (.inr (some (6, 0)))), some (.inl a1_), some (.inl a2_), some (.inl a3_), some (.inl a4_), some (.inl is_), some (.inl co_), some (.inl k_), some (.inl (S_.2.2.1 65 0 (3 * a3_ + vx18_).toNat)), some (.inl ((i_shr a4_ k_) % 2))], [.inl (S_.1 5 ll_ 2), .inr (.inr (some (57, (0 + ll_)))), .inl co_], S_)) rfl ?_
              refine sm_T_iald (n := 12) rfl rfl (by omega) (by omega) ?_
              have bx32_ : 0 ≤ S_.2.2.1 57 (0 + ll_) (S_.1 5 ll_ 2).toNat ∧ S_.2.2.1 57 (0 + ll_) (S_.1 5 ll_ 2).toNat ≤ 1000 := hI_.2 57 (0 + ll_) _
              refine sm_T_bin (w := co_ + (S_.2.2.1 57 (0 + ll_) (S_.1 5 ll_ 2).toNat)) rfl (bi_add (by omega) (by omega) (by omega)) ?_ -- pc_ 131
              refine sm_T_go 2 (c1 := (136, [some (.inr (.inr (some (6, 0)))), some (.inl a1_), some (.inl a2_), some (.inl a3_), some (.inl a4_), some (.inl is_), some (.inl (co_ + (S_.2.2.1 57 (0 + ll_) (S_.1 5 ll_ 2).toNat))), some (.inl k_), some (.inl (S_.2.2.1 65 0 (3 * a3_ + vx18_).toNat)), some (.inl ((i_shr a4_ k_) % 2))], [.inl (co_ + (S_.2.2.1 57 (0 + ll_) (S_.1 5 ll_ 2).toNat))], S_)) rfl ?_
              refine sm_T_nt (u := some (.inl 268435456)) (S1 := S_) rfl rfl rfl ?_
              refine sm_T_nt (u := some (.inl (sm_mn (co_ + (S_.2.2.1 57 (0 + ll_) (S_.1 5 ll_ 2).toNat)) 268435456))) (S1 := S_) rfl rfl rfl ?_
              have bx33_ := sm_mn_d (co_ + (S_.2.2.1 57 (0 + ll_) (S_.1 5 ll_ 2).toNat)) 268435456
              refine sm_T_go 1 (c1 := (143, [some (.inr (.inr (some (6, 0)))), some (.inl a1_), some (.inl a2_), some (.inl a3_), some (.inl a4_), some (.inl is_), some (.inl (sm_mn (co_ + (S_.2.2.1 57 (0 + ll_) (S_.1 5 ll_ 2).toNat)) 268435456)), some (.inl k_), some (.inl (S_.2.2.1 65 0 (3 * a3_ + vx18_).toNat)), some (.inl ((i_shr a4_ k_) % 2))], [], S_)) rfl ?_
              refine sm_T_inc (a := 7) (z := 1) (v := k_) (w := k_ + 1) rfl rfl (by omega) (by omega) (by omega) ?_ -- pc_ 143
              refine sm_T_go 1 (c1 := (25, [some (.inr (.inr (some (6, 0)))), some (.inl a1_), some (.inl a2_), some (.inl a3_), some (.inl a4_), some (.inl is_), some (.inl (sm_mn (co_ + (S_.2.2.1 57 (0 + ll_) (S_.1 5 ll_ 2).toNat)) 268435456)), some (.inl (k_ + 1)), some (.inl (S_.2.2.1 65 0 (3 * a3_ + vx18_).toNat)), some (.inl ((i_shr a4_ k_) % 2))], [], S_)) rfl ?_
              refine sm_T_wk [some (.inr (.inr (some (6, 0)))), some (.inl a1_), some (.inl a2_), some (.inl a3_), some (.inl a4_), some (.inl is_), some (.inl (sm_mn (co_ + (S_.2.2.1 57 (0 + ll_) (S_.1 5 ll_ 2).toNat)) 268435456)), some (.inl (k_ + 1)), none, none] (by exact ⟨rfl, rfl, rfl, rfl, rfl, rfl, rfl, rfl, trivial⟩) ?_
              refine ih_.1 is_ (sm_mn (co_ + (S_.2.2.1 57 (0 + ll_) (S_.1 5 ll_ 2).toNat)) 268435456) (k_ + 1) S_ hI_ hF_ ⟨?_, ?_, ?_, trivial⟩ ?_
              · omega
              · exact hS_
              · intro lt9_ j_ hj_
                by_cases y9_ : (j_ : Int) = k_
                · rw [y9_, ← xk9_]
                  have lf8_ := lf9_
                  rw [nx0_] at lf8_
                  refine ⟨nx9_, fun q9_ => ?_, fun q9_ => ?_⟩
                  · have q8_ := q9_.1; have q7_ := q9_.2; simp only [hS_] at *; omega
                  · have q8_ := q9_.1; have q7_ := q9_.2; simp only [hS_] at *; first | omega | (exfalso; omega)
                · exact hp_ (by simp only [hS_] at *; omega) j_ (by omega)
              · omega
            · have cx31_ : ¬ ((S_.1 5 ll_ 2) ≠ (-1)) := of_decide_eq_false cx31_
              refine sm_T_nt (u := some (.inl 268435456)) (S1 := S_) rfl rfl rfl ?_
              refine sm_T_go 1 (c1 := (131, [some (.inr (.inr (some (6, 0)))), some (.inl a1_), some (.inl a2_), some (.inl a3_), some (.inl a4_), some (.inl is_), some (.inl co_), some (.inl k_), some (.inl (S_.2.2.1 65 0 (3 * a3_ + vx18_).toNat)), some (.inl ((i_shr a4_ k_) % 2))], [.inl 268435456, .inl co_], S_)) rfl ?_
              refine sm_T_bin (w := co_ + 268435456) rfl (bi_add (by omega) (by omega) (by omega)) ?_ -- pc_ 131
              refine sm_T_go 2 (c1 := (136, [some (.inr (.inr (some (6, 0)))), some (.inl a1_), some (.inl a2_), some (.inl a3_), some (.inl a4_), some (.inl is_), some (.inl (co_ + 268435456)), some (.inl k_), some (.inl (S_.2.2.1 65 0 (3 * a3_ + vx18_).toNat)), some (.inl ((i_shr a4_ k_) % 2))], [.inl (co_ + 268435456)], S_)) rfl ?_
              refine sm_T_nt (u := some (.inl 268435456)) (S1 := S_) rfl rfl rfl ?_
              refine sm_T_nt (u := some (.inl (sm_mn (co_ + 268435456) 268435456))) (S1 := S_) rfl rfl rfl ?_
              have bx34_ := sm_mn_d (co_ + 268435456) 268435456
              refine sm_T_go 1 (c1 := (143, [some (.inr (.inr (some (6, 0)))), some (.inl a1_), some (.inl a2_), some (.inl a3_), some (.inl a4_), some (.inl is_), some (.inl (sm_mn (co_ + 268435456) 268435456)), some (.inl k_), some (.inl (S_.2.2.1 65 0 (3 * a3_ + vx18_).toNat)), some (.inl ((i_shr a4_ k_) % 2))], [], S_)) rfl ?_
              refine sm_T_inc (a := 7) (z := 1) (v := k_) (w := k_ + 1) rfl rfl (by omega) (by omega) (by omega) ?_ -- pc_ 143
              refine sm_T_go 1 (c1 := (25, [some (.inr (.inr (some (6, 0)))), some (.inl a1_), some (.inl a2_), some (.inl a3_), some (.inl a4_), some (.inl is_), some (.inl (sm_mn (co_ + 268435456) 268435456)), some (.inl (k_ + 1)), some (.inl (S_.2.2.1 65 0 (3 * a3_ + vx18_).toNat)), some (.inl ((i_shr a4_ k_) % 2))], [], S_)) rfl ?_
              refine sm_T_wk [some (.inr (.inr (some (6, 0)))), some (.inl a1_), some (.inl a2_), some (.inl a3_), some (.inl a4_), some (.inl is_), some (.inl (sm_mn (co_ + 268435456) 268435456)), some (.inl (k_ + 1)), none, none] (by exact ⟨rfl, rfl, rfl, rfl, rfl, rfl, rfl, rfl, trivial⟩) ?_
              refine ih_.1 is_ (sm_mn (co_ + 268435456) 268435456) (k_ + 1) S_ hI_ hF_ ⟨?_, ?_, ?_, trivial⟩ ?_
              · omega
              · exact hS_
              · intro lt9_ j_ hj_
                by_cases y9_ : (j_ : Int) = k_
                · rw [y9_, ← xk9_]
                  have lf8_ := lf9_
                  rw [nx0_] at lf8_
                  refine ⟨nx9_, fun q9_ => ?_, fun q9_ => ?_⟩
                  · have q8_ := q9_.1; have q7_ := q9_.2; simp only [hS_] at *; omega
                  · have q8_ := q9_.1; have q7_ := q9_.2; simp only [hS_] at *; first | omega | (exfalso; omega)
                · exact hp_ (by simp only [hS_] at *; omega) j_ (by omega)
              · omega
        · have cx27_ : ¬ (vx26_ ≠ 0) := of_decide_eq_false cx27_
          refine sm_T_go 5 (c1 := (82, [some (.inr (.inr (some (6, 0)))), some (.inl a1_), some (.inl a2_), some (.inl a3_), some (.inl a4_), some (.inl is_), some (.inl co_), some (.inl k_), some (.inl (S_.2.2.1 65 0 (3 * a3_ + vx18_).toNat)), some (.inl ((i_shr a4_ k_) % 2))], [.inl (S_.2.2.1 65 0 (3 * a3_ + vx18_).toNat), .inl 2, .inr (.inr (some (61, 0))), .inl co_], S_)) rfl ?_
          refine sm_T_bin (w := 2 * (S_.2.2.1 65 0 (3 * a3_ + vx18_).toNat)) rfl (bi_mul (by omega) (by omega) (by omega)) ?_ -- pc_ 82
          refine sm_T_go 1 (c1 := (85, [some (.inr (.inr (some (6, 0)))), some (.inl a1_), some (.inl a2_), some (.inl a3_), some (.inl a4_), some (.inl is_), some (.inl co_), some (.inl k_), some (.inl (S_.2.2.1 65 0 (3 * a3_ + vx18_).toNat)), some (.inl ((i_shr a4_ k_) % 2))], [.inl ((i_shr a4_ k_) % 2), .inl (2 * (S_.2.2.1 65 0 (3 * a3_ + vx18_).toNat)), .inr (.inr (some (61, 0))), .inl co_], S_)) rfl ?_
          refine sm_T_bin (w := 2 * (S_.2.2.1 65 0 (3 * a3_ + vx18_).toNat) + ((i_shr a4_ k_) % 2)) rfl (bi_add (by omega) (by omega) (by omega)) ?_ -- pc_ 85
          refine sm_T_iald (n := 2026) rfl rfl (by omega) (by omega) ?_
          have bx35_ : 0 ≤ S_.2.2.1 61 0 (2 * (S_.2.2.1 65 0 (3 * a3_ + vx18_).toNat) + ((i_shr a4_ k_) % 2)).toNat ∧ S_.2.2.1 61 0 (2 * (S_.2.2.1 65 0 (3 * a3_ + vx18_).toNat) + ((i_shr a4_ k_) % 2)).toNat ≤ 268435456 := hI_.2 61 0 _
          refine sm_T_bin (w := co_ + (S_.2.2.1 61 0 (2 * (S_.2.2.1 65 0 (3 * a3_ + vx18_).toNat) + ((i_shr a4_ k_) % 2)).toNat)) rfl (bi_add (by omega) (by omega) (by omega)) ?_ -- pc_ 87
          refine sm_T_go 3 (c1 := (136, [some (.inr (.inr (some (6, 0)))), some (.inl a1_), some (.inl a2_), some (.inl a3_), some (.inl a4_), some (.inl is_), some (.inl (co_ + (S_.2.2.1 61 0 (2 * (S_.2.2.1 65 0 (3 * a3_ + vx18_).toNat) + ((i_shr a4_ k_) % 2)).toNat))), some (.inl k_), some (.inl (S_.2.2.1 65 0 (3 * a3_ + vx18_).toNat)), some (.inl ((i_shr a4_ k_) % 2))], [.inl (co_ + (S_.2.2.1 61 0 (2 * (S_.2.2.1 65 0 (3 * a3_ + vx18_).toNat) + ((i_shr a4_ k_) % 2)).toNat))], S_)) rfl ?_
          refine sm_T_nt (u := some (.inl 268435456)) (S1 := S_) rfl rfl rfl ?_
          refine sm_T_nt (u := some (.inl (sm_mn (co_ + (S_.2.2.1 61 0 (2 * (S_.2.2.1 65 0 (3 * a3_ + vx18_).toNat) + ((i_shr a4_ k_) % 2)).toNat)) 268435456))) (S1 := S_) rfl rfl rfl ?_
          have bx36_ := sm_mn_d (co_ + (S_.2.2.1 61 0 (2 * (S_.2.2.1 65 0 (3 * a3_ + vx18_).toNat) + ((i_shr a4_ k_) % 2)).toNat)) 268435456
          refine sm_T_go 1 (c1 := (143, [some (.inr (.inr (some (6, 0)))), some (.inl a1_), some (.inl a2_), some (.inl a3_), some (.inl a4_), some (.inl is_), some (.inl (sm_mn (co_ + (S_.2.2.1 61 0 (2 * (S_.2.2.1 65 0 (3 * a3_ + vx18_).toNat) + ((i_shr a4_ k_) % 2)).toNat)) 268435456)), some (.inl k_), some (.inl (S_.2.2.1 65 0 (3 * a3_ + vx18_).toNat)), some (.inl ((i_shr a4_ k_) % 2))], [], S_)) rfl ?_
          refine sm_T_inc (a := 7) (z := 1) (v := k_) (w := k_ + 1) rfl rfl (by omega) (by omega) (by omega) ?_ -- pc_ 143
          refine sm_T_go 1 (c1 := (25, [some (.inr (.inr (some (6, 0)))), some (.inl a1_), some (.inl a2_), some (.inl a3_), some (.inl a4_), some (.inl is_), some (.inl (sm_mn (co_ + (S_.2.2.1 61 0 (2 * (S_.2.2.1 65 0 (3 * a3_ + vx18_).toNat) + ((i_shr a4_ k_) % 2)).toNat)) 268435456)), some (.inl (k_ + 1)), some (.inl (S_.2.2.1 65 0 (3 * a3_ + vx18_).toNat)), some (.inl ((i_shr a4_ k_) % 2))], [], S_)) rfl ?_
          refine sm_T_wk [some (.inr (.inr (some (6, 0)))), some (.inl a1_), some (.inl a2_), some (.inl a3_), some (.inl a4_), some (.inl is_), some (.inl (sm_mn (co_ + (S_.2.2.1 61 0 (2 * (S_.2.2.1 65 0 (3 * a3_ + vx18_).toNat) + ((i_shr a4_ k_) % 2)).toNat)) 268435456)), some (.inl (k_ + 1)), none, none] (by exact ⟨rfl, rfl, rfl, rfl, rfl, rfl, rfl, rfl, trivial⟩) ?_
          refine ih_.1 is_ (sm_mn (co_ + (S_.2.2.1 61 0 (2 * (S_.2.2.1 65 0 (3 * a3_ + vx18_).toNat) + ((i_shr a4_ k_) % 2)).toNat)) 268435456) (k_ + 1) S_ hI_ hF_ ⟨?_, ?_, ?_, trivial⟩ ?_
          · omega
          · exact hS_
          · intro lt9_ j_ hj_
            by_cases y9_ : (j_ : Int) = k_
            · rw [y9_, ← xk9_]
              have lf8_ := lf9_
              rw [nx0_] at lf8_
              refine ⟨nx9_, fun q9_ => ?_, fun q9_ => ?_⟩
              · have q8_ := q9_.1; have q7_ := q9_.2; simp only [hS_] at *; omega
              · have q8_ := q9_.1; have q7_ := q9_.2; simp only [hS_] at *; first | omega | (exfalso; omega)
            · exact hp_ (by simp only [hS_] at *; omega) j_ (by omega)
          · omega
    · rintro is_ co_ k_ S_ hI_ hF_ ⟨h0_, hp_, hv_, hf_, hn_, -⟩ hm_
      have f55_ : S_.2.2.1 55 (0 + ll_) = S0_.2.2.1 55 (0 + ll_) := fr_arr hF_ rfl
      have f65_ : S_.2.2.1 65 0 = S0_.2.2.1 65 0 := fr_arr hF_ rfl
      have f60_ : S_.2.2.1 60 0 = S0_.2.2.1 60 0 := fr_arr hF_ rfl
      have f1_ : S_.1 3 dd_ 1 = S0_.1 3 dd_ 1 := hF_.1 3 dd_ 1 rfl
      have f2_ : S_.1 3 dd_ 2 = S0_.1 3 dd_ 2 := hF_.1 3 dd_ 2 rfl
      have f5_ : S_.1 5 ll_ 2 = S0_.1 5 ll_ 2 := hF_.1 5 ll_ 2 rfl
      have ck_ : 0 ≤ S_.1 6 0 11 ∧ S_.1 6 0 11 ≤ 1024 := hI_.1 6 0 11 rfl
      have ek_ : S_.1 6 0 11 = S0_.1 6 0 11 := hF_.1 6 0 11 rfl
      refine sm_T_go 2 (c1 := (197, [some (.inr (.inr (some (6, 0)))), some (.inl a1_), some (.inl a2_), some (.inl a3_), some (.inl a4_), some (.inl is_), some (.inl co_), some (.inl k_), none, none], [.inl is_, .inl k_], S_)) rfl ?_
      refine sm_T_br (a := 3) (z := 41) rfl (fun cx1_ => ?_) (fun cx1_ => ?_)
      · have cx1_ : is_ ≤ k_ := of_decide_eq_true cx1_
        refine sm_T_rv rfl ⟨_, _, rfl, rfl, hI_, hF_, ?_⟩
        first | exact ⟨by (rw [hS_]; exact hw_), by (rw [hS_]; exact wfl_rf)⟩ | (refine ⟨Or.inr ⟨by rw [hv_.2.1]; exact h2_.1, by rw [hv_.1]; exact h0_.2.2.2.2, fun j_ hj_ => ?_⟩, hf_⟩; rw [hv_.2.1, f55_, ← h0_.1] at hj_; rw [f5_, fr_arr (t := 59) (i := 0) hF_ rfl, f60_, hn_ j_ (by omega), hv_.2.2, tbit (by omega) (by omega) (by omega)]; exact wpt_cg (hp_ j_ hj_) (by omega) (fun q9_ w9_ => (hf_.1 q9_ (by omega)).1))
      · have cx1_ : ¬ (is_ ≤ k_) := of_decide_eq_false cx1_
        refine sm_T_go 4 (c1 := (206, [some (.inr (.inr (some (6, 0)))), some (.inl a1_), some (.inl a2_), some (.inl a3_), some (.inl a4_), some (.inl is_), some (.inl co_), some (.inl k_), none, none], [.inl a1_, .inl 3, .inr (.inr (some (64, 0)))], S_)) rfl ?_
        refine sm_T_bin (w := 3 * a1_) rfl (bi_mul (by omega) (by omega) (by omega)) ?_ -- pc_ 206
        refine sm_T_go 1 (c1 := (209, [some (.inr (.inr (some (6, 0)))), some (.inl a1_), some (.inl a2_), some (.inl a3_), some (.inl a4_), some (.inl is_), some (.inl co_), some (.inl k_), none, none], [.inl k_, .inl (3 * a1_), .inr (.inr (some (64, 0)))], S_)) rfl ?_
        refine sm_T_bin (w := 3 * a1_ + k_) rfl (bi_add (by omega) (by omega) (by omega)) ?_ -- pc_ 209
        refine sm_T_go 4 (c1 := (216, [some (.inr (.inr (some (6, 0)))), some (.inl a1_), some (.inl a2_), some (.inl a3_), some (.inl a4_), some (.inl is_), some (.inl co_), some (.inl k_), none, none], [.inl a3_, .inl 3, .inr (.inr (some (65, 0))), .inl (3 * a1_ + k_), .inr (.inr (some (64, 0)))], S_)) rfl ?_
        refine sm_T_bin (w := 3 * a3_) rfl (bi_mul (by omega) (by omega) (by omega)) ?_ -- pc_ 216
        refine sm_T_go 3 (c1 := (223, [some (.inr (.inr (some (6, 0)))), some (.inl a1_), some (.inl a2_), some (.inl a3_), some (.inl a4_), some (.inl is_), some (.inl co_), some (.inl k_), none, none], [.inl is_, .inl a4_, .inl is_, .inl (3 * a3_), .inr (.inr (some (65, 0))), .inl (3 * a1_ + k_), .inr (.inr (some (64, 0)))], S_)) rfl ?_
        refine sm_T_bin (w := (i_shr a4_ is_)) rfl rfl ?_ -- pc_ 223
        have vo9_ := vor (v_ := a4_) (e_ := is_) (by omega) (by omega)
        refine sm_T_go 1 (c1 := (226, [some (.inr (.inr (some (6, 0)))), some (.inl a1_), some (.inl a2_), some (.inl a3_), some (.inl a4_), some (.inl is_), some (.inl co_), some (.inl k_), none, none], [.inl k_, .inl (i_shr a4_ is_), .inl is_, .inl (3 * a3_), .inr (.inr (some (65, 0))), .inl (3 * a1_ + k_), .inr (.inr (some (64, 0)))], S_)) rfl ?_
        refine sm_T_cal (d1 := 0) (Q1 := vq_98 is_ (i_shr a4_ is_) k_ S_) rfl rfl (by decide) (vc_98 is_ (i_shr a4_ is_) k_ S_ hI_ (by omega)) (fun u_ Sx3_ px6_ => ?_)
        obtain ⟨rfl, vx8_, rfl, px6_⟩ := px6_
        have p226_ := px6_.1
        have q226_ : vx8_ = plo (S0_.2.2.1 55 (0 + ll_) a2_.toNat) (i_shr a4_ (S0_.2.2.1 55 (0 + ll_) a2_.toNat)) k_ := by (have z9_ := px6_.2; rw [h0_.1] at z9_; exact z9_)
        have nx9_ : npd n9_ (S0_.2.2.1 59 0) (S0_.2.2.1 65 0 (3 * a3_ + vx8_).toNat) := mcs_b hcs_ h3_ (by omega) (fun u9_ => by rcases his_ with w9_ | w9_; (exfalso; omega); exact w9_.2.2.2)
        have nx1_ := nx9_.1
        have nx2_ := nx9_.2.1
        have nx0_ : S_.2.2.1 65 0 (3 * a3_ + vx8_).toNat = S0_.2.2.1 65 0 (3 * a3_ + vx8_).toNat := by rw [f65_]
        have xk9_ : S0_.2.2.1 65 0 (3 * a3_ + vx8_).toNat = (S0_.2.2.1 65 0 (3 * a3_ + plo (S0_.2.2.1 55 (0 + ll_) a2_.toNat) (i_shr a4_ (S0_.2.2.1 55 (0 + ll_) a2_.toNat)) k_).toNat) := by rw [q226_]
        refine sm_T_bin (w := 3 * a3_ + vx8_) rfl (bi_add (by omega) (by omega) (by omega)) ?_ -- pc_ 229
        refine sm_T_iald (n := 3072) rfl rfl (by omega) (by omega) ?_
        have bx9_ : (-1) ≤ S_.2.2.1 65 0 (3 * a3_ + vx8_).toNat ∧ S_.2.2.1 65 0 (3 * a3_ + vx8_).toNat ≤ 1012 := hI_.2 65 0 _
        refine sm_T_iast (n := 6078) rfl rfl (by omega) (by omega) ?_
        have hIx10_ : gi (sm_aI S_ 64 0 (3 * a1_ + k_).toNat (S_.2.2.1 65 0 (3 * a3_ + vx8_).toNat)) := gi_aI hI_ (show 0 ≤ (S_.2.2.1 65 0 (3 * a3_ + vx8_).toNat) ∧ (S_.2.2.1 65 0 (3 * a3_ + vx8_).toNat) ≤ 1012 from ⟨by omega, by omega⟩)
        have hFx11_ : ai_fr (sx_W vw_108) S0_ (sm_aI S_ 64 0 (3 * a1_ + k_).toNat (S_.2.2.1 65 0 (3 * a3_ + vx8_).toNat)) := ai_fr_tr hF_ (ai_fr_aI rfl)
        refine sm_T_inc (a := 7) (z := 1) (v := k_) (w := k_ + 1) rfl rfl (by omega) (by omega) (by omega) ?_ -- pc_ 232
        refine sm_T_go 1 (c1 := (193, [some (.inr (.inr (some (6, 0)))), some (.inl a1_), some (.inl a2_), some (.inl a3_), some (.inl a4_), some (.inl is_), some (.inl co_), some (.inl (k_ + 1)), none, none], [], sm_aI S_ 64 0 (3 * a1_ + k_).toNat (S_.2.2.1 65 0 (3 * a3_ + vx8_).toNat))) rfl ?_
        refine ih_.2 is_ co_ (k_ + 1) (sm_aI S_ 64 0 (3 * a1_ + k_).toNat (S_.2.2.1 65 0 (3 * a3_ + vx8_).toNat)) hIx10_ hFx11_ ⟨?_, ?_, ?_, ?_, ?_, trivial⟩ ?_
        · omega
        · exact hp_
        · (rw [rd_ne (by decide), rd_ne (by decide), rd_ne (by decide)]; exact hv_)
        · refine ⟨fun j_ hj_ => ?_, fun j_ hj_ => ?_⟩
          · rw [rd_ne (by decide), rd_ne (by decide), rd_ne (by decide)]; exact hf_.1 j_ hj_
          · rw [rd_eq, if_neg (by omega)]; exact hf_.2 j_ hj_
        · intro j_ hj_
          rw [rd_eq]
          by_cases y9_ : (j_ : Int) = k_
          · rw [if_pos (by omega), nx0_, xk9_, y9_]
          · rw [if_neg (by omega)]; exact hn_ j_ (by omega)
        · omega
set_option maxHeartbeats 3000000 in
set_option maxRecDepth 20000 in
theorem vc_108 {sc_ : Nat × (Nat → Int)} (a1_ : Int) (a2_ : Int) (a3_ : Int) (a4_ : Int) (dd_ : Nat) (ll_ : Nat) (n9_ : Int) (S0_ : sm_S) (hI_ : gi S0_) (hd_ : S0_.2.1 6 0 0 = some dd_) (hc_ : S0_.2.1 6 0 1 = some ll_) (h1_ : (a1_ = 2 * n9_ ∨ a1_ = 2 * n9_ + 1) ∧ 1 ≤ n9_ ∧ n9_ ≤ 1012) (h2_ : 0 ≤ a2_ ∧ a2_ ≤ 11) (h3_ : 0 ≤ a3_ ∧ a3_ < S0_.1 6 0 11) (his_ : ((S0_.2.2.1 55 (0 + ll_) a2_.toNat) = 2 ∧ 0 ≤ a4_ ∧ a4_ < 8) ∨ ((S0_.2.2.1 55 (0 + ll_) a2_.toNat) = 3 ∧ 0 ≤ a4_ ∧ a4_ < 48 ∧ S0_.2.2.1 65 0 (3 * a3_ + 2).toNat ≠ -1)) (hcs_ : mcs (npd n9_ (S0_.2.2.1 59 0)) S0_) (hw_ : wo3 (1 + S0_.1 3 dd_ 1 + S0_.1 3 dd_ 2) n9_ ll_ S0_ a1_.toNat) : sm_T (mt_P sc_) 2 108 (0, [some (.inr (.inr (some (6, 0)))), some (.inl a1_), some (.inl a2_), some (.inl a3_), some (.inl a4_), none, none, none, none, none], [], S0_) (fun ro9_ => ∃ u_ S1_, ro9_ = (.inl u_, S1_, 0) ∧ vq_108 a1_ a2_ a3_ a4_ dd_ ll_ n9_ S0_ u_ S1_) := by
  have hF_ : ai_fr (sx_W vw_108) S0_ S0_ := ai_fr_rf
  have ck0_ : 0 ≤ S0_.1 6 0 11 ∧ S0_.1 6 0 11 ≤ 1024 := hI_.1 6 0 11 rfl
  refine sm_T_go 1 (c1 := (1, [some (.inr (.inr (some (6, 0)))), some (.inl a1_), some (.inl a2_), some (.inl a3_), some (.inl a4_), none, none, none, none, none], [.inr (.inr (some (6, 0)))], S0_)) rfl ?_
  refine sm_T_gr rfl rfl ((hF_.2.1 6 0 1 rfl).trans hc_) ?_
  refine sm_T_go 2 (c1 := (8, [some (.inr (.inr (some (6, 0)))), some (.inl a1_), some (.inl a2_), some (.inl a3_), some (.inl a4_), none, none, none, none, none], [.inl a2_, .inr (.inr (some (55, (0 + ll_))))], S0_)) rfl ?_
  refine sm_T_iald (n := 12) rfl rfl (by omega) (by omega) ?_
  have bx1_ : 0 ≤ S0_.2.2.1 55 (0 + ll_) a2_.toNat ∧ S0_.2.2.1 55 (0 + ll_) a2_.toNat ≤ 3 := hI_.2 55 (0 + ll_) _
  refine sm_T_go 2 (c1 := (12, [some (.inr (.inr (some (6, 0)))), some (.inl a1_), some (.inl a2_), some (.inl a3_), some (.inl a4_), some (.inl (S0_.2.2.1 55 (0 + ll_) a2_.toNat)), none, none, none, none], [.inr (.inr (some (6, 0)))], S0_)) rfl ?_
  refine sm_T_gr rfl rfl ((hF_.2.1 6 0 1 rfl).trans hc_) ?_
  refine sm_T_go 2 (c1 := (19, [some (.inr (.inr (some (6, 0)))), some (.inl a1_), some (.inl a2_), some (.inl a3_), some (.inl a4_), some (.inl (S0_.2.2.1 55 (0 + ll_) a2_.toNat)), none, none, none, none], [.inl a2_, .inr (.inr (some (57, (0 + ll_))))], S0_)) rfl ?_
  refine sm_T_iald (n := 12) rfl rfl (by omega) (by omega) ?_
  have bx2_ : 0 ≤ S0_.2.2.1 57 (0 + ll_) a2_.toNat ∧ S0_.2.2.1 57 (0 + ll_) a2_.toNat ≤ 1000 := hI_.2 57 (0 + ll_) _
  refine sm_T_go 3 (c1 := (25, [some (.inr (.inr (some (6, 0)))), some (.inl a1_), some (.inl a2_), some (.inl a3_), some (.inl a4_), some (.inl (S0_.2.2.1 55 (0 + ll_) a2_.toNat)), some (.inl (S0_.2.2.1 57 (0 + ll_) a2_.toNat)), some (.inl 0), none, none], [], S0_)) rfl ?_
  refine (vl_108 a1_ a2_ a3_ a4_ dd_ ll_ n9_ S0_ hd_ hc_ h1_ h2_ h3_ his_ hcs_ hw_ _).1 (S0_.2.2.1 55 (0 + ll_) a2_.toNat) (S0_.2.2.1 57 (0 + ll_) a2_.toNat) 0 S0_ hI_ hF_ ⟨?_, ?_, ?_, trivial⟩ (Nat.lt_succ_self _)
  · omega
  · rfl
  · (intro _ j_ hj_; exfalso; omega)
