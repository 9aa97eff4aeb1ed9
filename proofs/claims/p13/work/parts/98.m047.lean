/-! 99.ztI -/
section
/-! what a library keeps: the reference; written by wip/p55/gen/vg -/

def lRq (b_ : Nat → Int) (n_ T_ : Nat) (S_ : sm_S) : Prop := ∃ K_ f_ L_ q_, rg b_ n_ T_ (.inr q_) S_ ∧ rwq b_ n_ T_ K_ f_ L_ S_ ∧ ((K_ = 0 ∨ lx_kd b_ n_ q_ ≠ 0) → p_li b_ n_ = p_lb b_ n_ (13 - K_) K_ f_ L_ q_) ∧ (K_ ≠ 0 → lx_kd b_ n_ q_ = 0 → p_li b_ n_ = .inr (K_, L_))
def lEq (b_ : Nat → Int) (n_ : Nat) (S_ : sm_S) : Prop := ∃ K_ L_, p_li b_ n_ = .inr (K_, L_) ∧ S_.1 13 0 10 = 0 ∧ S_.1 13 0 83 = (K_ : Int) ∧ c_dt K_ S_ ∧ ncl K_ L_ S_
theorem lq_st {b_ : Nat → Int} {n_ T_ K_ q_ : Nat} {f_ : Nat → Nat} {L_ : pL} {S_ : sm_S} (hK_ : K_ ≤ 12) (hX_ : p_li b_ n_ = p_lb b_ n_ (13 - K_) K_ f_ L_ q_) (g_ : rg b_ n_ T_ (pb (p_ce b_ n_ K_ f_ q_) fun c_ => .inr c_.2.2.2.2.2) S_) (hr_ : ∀ c_, p_ce b_ n_ K_ f_ q_ = .inr c_ → rwq b_ n_ T_ (K_ + 1) (n_up f_ K_ c_.1) (l_up L_ K_ c_) S_) : lX b_ n_ T_ S_ ∨ lRq b_ n_ T_ S_ := by
  rw [lb_u hK_] at hX_
  cases hc_ : p_ce b_ n_ K_ f_ q_ with
  | inl e_ => rw [hc_] at hX_ g_; left; exact ⟨e_, hX_, g_⟩
  | inr c_ =>
    rw [hc_] at hX_ g_
    right
    refine ⟨K_ + 1, n_up f_ K_ c_.1, l_up L_ K_ c_, c_.2.2.2.2.2, g_, hr_ c_ hc_, fun z_ => ?_, fun _ z_ => ?_⟩
    · rw [hX_, show 13 - (K_ + 1) = 12 - K_ by omega]
      show (if lx_kd b_ n_ c_.2.2.2.2.2 = 0 then _ else _) = _
      rw [if_neg (by rcases z_ with z_ | z_; omega; exact z_)]
    · rw [hX_]
      show (if lx_kd b_ n_ c_.2.2.2.2.2 = 0 then _ else _) = _
      rw [if_pos z_]
theorem lq_k {b_ : Nat → Int} {n_ T_ : Nat} {S_ : sm_S} (h_ : lRq b_ n_ T_ S_) (h5_ : S_.2.2.1 119 0 (S_.1 13 0 9).toNat = 5) (ht_ : rtab b_ n_ T_ S_) (hk_ : S_.1 13 0 83 ≠ 0) : lEq b_ n_ S_ := by
  obtain ⟨K_, f_, L_, q_, g_, hr_, -, h2_⟩ := h_
  obtain ⟨i_, z1_, z2_⟩ := g_.2
  have ra_ := (rp_at ht_ z2_).1
  rw [show (S_.1 13 0 9).toNat = i_ by omega, ra_] at h5_
  have k0_ : lx_kd b_ n_ q_ = 0 := by
    unfold r_st r_so at h5_
    by_cases y_ : lx_kd b_ n_ q_ = 0
    · exact y_
    · exfalso
      rw [if_neg y_] at h5_
      split at h5_
      · omega
      · split at h5_
        · omega
        · split at h5_
          · omega
          · split at h5_ <;> omega
  have c1_ := hr_.1.1
  exact ⟨K_, L_, h2_ (by omega) k0_, g_.1, c1_, hr_.2.1, hr_.2.2⟩
theorem lq_n {b_ : Nat → Int} {n_ T_ : Nat} {S_ : sm_S} (h_ : lRq b_ n_ T_ S_) (ht_ : rtab b_ n_ T_ S_) (h5_ : S_.1 13 0 83 = 0 ∨ S_.2.2.1 119 0 (S_.1 13 0 9).toNat ≠ 5) : ∃ K_ f_ L_ q_, rg b_ n_ T_ (.inr q_) S_ ∧ rwq b_ n_ T_ K_ f_ L_ S_ ∧ p_li b_ n_ = p_lb b_ n_ (13 - K_) K_ f_ L_ q_ := by
  obtain ⟨K_, f_, L_, q_, g_, hr_, h1_, -⟩ := h_
  refine ⟨K_, f_, L_, q_, g_, hr_, h1_ ?_⟩
  have c1_ := hr_.1.1
  rcases h5_ with z_ | z_
  · left; omega
  · right
    intro y_
    apply z_
    obtain ⟨i_, z1_, z2_⟩ := g_.2
    have ra_ := (rp_at ht_ z2_).1
    rw [show (S_.1 13 0 9).toNat = i_ by omega, ra_, y_]
    rfl
theorem lq_0 {b_ : Nat → Int} {n_ T_ : Nat} {S_ : sm_S} (hz_ : S_.1 13 0 10 = 0) (ha_ : S_.1 13 0 9 = 0) (hn_ : S_.1 13 0 83 = 0) (hp_ : rp b_ n_ T_ 0 (lx_k b_ n_ 0)) : lRq b_ n_ T_ S_ := by
  refine ⟨0, f_0, fun _ => (0, 0, 0, 0), lx_k b_ n_ 0, ⟨hz_, 0, ha_, hp_⟩, ⟨⟨hn_, fun j_ hj_ => absurd hj_ (Nat.not_lt_zero _)⟩, fun k_ hk_ => absurd hk_ (Nat.not_lt_zero _), fun k_ hk_ => absurd hk_ (Nat.not_lt_zero _)⟩, fun _ => ?_, fun z_ => absurd rfl z_⟩
  unfold p_li
  rw [if_neg hp_.2.2.1]
/-- the_ rows of_ libraries stay -/
def rsm (S_ S'_ : sm_S) : Prop := ∀ t_, t_ < 189 → 184 ≤ t_ → S'_.2.2.1 t_ 0 = S_.2.2.1 t_ 0
theorem rsm_fr {w_ : sx_Wl} {S_ S'_ : sm_S} (g_ : ai_fr (sx_W w_) S_ S'_) (h_ : ∀ t_, t_ < 189 → 184 ≤ t_ → (sx_W w_).2.1 t_ = false) : rsm S_ S'_ := fun t_ h1_ h2_ => fr_arr g_ (h_ t_ h1_ h2_)
theorem rsm_tr {S_ S'_ S2_ : sm_S} (h_ : rsm S_ S'_) (g_ : rsm S'_ S2_) : rsm S_ S2_ := fun t_ h1_ h2_ => (g_ t_ h1_ h2_).trans (h_ t_ h1_ h2_)
/-- the_ other libraries of_ the_ reference stay -/
def rlf (l0_ : Nat) (S_ S'_ : sm_S) : Prop := ∀ l_, l_ ≠ l0_ → S'_.2.2.1 184 0 l_ = S_.2.2.1 184 0 l_ ∧ ∀ j_, j_ < 12 → S'_.2.2.1 185 0 (12 * l_ + j_) = S_.2.2.1 185 0 (12 * l_ + j_) ∧ S'_.2.2.1 186 0 (12 * l_ + j_) = S_.2.2.1 186 0 (12 * l_ + j_) ∧ S'_.2.2.1 187 0 (12 * l_ + j_) = S_.2.2.1 187 0 (12 * l_ + j_) ∧ S'_.2.2.1 188 0 (12 * l_ + j_) = S_.2.2.1 188 0 (12 * l_ + j_)
theorem rlf_sm {l0_ : Nat} {S_ S'_ : sm_S} (h_ : rsm S_ S'_) : rlf l0_ S_ S'_ := fun l_ _ => ⟨congrFun (h_ 184 (by decide) (by decide)) l_, fun j_ _ => ⟨congrFun (h_ 185 (by decide) (by decide)) _, congrFun (h_ 186 (by decide) (by decide)) _, congrFun (h_ 187 (by decide) (by decide)) _, congrFun (h_ 188 (by decide) (by decide)) _⟩⟩
/-- library l_ of_ the_ reference holds the_ cells of_ L_ -/
def lcr (l_ K_ : Nat) (L_ : pL) (S_ : sm_S) : Prop := S_.2.2.1 184 0 l_ = (K_ : Int) ∧ ∀ j_, j_ < K_ → S_.2.2.1 185 0 (12 * l_ + j_) = (L_ j_).1 ∧ S_.2.2.1 186 0 (12 * l_ + j_) = (L_ j_).2.1 ∧ S_.2.2.1 187 0 (12 * l_ + j_) = (L_ j_).2.2.1 ∧ S_.2.2.1 188 0 (12 * l_ + j_) = (L_ j_).2.2.2
def lkp (l_ k_ : Nat) (S_ : sm_S) : Prop := S_.2.2.1 184 0 l_ = S_.1 13 0 83 ∧ ∀ j_, j_ < k_ → S_.2.2.1 185 0 (12 * l_ + j_) = S_.2.2.1 179 0 j_ ∧ S_.2.2.1 186 0 (12 * l_ + j_) = S_.2.2.1 180 0 j_ ∧ S_.2.2.1 187 0 (12 * l_ + j_) = S_.2.2.1 181 0 j_ ∧ S_.2.2.1 188 0 (12 * l_ + j_) = S_.2.2.1 182 0 j_
def lY (b_ : Nat → Int) (n_ : Nat) (S_ : sm_S) : Prop := ∃ K_ L_, p_li b_ n_ = .inr (K_, L_) ∧ S_.1 13 0 83 = (K_ : Int) ∧ ncl K_ L_ S_
theorem lY_e {b_ : Nat → Int} {n_ l_ k_ : Nat} {S_ : sm_S} (h_ : lY b_ n_ S_) (g_ : lkp l_ k_ S_) (e_ : S_.1 13 0 83 ≤ (k_ : Int)) : ∃ r_, p_li b_ n_ = .inr r_ ∧ lcr l_ r_.1 r_.2 S_ := by
  obtain ⟨K_, L_, h1_, h2_, h3_⟩ := h_
  refine ⟨(K_, L_), h1_, g_.1.trans h2_, fun j_ hj_ => ?_⟩
  have hj_ : j_ < K_ := hj_
  have a_ := g_.2 j_ (by omega)
  have c_ := h3_ j_ hj_
  exact ⟨a_.1.trans c_.1, a_.2.1.trans c_.2.1, a_.2.2.1.trans c_.2.2.1, a_.2.2.2.trans c_.2.2.2⟩

/-! M_.library -/
def vw_367v : sx_Wl := ([(13, 0), (13, 2), (13, 3), (13, 9), (13, 10), (13, 11), (13, 27), (13, 32), (13, 33), (13, 34), (13, 79), (13, 80), (13, 83)], [119, 120, 121, 122, 123, 136, 137, 138, 139, 177, 178, 179, 180, 181, 182, 183, 184, 185, 186, 187, 188], [])
def vq_367v (b_ : Nat → Int) (n_ : Nat) (S0_ : sm_S) (u_ : Option sm_V) (S1_ : sm_S) : Prop := ∃ v_ : Int, u_ = some (.inl v_) ∧ gi S1_ ∧ ai_fr (sx_W vw_367v) S0_ S1_ ∧ (((S1_.1 13 0 0) = 1 ∧ (∀ j_ : Nat, j_ < 3 → (S0_.2.2.1 183 0 (j_)) = 1) ∧ (S1_.1 13 0 2) = (S0_.1 13 0 2) ∧ (∀ j_ : Nat, (S1_.2.2.1 183 0 (j_)) = (S0_.2.2.1 183 0 (j_))) ∧ rsm S0_ S1_ ∧ (S1_.1 13 0 79) = (S0_.1 13 0 79)) ∨ ((S1_.1 13 0 0) = 0 ∧ ∃ sl_ : Nat, sl_ < 3 ∧ (S0_.2.2.1 183 0 (sl_)) = 0 ∧ (∀ j_ : Nat, j_ < sl_ → (S0_.2.2.1 183 0 (j_)) = 1) ∧ (S1_.1 13 0 2) = 0 ∧ rlf sl_ S0_ S1_ ∧ ((∃ e_, p_li b_ n_ = .inl e_ ∧ v_ = -1 - (e_.2 : Int) ∧ (S1_.1 13 0 79) = e_.1 ∧ ∀ j_ : Nat, (S1_.2.2.1 183 0 (j_)) = (S0_.2.2.1 183 0 (j_))) ∨ ((∃ r_, p_li b_ n_ = .inr r_ ∧ lcr sl_ r_.1 r_.2 S1_) ∧ v_ = (sl_ : Int) ∧ (S1_.1 13 0 79) = 0 ∧ ∀ j_ : Nat, (S1_.2.2.1 183 0 (j_)) = if j_ = sl_ then 1 else (S0_.2.2.1 183 0 (j_))))))
set_option maxHeartbeats 2000000 in
set_option maxRecDepth 20000 in
theorem vl_367v {sc_ : Nat × (Nat → Int)} (b_ : Nat → Int) (n_ : Nat) (S0_ : sm_S) (hb_ : S0_.2.2.1 118 0 = b_) (hn_ : (S0_.1 13 0 2) = (n_ : Int)) (hn1_ : n_ ≤ 1280) : ∀ nn_ : Nat, (∀ (sv_ : Int) (S_ : sm_S), gi S_ → ai_fr (sx_W vw_367v) S0_ S_ → ((∃ T_, rtab b_ n_ T_ S_ ∧ (lX b_ n_ T_ S_ ∨ lRq b_ n_ T_ S_)) ∧ (0 ≤ sv_ ∧ sv_ < 3 ∧ S0_.2.2.1 183 0 sv_.toNat = 0 ∧ ∀ j_ : Nat, j_ < sv_.toNat → S0_.2.2.1 183 0 j_ = 1) ∧ (rsm S0_ S_) ∧ ((S_.1 13 0 27) = 2) ∧ ((S_.1 13 0 0) = 0) ∧ (S_.2.2.1 183 0 = S0_.2.2.1 183 0) ∧ True) → (r_mc S_ + 100) < nn_ → sm_T (mt_P sc_) 9 367 (65, [some (.inr (.inr (some (13, 0)))), some (.inl sv_), none], [], S_) (fun ro9_ => ∃ u_ S1_, ro9_ = (.inl u_, S1_, 0) ∧ vq_367v b_ n_ S0_ u_ S1_)) ∧ (∀ (sv_ : Int) (S_ : sm_S), gi S_ → ai_fr (sx_W vw_367v) S0_ S_ → ((lW b_ n_ S_ ∨ lEq b_ n_ S_) ∧ (0 ≤ sv_ ∧ sv_ < 3 ∧ S0_.2.2.1 183 0 sv_.toNat = 0 ∧ ∀ j_ : Nat, j_ < sv_.toNat → S0_.2.2.1 183 0 j_ = 1) ∧ (rsm S0_ S_) ∧ ((S_.1 13 0 0) = 0) ∧ (S_.2.2.1 183 0 = S0_.2.2.1 183 0) ∧ True) → ((90 : Nat)) < nn_ → sm_T (mt_P sc_) 9 367 (99, [some (.inr (.inr (some (13, 0)))), some (.inl sv_), none], [], S_) (fun ro9_ => ∃ u_ S1_, ro9_ = (.inl u_, S1_, 0) ∧ vq_367v b_ n_ S0_ u_ S1_)) ∧ (∀ (sv_ : Int) (k_ : Int) (S_ : sm_S), gi S_ → ai_fr (sx_W vw_367v) S0_ S_ → ((0 ≤ k_ ∧ k_ ≤ 12) ∧ (0 ≤ sv_ ∧ sv_ < 3 ∧ S0_.2.2.1 183 0 sv_.toNat = 0 ∧ ∀ j_ : Nat, j_ < sv_.toNat → S0_.2.2.1 183 0 j_ = 1) ∧ ((S_.1 13 0 0) = 0) ∧ ((S_.1 13 0 2) = 0) ∧ ((S_.1 13 0 79) = 0) ∧ (lY b_ n_ S_) ∧ (rlf sv_.toNat S0_ S_) ∧ (lkp sv_.toNat k_.toNat S_) ∧ (∀ j_ : Nat, S_.2.2.1 183 0 j_ = if j_ = sv_.toNat then 1 else S0_.2.2.1 183 0 j_) ∧ (c_dt ((S_.1 13 0 83)).toNat S_) ∧ True) → ((20 - k_).toNat) < nn_ → sm_T (mt_P sc_) 9 367 (145, [some (.inr (.inr (some (13, 0)))), some (.inl sv_), some (.inl k_)], [], S_) (fun ro9_ => ∃ u_ S1_, ro9_ = (.inl u_, S1_, 0) ∧ vq_367v b_ n_ S0_ u_ S1_)) := by
  intro nn_
  induction nn_ with
  | zero => exact ⟨fun _ _ _ _ _ h_ => absurd h_ (Nat.not_lt_zero _), fun _ _ _ _ _ h_ => absurd h_ (Nat.not_lt_zero _), fun _ _ _ _ _ _ h_ => absurd h_ (Nat.not_lt_zero _)⟩
  | succ nn_ ih_ =>
    refine ⟨?_, ?_, ?_⟩
    · rintro sv_ S_ hI_ hF_ ⟨h1_, sb_, ot65_, mo65_, cd65_, th65_, -⟩ hm_
      obtain ⟨T_, t65_, h1_⟩ := h1_
      refine sm_T_go 1 (c1 := (66, [some (.inr (.inr (some (13, 0)))), some (.inl sv_), none], [.inr (.inr (some (13, 0)))], S_)) rfl ?_
      refine sm_T_cal (d1 := 0) (Q1 := vq_292  S_) rfl rfl (by decide) (vc_292  S_ hI_ ) (fun u_ Sx1_ px4_ => ?_)
      obtain ⟨rfl, vx6_, rfl, px4_⟩ := px4_
      have e66_ := px4_
      refine sm_T_b0 (a := 0) (z := 30) rfl (fun cx7_ => ?_) (fun cx7_ => ?_)
      · have cx7_ : vx6_ = 0 := of_decide_eq_true cx7_
        have hz_ := wr_if e66_ (by omega)
        refine sm_T_go 0 (c1 := (99, [some (.inr (.inr (some (13, 0)))), some (.inl sv_), none], [], S_)) rfl ?_
        refine ih_.2.1 sv_ S_ hI_ hF_ ⟨?_, ?_, ?_, ?_, ?_, trivial⟩ ?_
        · first | (right; exact hE_) | (left; rcases h1_ with ⟨e_, z1_, z2_⟩ | ⟨K_, f_, L_, q_, z1_, z2_⟩; (exact ⟨e_, z1_, z2_.1, z2_.2.1, z2_.2.2⟩); (exact absurd z1_.1 hz_))
        · exact sb_
        · exact ot65_
        · exact cd65_
        · exact th65_
        · omega
      · have cx7_ : ¬ (vx6_ = 0) := of_decide_eq_false cx7_
        have hz_ := rt_if e66_ (by omega)
        have hR_ : lRq b_ n_ T_ S_ := by rcases h1_ with ⟨e_, z1_, z2_⟩ | z_; (exact absurd (z2_.1.symm.trans hz_) z2_.2.2); exact z_
        have bx8_ : 0 ≤ S_.1 13 0 83 ∧ S_.1 13 0 83 ≤ 12 := hI_.1 13 0 83 rfl
        refine sm_T_go 2 (c1 := (76, [some (.inr (.inr (some (13, 0)))), some (.inl sv_), none], [.inl (S_.1 13 0 83)], S_)) rfl ?_
        refine sm_T_b0 (a := 0) (z := 16) rfl (fun cx9_ => ?_) (fun cx9_ => ?_)
        · have cx9_ : (S_.1 13 0 83) = 0 := of_decide_eq_true cx9_
          obtain ⟨K1_, f1_, L1_, q1_, g1_, rw1_, hX1_⟩ := lq_n hR_ t65_ (Or.inl (by omega))
          have rw1a := rw1_.1.1
          refine sm_T_go 1 (c1 := (93, [some (.inr (.inr (some (13, 0)))), some (.inl sv_), none], [.inr (.inr (some (13, 0)))], S_)) rfl ?_
          refine sm_T_cal (d1 := 8) (Q1 := vq_366v b_ n_ T_ q1_ K1_ f1_ L1_ S_) rfl rfl (by decide) (vc_366v b_ n_ T_ q1_ K1_ f1_ L1_ S_ hI_ (by exact t65_) (by exact g1_) (by exact mo65_) (by exact rw1_)) (fun u_ Sx10_ px13_ => ?_)
          obtain ⟨rfl, hIx11_, hFx12_, px13_⟩ := px13_
          have hFx14_ : ai_fr (sx_W vw_367v) S0_ Sx10_ := ai_fr_tr hF_ (fr_le hFx12_ rfl)
          have e93_ := px13_
          have t93_ := rtab_fr t65_ hFx12_ rfl rfl rfl rfl rfl
          have mo93_ := (hFx12_.1 13 0 27 rfl).trans mo65_
          have cd93_ := (hFx12_.1 13 0 0 rfl).trans cd65_
          have ot93_ := rsm_tr ot65_ (rsm_fr hFx12_ (by decide))
          have th93_ := (fr_arr (t := 183) (i := 0) hFx12_ rfl).trans th65_
          have nb93_ : 0 ≤ S_.1 13 0 83 ∧ S_.1 13 0 83 ≤ 12 := hI_.1 13 0 83 rfl
          have st93_ := lq_st (by omega) hX1_ e93_.1 e93_.2
          have nc93_ : Sx10_.1 13 0 10 = 0 → Sx10_.1 13 0 83 = (K1_ : Int) + 1 := fun z_ => by cases hc_ : p_ce b_ n_ K1_ f1_ q1_ with | inl e_ => (have y_ := e93_.1; rw [hc_] at y_; exact absurd (y_.1.symm.trans z_) y_.2.2) | inr c_ => (have y_ := (e93_.2 c_ hc_).1.1; rw [y_]; push_cast; rfl)
          refine sm_T_go 1 (c1 := (65, [some (.inr (.inr (some (13, 0)))), some (.inl sv_), none], [], Sx10_)) rfl ?_
          refine ih_.1 sv_ Sx10_ hIx11_ hFx14_ ⟨?_, ?_, ?_, ?_, ?_, ?_, trivial⟩ ?_
          · exact ⟨T_, t93_, st93_⟩
          · exact sb_
          · exact ot93_
          · exact mo93_
          · exact cd93_
          · exact th93_
          · (have z_ : r_mc S_ = (20 - S_.1 13 0 83).toNat := if_neg (by rw [hz_]; exact fun y_ => y_ rfl)); unfold r_mc; split; omega; (rename_i gg_; have w_ := nc93_ (Decidable.byContradiction gg_); omega)
        · have cx9_ : ¬ ((S_.1 13 0 83) = 0) := of_decide_eq_false cx9_
          have bx15_ : 0 ≤ S_.1 13 0 9 ∧ S_.1 13 0 9 ≤ 1280 := hI_.1 13 0 9 rfl
          refine sm_T_go 4 (c1 := (87, [some (.inr (.inr (some (13, 0)))), some (.inl sv_), none], [.inl (S_.1 13 0 9), .inr (.inr (some (119, 0)))], S_)) rfl ?_
          refine sm_T_bald (n := 65537) rfl rfl (by omega) (by omega) ?_
          have bx16_ : (-128) ≤ S_.2.2.1 119 0 (S_.1 13 0 9).toNat ∧ S_.2.2.1 119 0 (S_.1 13 0 9).toNat ≤ 127 := hI_.2 119 0 _
          refine sm_T_go 1 (c1 := (89, [some (.inr (.inr (some (13, 0)))), some (.inl sv_), none], [.inl 5, .inl (S_.2.2.1 119 0 (S_.1 13 0 9).toNat)], S_)) rfl ?_
          refine sm_T_br (a := 0) (z := 10) rfl (fun cx17_ => ?_) (fun cx17_ => ?_)
          · have cx17_ : (S_.2.2.1 119 0 (S_.1 13 0 9).toNat) = 5 := of_decide_eq_true cx17_
            have hE_ := lq_k hR_ (by omega) t65_ (by omega)
            refine sm_T_go 0 (c1 := (99, [some (.inr (.inr (some (13, 0)))), some (.inl sv_), none], [], S_)) rfl ?_
            refine ih_.2.1 sv_ S_ hI_ hF_ ⟨?_, ?_, ?_, ?_, ?_, trivial⟩ ?_
            · first | (right; exact hE_) | (left; rcases h1_ with ⟨e_, z1_, z2_⟩ | ⟨K_, f_, L_, q_, z1_, z2_⟩; (exact ⟨e_, z1_, z2_.1, z2_.2.1, z2_.2.2⟩); (exact absurd z1_.1 hz_))
            · exact sb_
            · exact ot65_
            · exact cd65_
            · exact th65_
            · omega
          · have cx17_ : ¬ ((S_.2.2.1 119 0 (S_.1 13 0 9).toNat) = 5) := of_decide_eq_false cx17_
            obtain ⟨K1_, f1_, L1_, q1_, g1_, rw1_, hX1_⟩ := lq_n hR_ t65_ (Or.inr (by omega))
            have rw1a := rw1_.1.1
            refine sm_T_go 1 (c1 := (93, [some (.inr (.inr (some (13, 0)))), some (.inl sv_), none], [.inr (.inr (some (13, 0)))], S_)) rfl ?_
            refine sm_T_cal (d1 := 8) (Q1 := vq_366v b_ n_ T_ q1_ K1_ f1_ L1_ S_) rfl rfl (by decide) (vc_366v b_ n_ T_ q1_ K1_ f1_ L1_ S_ hI_ (by exact t65_) (by exact g1_) (by exact mo65_) (by exact rw1_)) (fun u_ Sx18_ px21_ => ?_)
            obtain ⟨rfl, hIx19_, hFx20_, px21_⟩ := px21_
            have hFx22_ : ai_fr (sx_W vw_367v) S0_ Sx18_ := ai_fr_tr hF_ (fr_le hFx20_ rfl)
            have e93_ := px21_
            have t93_ := rtab_fr t65_ hFx20_ rfl rfl rfl rfl rfl
            have mo93_ := (hFx20_.1 13 0 27 rfl).trans mo65_
            have cd93_ := (hFx20_.1 13 0 0 rfl).trans cd65_
            have ot93_ := rsm_tr ot65_ (rsm_fr hFx20_ (by decide))
            have th93_ := (fr_arr (t := 183) (i := 0) hFx20_ rfl).trans th65_
            have nb93_ : 0 ≤ S_.1 13 0 83 ∧ S_.1 13 0 83 ≤ 12 := hI_.1 13 0 83 rfl
            have st93_ := lq_st (by omega) hX1_ e93_.1 e93_.2
            have nc93_ : Sx18_.1 13 0 10 = 0 → Sx18_.1 13 0 83 = (K1_ : Int) + 1 := fun z_ => by cases hc_ : p_ce b_ n_ K1_ f1_ q1_ with | inl e_ => (have y_ := e93_.1; rw [hc_] at y_; exact absurd (y_.1.symm.trans z_) y_.2.2) | inr c_ => (have y_ := (e93_.2 c_ hc_).1.1; rw [y_]; push_cast; rfl)
            refine sm_T_go 1 (c1 := (65, [some (.inr (.inr (some (13, 0)))), some (.inl sv_), none], [], Sx18_)) rfl ?_
            refine ih_.1 sv_ Sx18_ hIx19_ hFx22_ ⟨?_, ?_, ?_, ?_, ?_, ?_, trivial⟩ ?_
            · exact ⟨T_, t93_, st93_⟩
            · exact sb_
            · exact ot93_
            · exact mo93_
            · exact cd93_
            · exact th93_
            · (have z_ : r_mc S_ = (20 - S_.1 13 0 83).toNat := if_neg (by rw [hz_]; exact fun y_ => y_ rfl)); unfold r_mc; split; omega; (rename_i gg_; have w_ := nc93_ (Decidable.byContradiction gg_); omega)
    · rintro sv_ S_ hI_ hF_ ⟨h1_, sb_, ot99_, cd99_, th99_, -⟩ hm_
      have hIx1_ : gi (sm_pI S_ 13 0 2 0) := gi_pI hI_ (show 0 ≤ 0 ∧ 0 ≤ 1280 from ⟨by omega, by omega⟩)
      have hFx2_ : ai_fr (sx_W vw_367v) S0_ (sm_pI S_ 13 0 2 0) := ai_fr_tr hF_ (ai_fr_pI rfl)
      have bx3_ : 0 ≤ S_.1 13 0 10 ∧ S_.1 13 0 10 ≤ 23 := hI_.1 13 0 10 rfl
      have hIx4_ : gi (sm_pI (sm_pI S_ 13 0 2 0) 13 0 79 (S_.1 13 0 10)) := gi_pI hIx1_ (show 0 ≤ (S_.1 13 0 10) ∧ (S_.1 13 0 10) ≤ 23 from ⟨by omega, by omega⟩)
      have hFx5_ : ai_fr (sx_W vw_367v) S0_ (sm_pI (sm_pI S_ 13 0 2 0) 13 0 79 (S_.1 13 0 10)) := ai_fr_tr hFx2_ (ai_fr_pI rfl)
      refine sm_T_go 8 (c1 := (113, [some (.inr (.inr (some (13, 0)))), some (.inl sv_), none], [.inr (.inr (some (13, 0)))], sm_pI (sm_pI S_ 13 0 2 0) 13 0 79 (S_.1 13 0 10))) rfl ?_
      refine sm_T_cal (d1 := 0) (Q1 := vq_292  (sm_pI (sm_pI S_ 13 0 2 0) 13 0 79 (S_.1 13 0 10))) rfl rfl (by decide) (vc_292  (sm_pI (sm_pI S_ 13 0 2 0) 13 0 79 (S_.1 13 0 10)) hIx4_ ) (fun u_ Sx6_ px9_ => ?_)
      obtain ⟨rfl, vx11_, rfl, px9_⟩ := px9_
      have e113_ := px9_
      refine sm_T_b0 (a := 1) (z := 10) rfl (fun cx12_ => ?_) (fun cx12_ => ?_)
      · have cx12_ : vx11_ ≠ 0 := of_decide_eq_true cx12_
        have hz_ := rt_if e113_ (by omega)
        obtain ⟨K1_, L1_, hX1_, hz1_, nc1_, cdt1_, ncl1_⟩ : lEq b_ n_ S_ := by rcases h1_ with ⟨e_, z1_, z2_, z3_, z4_⟩ | z_; (exact absurd (z2_.symm.trans hz_) z4_); exact z_
        have nb1_ : 0 ≤ S_.1 13 0 83 ∧ S_.1 13 0 83 ≤ 12 := hI_.1 13 0 83 rfl
        refine sm_T_go 4 (c1 := (132, [some (.inr (.inr (some (13, 0)))), some (.inl sv_), none], [.inl 1, .inl sv_, .inr (.inr (some (183, 0)))], sm_pI (sm_pI S_ 13 0 2 0) 13 0 79 (S_.1 13 0 10))) rfl ?_
        refine sm_T_zas1 (n := 3) rfl rfl (by omega) (by omega) (by omega) ?_
        have hIx13_ : gi (sm_aI (sm_pI (sm_pI S_ 13 0 2 0) 13 0 79 (S_.1 13 0 10)) 183 0 sv_.toNat 1) := gi_aI hIx4_ (show 0 ≤ 1 ∧ 1 ≤ 1 from ⟨by omega, by omega⟩)
        have hFx14_ : ai_fr (sx_W vw_367v) S0_ (sm_aI (sm_pI (sm_pI S_ 13 0 2 0) 13 0 79 (S_.1 13 0 10)) 183 0 sv_.toNat 1) := ai_fr_tr hFx5_ (ai_fr_aI rfl)
        have bx15_ : 0 ≤ S_.1 13 0 83 ∧ S_.1 13 0 83 ≤ 12 := hI_.1 13 0 83 rfl
        refine sm_T_go 5 (c1 := (142, [some (.inr (.inr (some (13, 0)))), some (.inl sv_), none], [.inl (S_.1 13 0 83), .inl sv_, .inr (.inr (some (184, 0)))], sm_aI (sm_pI (sm_pI S_ 13 0 2 0) 13 0 79 (S_.1 13 0 10)) 183 0 sv_.toNat 1)) rfl ?_
        refine sm_T_iast (n := 3) rfl rfl (by omega) (by omega) ?_
        have hIx16_ : gi (sm_aI (sm_aI (sm_pI (sm_pI S_ 13 0 2 0) 13 0 79 (S_.1 13 0 10)) 183 0 sv_.toNat 1) 184 0 sv_.toNat (S_.1 13 0 83)) := gi_aI hIx13_ (show 0 ≤ (S_.1 13 0 83) ∧ (S_.1 13 0 83) ≤ 12 from ⟨by omega, by omega⟩)
        have hFx17_ : ai_fr (sx_W vw_367v) S0_ (sm_aI (sm_aI (sm_pI (sm_pI S_ 13 0 2 0) 13 0 79 (S_.1 13 0 10)) 183 0 sv_.toNat 1) 184 0 sv_.toNat (S_.1 13 0 83)) := ai_fr_tr hFx14_ (ai_fr_aI rfl)
        refine sm_T_go 2 (c1 := (145, [some (.inr (.inr (some (13, 0)))), some (.inl sv_), some (.inl 0)], [], sm_aI (sm_aI (sm_pI (sm_pI S_ 13 0 2 0) 13 0 79 (S_.1 13 0 10)) 183 0 sv_.toNat 1) 184 0 sv_.toNat (S_.1 13 0 83))) rfl ?_
        refine ih_.2.2 sv_ 0 (sm_aI (sm_aI (sm_pI (sm_pI S_ 13 0 2 0) 13 0 79 (S_.1 13 0 10)) 183 0 sv_.toNat 1) 184 0 sv_.toNat (S_.1 13 0 83)) hIx16_ hFx17_ ⟨?_, ?_, ?_, ?_, ?_, ?_, ?_, ?_, ?_, ?_, trivial⟩ ?_
        · omega
        · exact sb_
        · exact cd99_
        · rfl
        · exact hz1_
        · exact ⟨K1_, L1_, hX1_, nc1_, ncl_fr (w_ := ([(13, 2), (13, 79)], [183, 184], [])) ncl1_ (ai_fr_tr (ai_fr_tr (ai_fr_tr (ai_fr_pI rfl) (ai_fr_pI rfl)) (ai_fr_aI rfl)) (ai_fr_aI rfl))⟩
        · intro l9_ hl9_
          have o9_ := rlf_sm (l0_ := sv_.toNat) ot99_ l9_ hl9_
          refine ⟨?_, fun j9_ hj9_ => ?_⟩
          · rw [rd_eq, if_neg hl9_, rd_ne (by decide)]; exact o9_.1
          · rw [rd_ne (by decide), rd_ne (by decide), rd_ne (by decide), rd_ne (by decide), rd_ne (by decide), rd_ne (by decide), rd_ne (by decide), rd_ne (by decide)]; exact o9_.2 j9_ hj9_
        · refine ⟨?_, fun j9_ hj9_ => absurd hj9_ (Nat.not_lt_zero _)⟩
          rw [rd_eq, if_pos rfl]
          rfl
        · intro j_
          rw [rd_ne (by decide), rd_eq]
          show (if j_ = sv_.toNat then 1 else S_.2.2.1 183 0 j_) = _
          rw [th99_]
        · show c_dt (S_.1 13 0 83).toNat _
          rw [show (S_.1 13 0 83).toNat = K1_ by omega]
          exact cdt1_
        · omega
      · have cx12_ : ¬ (vx11_ ≠ 0) := of_decide_eq_false cx12_
        have hz_ := wr_if e113_ (by omega)
        have bx18_ : 0 ≤ S_.1 13 0 11 ∧ S_.1 13 0 11 ≤ 4095 := hI_.1 13 0 11 rfl
        refine sm_T_go 3 (c1 := (124, [some (.inr (.inr (some (13, 0)))), some (.inl sv_), none], [.inl (S_.1 13 0 11), .inl (-1)], sm_pI (sm_pI S_ 13 0 2 0) 13 0 79 (S_.1 13 0 10))) rfl ?_
        refine sm_T_bin (w := -(S_.1 13 0 11) - 1) rfl (bi_sub (by omega) (by omega) (by omega)) ?_
        refine sm_T_ri rfl ⟨_, _, rfl, _, rfl, hIx4_, hFx5_, ?_⟩
        right
        obtain ⟨e_, z1_, z2_, z3_, z4_⟩ : lW b_ n_ S_ := by rcases h1_ with z_ | ⟨K_, L_, z1_, z2_, z3_⟩; exact z_; (exact absurd z2_ hz_)
        refine ⟨cd99_, sv_.toNat, by omega, sb_.2.2.1, sb_.2.2.2, rfl, rlf_sm ot99_, Or.inl ⟨e_, z1_, ?_, ?_, fun j_ => ?_⟩⟩
        · rw [← z3_]; omega
        · rw [← z2_]; rfl
        · show S_.2.2.1 183 0 j_ = _; rw [th99_]
    · rintro sv_ k_ S_ hI_ hF_ ⟨kb_, sb_, cd145_, si145_, lf145_, hX145_, ot145_, lk145_, th145_, cdt_, -⟩ hm_
      have nb1_ : 0 ≤ S_.1 13 0 83 ∧ S_.1 13 0 83 ≤ 12 := hI_.1 13 0 83 rfl
      have ck_ : k_ < S_.1 13 0 83 → (0 ≤ S_.2.2.1 181 0 k_.toNat ∧ S_.2.2.1 181 0 k_.toNat ≤ 1000) ∧ (0 ≤ S_.2.2.1 182 0 k_.toNat ∧ S_.2.2.1 182 0 k_.toNat ≤ 100) := fun z_ => cdt_ k_.toNat (by omega)
      have bx1_ : 0 ≤ S_.1 13 0 83 ∧ S_.1 13 0 83 ≤ 12 := hI_.1 13 0 83 rfl
      refine sm_T_go 3 (c1 := (150, [some (.inr (.inr (some (13, 0)))), some (.inl sv_), some (.inl k_)], [.inl (S_.1 13 0 83), .inl k_], S_)) rfl ?_
      refine sm_T_br (a := 3) (z := 77) rfl (fun cx2_ => ?_) (fun cx2_ => ?_)
      · have cx2_ : (S_.1 13 0 83) ≤ k_ := of_decide_eq_true cx2_
        refine sm_T_go 1 (c1 := (228, [some (.inr (.inr (some (13, 0)))), some (.inl sv_), some (.inl k_)], [.inl sv_], S_)) rfl ?_
        refine sm_T_ri rfl ⟨_, _, rfl, _, rfl, hI_, hF_, ?_⟩
        right
        exact ⟨cd145_, sv_.toNat, by omega, sb_.2.2.1, sb_.2.2.2, si145_, ot145_, Or.inr ⟨lY_e hX145_ lk145_ (by omega), by omega, lf145_, th145_⟩⟩
      · have cx2_ : ¬ ((S_.1 13 0 83) ≤ k_) := of_decide_eq_false cx2_
        refine sm_T_go 4 (c1 := (160, [some (.inr (.inr (some (13, 0)))), some (.inl sv_), some (.inl k_)], [.inl sv_, .inl 12, .inr (.inr (some (185, 0)))], S_)) rfl ?_
        refine sm_T_bin (w := 12 * sv_) rfl (bi_mul (by omega) (by omega) (by omega)) ?_
        refine sm_T_go 1 (c1 := (162, [some (.inr (.inr (some (13, 0)))), some (.inl sv_), some (.inl k_)], [.inl k_, .inl (12 * sv_), .inr (.inr (some (185, 0)))], S_)) rfl ?_
        refine sm_T_bin (w := 12 * sv_ + k_) rfl (bi_add (by omega) (by omega) (by omega)) ?_
        refine sm_T_go 3 (c1 := (168, [some (.inr (.inr (some (13, 0)))), some (.inl sv_), some (.inl k_)], [.inl k_, .inr (.inr (some (179, 0))), .inl (12 * sv_ + k_), .inr (.inr (some (185, 0)))], S_)) rfl ?_
        refine sm_T_iald (n := 12) rfl rfl (by omega) (by omega) ?_
        have bx3_ : 0 ≤ S_.2.2.1 179 0 k_.toNat ∧ S_.2.2.1 179 0 k_.toNat ≤ 3 := hI_.2 179 0 _
        refine sm_T_iast (n := 36) rfl rfl (by omega) (by omega) ?_
        have hIx4_ : gi (sm_aI S_ 185 0 (12 * sv_ + k_).toNat (S_.2.2.1 179 0 k_.toNat)) := gi_aI hI_ (show 0 ≤ (S_.2.2.1 179 0 k_.toNat) ∧ (S_.2.2.1 179 0 k_.toNat) ≤ 3 from ⟨by omega, by omega⟩)
        have hFx5_ : ai_fr (sx_W vw_367v) S0_ (sm_aI S_ 185 0 (12 * sv_ + k_).toNat (S_.2.2.1 179 0 k_.toNat)) := ai_fr_tr hF_ (ai_fr_aI rfl)
        refine sm_T_go 4 (c1 := (177, [some (.inr (.inr (some (13, 0)))), some (.inl sv_), some (.inl k_)], [.inl sv_, .inl 12, .inr (.inr (some (186, 0)))], sm_aI S_ 185 0 (12 * sv_ + k_).toNat (S_.2.2.1 179 0 k_.toNat))) rfl ?_
        refine sm_T_bin (w := 12 * sv_) rfl (bi_mul (by omega) (by omega) (by omega)) ?_
        refine sm_T_go 1 (c1 := (179, [some (.inr (.inr (some (13, 0)))), some (.inl sv_), some (.inl k_)], [.inl k_, .inl (12 * sv_), .inr (.inr (some (186, 0)))], sm_aI S_ 185 0 (12 * sv_ + k_).toNat (S_.2.2.1 179 0 k_.toNat))) rfl ?_
        refine sm_T_bin (w := 12 * sv_ + k_) rfl (bi_add (by omega) (by omega) (by omega)) ?_
        refine sm_T_go 3 (c1 := (185, [some (.inr (.inr (some (13, 0)))), some (.inl sv_), some (.inl k_)], [.inl k_, .inr (.inr (some (180, 0))), .inl (12 * sv_ + k_), .inr (.inr (some (186, 0)))], sm_aI S_ 185 0 (12 * sv_ + k_).toNat (S_.2.2.1 179 0 k_.toNat))) rfl ?_
        refine sm_T_iald (n := 12) rfl rfl (by omega) (by omega) ?_
        have bx6_ : 0 ≤ S_.2.2.1 180 0 k_.toNat ∧ S_.2.2.1 180 0 k_.toNat ≤ 255 := hI_.2 180 0 _
        refine sm_T_go 0 (c1 := (186, [some (.inr (.inr (some (13, 0)))), some (.inl sv_), some (.inl k_)], [.inl (S_.2.2.1 180 0 k_.toNat), .inl (12 * sv_ + k_), .inr (.inr (some (186, 0)))], sm_aI S_ 185 0 (12 * sv_ + k_).toNat (S_.2.2.1 179 0 k_.toNat))) rfl ?_
        refine sm_T_iast (n := 36) rfl rfl (by omega) (by omega) ?_
        have hIx7_ : gi (sm_aI (sm_aI S_ 185 0 (12 * sv_ + k_).toNat (S_.2.2.1 179 0 k_.toNat)) 186 0 (12 * sv_ + k_).toNat (S_.2.2.1 180 0 k_.toNat)) := gi_aI hIx4_ (show 0 ≤ (S_.2.2.1 180 0 k_.toNat) ∧ (S_.2.2.1 180 0 k_.toNat) ≤ 255 from ⟨by omega, by omega⟩)
        have hFx8_ : ai_fr (sx_W vw_367v) S0_ (sm_aI (sm_aI S_ 185 0 (12 * sv_ + k_).toNat (S_.2.2.1 179 0 k_.toNat)) 186 0 (12 * sv_ + k_).toNat (S_.2.2.1 180 0 k_.toNat)) := ai_fr_tr hFx5_ (ai_fr_aI rfl)
        refine sm_T_go 4 (c1 := (194, [some (.inr (.inr (some (13, 0)))), some (.inl sv_), some (.inl k_)], [.inl sv_, .inl 12, .inr (.inr (some (187, 0)))], sm_aI (sm_aI S_ 185 0 (12 * sv_ + k_).toNat (S_.2.2.1 179 0 k_.toNat)) 186 0 (12 * sv_ + k_).toNat (S_.2.2.1 180 0 k_.toNat))) rfl ?_
        refine sm_T_bin (w := 12 * sv_) rfl (bi_mul (by omega) (by omega) (by omega)) ?_
        refine sm_T_go 1 (c1 := (196, [some (.inr (.inr (some (13, 0)))), some (.inl sv_), some (.inl k_)], [.inl k_, .inl (12 * sv_), .inr (.inr (some (187, 0)))], sm_aI (sm_aI S_ 185 0 (12 * sv_ + k_).toNat (S_.2.2.1 179 0 k_.toNat)) 186 0 (12 * sv_ + k_).toNat (S_.2.2.1 180 0 k_.toNat))) rfl ?_
        refine sm_T_bin (w := 12 * sv_ + k_) rfl (bi_add (by omega) (by omega) (by omega)) ?_
        refine sm_T_go 3 (c1 := (202, [some (.inr (.inr (some (13, 0)))), some (.inl sv_), some (.inl k_)], [.inl k_, .inr (.inr (some (181, 0))), .inl (12 * sv_ + k_), .inr (.inr (some (187, 0)))], sm_aI (sm_aI S_ 185 0 (12 * sv_ + k_).toNat (S_.2.2.1 179 0 k_.toNat)) 186 0 (12 * sv_ + k_).toNat (S_.2.2.1 180 0 k_.toNat))) rfl ?_
        refine sm_T_iald (n := 12) rfl rfl (by omega) (by omega) ?_
        have bx9_ : (-2147483648) ≤ S_.2.2.1 181 0 k_.toNat ∧ S_.2.2.1 181 0 k_.toNat ≤ 2147483647 := hI_.2 181 0 _
        refine sm_T_go 0 (c1 := (203, [some (.inr (.inr (some (13, 0)))), some (.inl sv_), some (.inl k_)], [.inl (S_.2.2.1 181 0 k_.toNat), .inl (12 * sv_ + k_), .inr (.inr (some (187, 0)))], sm_aI (sm_aI S_ 185 0 (12 * sv_ + k_).toNat (S_.2.2.1 179 0 k_.toNat)) 186 0 (12 * sv_ + k_).toNat (S_.2.2.1 180 0 k_.toNat))) rfl ?_
        refine sm_T_iast (n := 36) rfl rfl (by omega) (by omega) ?_
        have hIx10_ : gi (sm_aI (sm_aI (sm_aI S_ 185 0 (12 * sv_ + k_).toNat (S_.2.2.1 179 0 k_.toNat)) 186 0 (12 * sv_ + k_).toNat (S_.2.2.1 180 0 k_.toNat)) 187 0 (12 * sv_ + k_).toNat (S_.2.2.1 181 0 k_.toNat)) := gi_aI hIx7_ (show 0 ≤ (S_.2.2.1 181 0 k_.toNat) ∧ (S_.2.2.1 181 0 k_.toNat) ≤ 1000 from ⟨by omega, by omega⟩)
        have hFx11_ : ai_fr (sx_W vw_367v) S0_ (sm_aI (sm_aI (sm_aI S_ 185 0 (12 * sv_ + k_).toNat (S_.2.2.1 179 0 k_.toNat)) 186 0 (12 * sv_ + k_).toNat (S_.2.2.1 180 0 k_.toNat)) 187 0 (12 * sv_ + k_).toNat (S_.2.2.1 181 0 k_.toNat)) := ai_fr_tr hFx8_ (ai_fr_aI rfl)
        refine sm_T_go 4 (c1 := (211, [some (.inr (.inr (some (13, 0)))), some (.inl sv_), some (.inl k_)], [.inl sv_, .inl 12, .inr (.inr (some (188, 0)))], sm_aI (sm_aI (sm_aI S_ 185 0 (12 * sv_ + k_).toNat (S_.2.2.1 179 0 k_.toNat)) 186 0 (12 * sv_ + k_).toNat (S_.2.2.1 180 0 k_.toNat)) 187 0 (12 * sv_ + k_).toNat (S_.2.2.1 181 0 k_.toNat))) rfl ?_
        refine sm_T_bin (w := 12 * sv_) rfl (bi_mul (by omega) (by omega) (by omega)) ?_
        refine sm_T_go 1 (c1 := (213, [some (.inr (.inr (some (13, 0)))), some (.inl sv_), some (.inl k_)], [.inl k_, .inl (12 * sv_), .inr (.inr (some (188, 0)))], sm_aI (sm_aI (sm_aI S_ 185 0 (12 * sv_ + k_).toNat (S_.2.2.1 179 0 k_.toNat)) 186 0 (12 * sv_ + k_).toNat (S_.2.2.1 180 0 k_.toNat)) 187 0 (12 * sv_ + k_).toNat (S_.2.2.1 181 0 k_.toNat))) rfl ?_
        refine sm_T_bin (w := 12 * sv_ + k_) rfl (bi_add (by omega) (by omega) (by omega)) ?_
        refine sm_T_go 3 (c1 := (219, [some (.inr (.inr (some (13, 0)))), some (.inl sv_), some (.inl k_)], [.inl k_, .inr (.inr (some (182, 0))), .inl (12 * sv_ + k_), .inr (.inr (some (188, 0)))], sm_aI (sm_aI (sm_aI S_ 185 0 (12 * sv_ + k_).toNat (S_.2.2.1 179 0 k_.toNat)) 186 0 (12 * sv_ + k_).toNat (S_.2.2.1 180 0 k_.toNat)) 187 0 (12 * sv_ + k_).toNat (S_.2.2.1 181 0 k_.toNat))) rfl ?_
        refine sm_T_iald (n := 12) rfl rfl (by omega) (by omega) ?_
        have bx12_ : (-2147483648) ≤ S_.2.2.1 182 0 k_.toNat ∧ S_.2.2.1 182 0 k_.toNat ≤ 2147483647 := hI_.2 182 0 _
        refine sm_T_go 0 (c1 := (220, [some (.inr (.inr (some (13, 0)))), some (.inl sv_), some (.inl k_)], [.inl (S_.2.2.1 182 0 k_.toNat), .inl (12 * sv_ + k_), .inr (.inr (some (188, 0)))], sm_aI (sm_aI (sm_aI S_ 185 0 (12 * sv_ + k_).toNat (S_.2.2.1 179 0 k_.toNat)) 186 0 (12 * sv_ + k_).toNat (S_.2.2.1 180 0 k_.toNat)) 187 0 (12 * sv_ + k_).toNat (S_.2.2.1 181 0 k_.toNat))) rfl ?_
        refine sm_T_iast (n := 36) rfl rfl (by omega) (by omega) ?_
        have hIx13_ : gi (sm_aI (sm_aI (sm_aI (sm_aI S_ 185 0 (12 * sv_ + k_).toNat (S_.2.2.1 179 0 k_.toNat)) 186 0 (12 * sv_ + k_).toNat (S_.2.2.1 180 0 k_.toNat)) 187 0 (12 * sv_ + k_).toNat (S_.2.2.1 181 0 k_.toNat)) 188 0 (12 * sv_ + k_).toNat (S_.2.2.1 182 0 k_.toNat)) := gi_aI hIx10_ (show 0 ≤ (S_.2.2.1 182 0 k_.toNat) ∧ (S_.2.2.1 182 0 k_.toNat) ≤ 100 from ⟨by omega, by omega⟩)
        have hFx14_ : ai_fr (sx_W vw_367v) S0_ (sm_aI (sm_aI (sm_aI (sm_aI S_ 185 0 (12 * sv_ + k_).toNat (S_.2.2.1 179 0 k_.toNat)) 186 0 (12 * sv_ + k_).toNat (S_.2.2.1 180 0 k_.toNat)) 187 0 (12 * sv_ + k_).toNat (S_.2.2.1 181 0 k_.toNat)) 188 0 (12 * sv_ + k_).toNat (S_.2.2.1 182 0 k_.toNat)) := ai_fr_tr hFx11_ (ai_fr_aI rfl)
        refine sm_T_inc (a := 2) (z := 1) (v := k_) (w := k_ + 1) rfl rfl (by omega) (by omega) (by omega) ?_
        refine sm_T_go 1 (c1 := (145, [some (.inr (.inr (some (13, 0)))), some (.inl sv_), some (.inl (k_ + 1))], [], sm_aI (sm_aI (sm_aI (sm_aI S_ 185 0 (12 * sv_ + k_).toNat (S_.2.2.1 179 0 k_.toNat)) 186 0 (12 * sv_ + k_).toNat (S_.2.2.1 180 0 k_.toNat)) 187 0 (12 * sv_ + k_).toNat (S_.2.2.1 181 0 k_.toNat)) 188 0 (12 * sv_ + k_).toNat (S_.2.2.1 182 0 k_.toNat))) rfl ?_
        refine ih_.2.2 sv_ (k_ + 1) (sm_aI (sm_aI (sm_aI (sm_aI S_ 185 0 (12 * sv_ + k_).toNat (S_.2.2.1 179 0 k_.toNat)) 186 0 (12 * sv_ + k_).toNat (S_.2.2.1 180 0 k_.toNat)) 187 0 (12 * sv_ + k_).toNat (S_.2.2.1 181 0 k_.toNat)) 188 0 (12 * sv_ + k_).toNat (S_.2.2.1 182 0 k_.toNat)) hIx13_ hFx14_ ⟨?_, ?_, ?_, ?_, ?_, ?_, ?_, ?_, ?_, ?_, trivial⟩ ?_
        · omega
        · exact sb_
        · exact cd145_
        · exact si145_
        · exact lf145_
        · obtain ⟨K9_, L9_, u1_, u2_, u3_⟩ := hX145_
          exact ⟨K9_, L9_, u1_, u2_, ncl_fr (w_ := ([], [185, 186, 187, 188], [])) u3_ (ai_fr_tr (ai_fr_tr (ai_fr_tr (ai_fr_aI rfl) (ai_fr_aI rfl)) (ai_fr_aI rfl)) (ai_fr_aI rfl))⟩
        · intro l9_ hl9_
          have o9_ := ot145_ l9_ hl9_
          refine ⟨?_, fun j9_ hj9_ => ?_⟩
          · rw [rd_ne (by decide), rd_ne (by decide), rd_ne (by decide), rd_ne (by decide)]; exact o9_.1
          · simp only [rd_eq, rd_ne, ne_eq, Nat.reduceEqDiff, not_false_eq_true]; rw [if_neg (by omega), if_neg (by omega), if_neg (by omega), if_neg (by omega)]; exact o9_.2 j9_ hj9_
        · refine ⟨?_, fun j9_ hj9_ => ?_⟩
          · rw [rd_ne (by decide), rd_ne (by decide), rd_ne (by decide), rd_ne (by decide)]; exact lk145_.1
          · simp only [rd_eq, rd_ne, ne_eq, Nat.reduceEqDiff, not_false_eq_true]; by_cases z9_ : j9_ = k_.toNat; (rw [if_pos (by omega), if_pos (by omega), if_pos (by omega), if_pos (by omega), z9_]; exact ⟨rfl, rfl, rfl, rfl⟩); (rw [if_neg (by omega), if_neg (by omega), if_neg (by omega), if_neg (by omega)]; exact lk145_.2 j9_ (by omega))
        · intro j_
          rw [rd_ne (by decide), rd_ne (by decide), rd_ne (by decide), rd_ne (by decide)]
          exact th145_ j_
        · intro j_ hj_
          rw [rd_ne (by decide), rd_ne (by decide), rd_ne (by decide), rd_ne (by decide), rd_ne (by decide), rd_ne (by decide), rd_ne (by decide), rd_ne (by decide)]
          exact cdt_ j_ hj_
        · omega
set_option maxHeartbeats 2000000 in
set_option maxRecDepth 20000 in
theorem vc_367v {sc_ : Nat × (Nat → Int)} (b_ : Nat → Int) (n_ : Nat) (S0_ : sm_S) (hI_ : gi S0_) (hb_ : S0_.2.2.1 118 0 = b_) (hn_ : (S0_.1 13 0 2) = (n_ : Int)) (hn1_ : n_ ≤ 1280) : sm_T (mt_P sc_) 9 367 (0, [some (.inr (.inr (some (13, 0)))), none, none], [], S0_) (fun ro9_ => ∃ u_ S1_, ro9_ = (.inl u_, S1_, 0) ∧ vq_367v b_ n_ S0_ u_ S1_) := by
  have hF_ : ai_fr (sx_W vw_367v) S0_ S0_ := ai_fr_rf
  refine sm_T_go 3 (c1 := (5, [some (.inr (.inr (some (13, 0)))), none, none], [.inl 3, .inr (.inr (some (183, 0)))], S0_)) rfl ?_
  refine sm_T_cal (d1 := 0) (Q1 := vq_362l 3 S0_) rfl rfl (by decide) (vc_362l 3 S0_ hI_ (by rfl)) (fun u_ Sx1_ px4_ => ?_)
  obtain ⟨rfl, vx6_, rfl, px4_⟩ := px4_
  obtain ⟨sl_, hsl_⟩ : ∃ sl_ : Nat, (vx6_ = -1 ∧ ∀ j_ : Nat, j_ < 3 → S0_.2.2.1 183 0 j_ = 1) ∨ (vx6_ = (sl_ : Int) ∧ sl_ < 3 ∧ S0_.2.2.1 183 0 sl_ = 0 ∧ ∀ j_ : Nat, j_ < sl_ → S0_.2.2.1 183 0 j_ = 1) := by rcases px4_ with z_ | ⟨u_, z_⟩; exact ⟨0, Or.inl z_⟩; exact ⟨u_, Or.inr z_⟩
  clear px4_
  refine sm_T_go 4 (c1 := (12, [some (.inr (.inr (some (13, 0)))), some (.inl vx6_), none], [.inl (-1), .inl vx6_, .inr (.inr (some (13, 0)))], S0_)) rfl ?_
  refine sm_T_br (a := 1) (z := 7) rfl (fun cx7_ => ?_) (fun cx7_ => ?_)
  · have cx7_ : vx6_ ≠ (-1) := of_decide_eq_true cx7_
    obtain ⟨hs1_, hs2_, hs3_, hs4_⟩ : _ = (sl_ : Int) ∧ sl_ < 3 ∧ S0_.2.2.1 183 0 sl_ = 0 ∧ ∀ j_ : Nat, j_ < sl_ → S0_.2.2.1 183 0 j_ = 1 := by rcases hsl_ with z_ | z_; (exact absurd z_.1 cx7_); exact z_
    clear hsl_
    have hIx8_ : gi (sm_pI S0_ 13 0 0 0) := gi_pI hI_ (show 0 ≤ 0 ∧ 0 ≤ 4 from ⟨by omega, by omega⟩)
    have hFx9_ : ai_fr (sx_W vw_367v) S0_ (sm_pI S0_ 13 0 0 0) := ai_fr_tr hF_ (ai_fr_pI rfl)
    have hIx10_ : gi (sm_pI (sm_pI S0_ 13 0 0 0) 13 0 27 2) := gi_pI hIx8_ (show 0 ≤ 2 ∧ 2 ≤ 2 from ⟨by omega, by omega⟩)
    have hFx11_ : ai_fr (sx_W vw_367v) S0_ (sm_pI (sm_pI S0_ 13 0 0 0) 13 0 27 2) := ai_fr_tr hFx9_ (ai_fr_pI rfl)
    have hIx12_ : gi (sm_pI (sm_pI (sm_pI S0_ 13 0 0 0) 13 0 27 2) 13 0 10 0) := gi_pI hIx10_ (show 0 ≤ 0 ∧ 0 ≤ 23 from ⟨by omega, by omega⟩)
    have hFx13_ : ai_fr (sx_W vw_367v) S0_ (sm_pI (sm_pI (sm_pI S0_ 13 0 0 0) 13 0 27 2) 13 0 10 0) := ai_fr_tr hFx11_ (ai_fr_pI rfl)
    have hIx14_ : gi (sm_pI (sm_pI (sm_pI (sm_pI S0_ 13 0 0 0) 13 0 27 2) 13 0 10 0) 13 0 11 0) := gi_pI hIx12_ (show 0 ≤ 0 ∧ 0 ≤ 4095 from ⟨by omega, by omega⟩)
    have hFx15_ : ai_fr (sx_W vw_367v) S0_ (sm_pI (sm_pI (sm_pI (sm_pI S0_ 13 0 0 0) 13 0 27 2) 13 0 10 0) 13 0 11 0) := ai_fr_tr hFx13_ (ai_fr_pI rfl)
    have hIx16_ : gi (sm_pI (sm_pI (sm_pI (sm_pI (sm_pI S0_ 13 0 0 0) 13 0 27 2) 13 0 10 0) 13 0 11 0) 13 0 9 0) := gi_pI hIx14_ (show 0 ≤ 0 ∧ 0 ≤ 1280 from ⟨by omega, by omega⟩)
    have hFx17_ : ai_fr (sx_W vw_367v) S0_ (sm_pI (sm_pI (sm_pI (sm_pI (sm_pI S0_ 13 0 0 0) 13 0 27 2) 13 0 10 0) 13 0 11 0) 13 0 9 0) := ai_fr_tr hFx15_ (ai_fr_pI rfl)
    have hIx18_ : gi (sm_pI (sm_pI (sm_pI (sm_pI (sm_pI (sm_pI S0_ 13 0 0 0) 13 0 27 2) 13 0 10 0) 13 0 11 0) 13 0 9 0) 13 0 83 0) := gi_pI hIx16_ (show 0 ≤ 0 ∧ 0 ≤ 12 from ⟨by omega, by omega⟩)
    have hFx19_ : ai_fr (sx_W vw_367v) S0_ (sm_pI (sm_pI (sm_pI (sm_pI (sm_pI (sm_pI S0_ 13 0 0 0) 13 0 27 2) 13 0 10 0) 13 0 11 0) 13 0 9 0) 13 0 83 0) := ai_fr_tr hFx17_ (ai_fr_pI rfl)
    refine sm_T_go 21 (c1 := (58, [some (.inr (.inr (some (13, 0)))), some (.inl vx6_), none], [.inr (.inr (some (13, 0)))], sm_pI (sm_pI (sm_pI (sm_pI (sm_pI (sm_pI S0_ 13 0 0 0) 13 0 27 2) 13 0 10 0) 13 0 11 0) 13 0 9 0) 13 0 83 0)) rfl ?_
    refine sm_T_cal (d1 := 3) (Q1 := vq_291 b_ n_ (sm_pI (sm_pI (sm_pI (sm_pI (sm_pI (sm_pI S0_ 13 0 0 0) 13 0 27 2) 13 0 10 0) 13 0 11 0) 13 0 9 0) 13 0 83 0)) rfl rfl (by decide) (vc_291 b_ n_ (sm_pI (sm_pI (sm_pI (sm_pI (sm_pI (sm_pI S0_ 13 0 0 0) 13 0 27 2) 13 0 10 0) 13 0 11 0) 13 0 9 0) 13 0 83 0) hIx18_ (by exact hb_) (by exact hn_) (by exact hn1_)) (fun u_ Sx20_ px23_ => ?_)
    obtain ⟨rfl, hIx21_, hFx22_, px23_⟩ := px23_
    have hFx24_ : ai_fr (sx_W vw_367v) S0_ Sx20_ := ai_fr_tr hFx19_ (fr_le hFx22_ rfl)
    obtain ⟨T_, tk0, tk1, tk2, tk3_, tk4_, tk5_, tk6_⟩ := px23_
    have hb58_ : Sx20_.2.2.1 118 0 = b_ := (fr_arr hFx22_ rfl).trans hb_
    have ht_ : rtab b_ n_ T_ Sx20_ := ⟨hn1_, tk1, tk2, tk3_, tk4_, tk5_, tk6_, fun k_ => by rw [← hb58_]; exact hIx21_.2 118 0 k_⟩
    have mo58_ : Sx20_.1 13 0 27 = 2 := hFx22_.1 13 0 27 rfl
    have at58_ : Sx20_.1 13 0 9 = 0 := hFx22_.1 13 0 9 rfl
    have fa58_ : Sx20_.1 13 0 10 = 0 := hFx22_.1 13 0 10 rfl
    have nc58_ : Sx20_.1 13 0 83 = 0 := hFx22_.1 13 0 83 rfl
    have cd58_ : Sx20_.1 13 0 0 = 0 := hFx22_.1 13 0 0 rfl
    have th58_ := fr_arr (t := 183) (i := 0) hFx22_ rfl
    have d0_ := rd_0 ht_
    clear tk6_
    have ot57_ := rsm_fr hFx22_ (by decide)
    have ot58_ : rsm S0_ Sx20_ := fun t_ q1_ q2_ => ot57_ t_ q1_ q2_
    refine sm_T_go 1 (c1 := (62, [some (.inr (.inr (some (13, 0)))), some (.inl vx6_), none], [.inr (.inr (some (13, 0)))], Sx20_)) rfl ?_
    refine sm_T_cal (d1 := 1) (Q1 := vq_298  Sx20_) rfl rfl (by decide) (vc_298  Sx20_ hIx21_ ) (fun u_ Sx25_ px28_ => ?_)
    obtain ⟨rfl, hIx26_, hFx27_, px28_⟩ := px28_
    have hFx29_ : ai_fr (sx_W vw_367v) S0_ Sx25_ := ai_fr_tr hFx24_ (fr_le hFx27_ rfl)
    have t62_ := rtab_fr ht_ hFx27_ rfl rfl rfl rfl rfl
    have e62_ := px28_.2 fa58_
    rw [at58_] at e62_
    have at62_ := (hFx27_.1 13 0 9 rfl).trans at58_
    have nc62_ := (hFx27_.1 13 0 83 rfl).trans nc58_
    have mo62_ := (hFx27_.1 13 0 27 rfl).trans mo58_
    have cd62_ := (hFx27_.1 13 0 0 rfl).trans cd58_
    have ot62_ := rsm_tr ot58_ (rsm_fr hFx27_ (by decide))
    have th62_ := (fr_arr (t := 183) (i := 0) hFx27_ rfl).trans th58_
    have h62_ : lX b_ n_ T_ Sx25_ ∨ lRq b_ n_ T_ Sx25_ := by rcases e62_ with ⟨z1_, z2_, z3_⟩ | ⟨z1_, z2_⟩; (left; have y_ := d0_.1 z1_; exact ⟨(1, lx_k b_ n_ 0), by unfold p_li; rw [if_pos y_.1], z2_, z3_.trans y_.2, by show (1 : Int) ≠ 0; decide⟩); (right; exact lq_0 z2_ at62_ nc62_ (d0_.2 z1_))
    refine sm_T_go 0 (c1 := (65, [some (.inr (.inr (some (13, 0)))), some (.inl vx6_), none], [], Sx25_)) rfl ?_
    refine (vl_367v b_ n_ S0_ hb_ hn_ hn1_ _).1 vx6_ Sx25_ hIx26_ hFx29_ ⟨?_, ?_, ?_, ?_, ?_, ?_, trivial⟩ (Nat.lt_succ_self _)
    · exact ⟨T_, t62_, h62_⟩
    · rw [hs1_]
      exact ⟨by omega, by omega, hs3_, hs4_⟩
    · exact ot62_
    · exact mo62_
    · exact cd62_
    · exact th62_
  · have cx7_ : ¬ (vx6_ ≠ (-1)) := of_decide_eq_false cx7_
    have hIx30_ : gi (sm_pI S0_ 13 0 0 1) := gi_pI hI_ (show 0 ≤ 1 ∧ 1 ≤ 4 from ⟨by omega, by omega⟩)
    have hFx31_ : ai_fr (sx_W vw_367v) S0_ (sm_pI S0_ 13 0 0 1) := ai_fr_tr hF_ (ai_fr_pI rfl)
    refine sm_T_go 7 (c1 := (31, [some (.inr (.inr (some (13, 0)))), some (.inl vx6_), none], [.inl 0], sm_pI S0_ 13 0 0 1)) rfl ?_
    refine sm_T_ri rfl ⟨_, _, rfl, _, rfl, hIx30_, hFx31_, ?_⟩
    left
    refine ⟨rfl, ?_, rfl, fun j_ => rfl, fun t_ _ _ => rfl, rfl⟩
    rcases hsl_ with z_ | z_
    · exact z_.2
    · exfalso; have := z_.1; omega
end
/-! 99.ztJ -/
section
/-! a chip is made: the libraries stay; written by wip/p55/gen/vg -/

/-! a_ chip is_ made: the_ libraries stay -/
def lbs (S_ S'_ : sm_S) : Prop := ∀ i_, i_ < 3 → (∀ k_, S'_.1 5 i_ k_ = S_.1 5 i_ k_) ∧ ∀ t_, 55 ≤ t_ → t_ < 59 → S'_.2.2.1 t_ (0 + i_) = S_.2.2.1 t_ (0 + i_)
theorem cdf_lb {ii_ : Nat} {S_ S'_ : sm_S} (h_ : cdf ii_ S_ S'_) : lbs S_ S'_ := fun i_ hi_ => ⟨fun k_ => (h_ 5 (by decide) i_ (by rw [show cof 5 = 3 from rfl]; omega)).1 k_, fun t_ h1_ h2_ => (h_ t_ (by have q_ : t_ = 55 ∨ t_ = 56 ∨ t_ = 57 ∨ t_ = 58 := (by omega); rcases q_ with rfl | rfl | rfl | rfl <;> rfl) (0 + i_) (by unfold cof; rw [if_pos (Or.inr ⟨h1_, h2_⟩)]; omega)).2⟩

/-! ChipFlow.map -/
def vw_230l : sx_Wl := ([(0, 1), (0, 11), (0, 16), (2, 0), (2, 1), (2, 2), (2, 3), (2, 4), (2, 5), (2, 8), (2, 14), (2, 15), (2, 19), (4, 0), (5, 1), (5, 2), (6, 11), (6, 13), (9, 1), (9, 2), (9, 3)], [16, 17, 18, 19, 20, 21, 34, 35, 36, 37, 38, 39, 55, 56, 57, 58, 59, 60, 61, 62, 63, 64, 65, 66, 67, 68, 69, 70, 71, 72, 73, 92, 93, 94, 96], [(6, 0), (6, 1), (9, 0)])
def vq_230l (aa_ : Int) (lb_ : Int) (S0_ : sm_S) (u_ : Option sm_V) (S1_ : sm_S) : Prop := ∃ v_ : Int, u_ = some (.inl v_) ∧ gi S1_ ∧ ai_fr (sx_W vw_230l) S0_ S1_ ∧ (jC S1_ ∧ lbs S0_ S1_)
def vx_230l (aa_ : Int) (lb_ : Int) (S0_ : sm_S) (S1_ : sm_S) : Prop := gi S1_ ∧ ai_fr (sx_W vw_230l) S0_ S1_ ∧ (S1_ = S0_)
set_option maxHeartbeats 400000 in
theorem vc_230l {sc_ : Nat × (Nat → Int)} (aa_ : Int) (lb_ : Int) (S0_ : sm_S) (hI_ : gi S0_) (hJ_ : jC S0_) : sm_T (mt_P sc_) 7 230 (0, [some (.inr (.inr (some (12, 0)))), some (.inl aa_), some (.inl lb_), none, none, none, none], [], S0_) (fun ro9_ => (∃ u_ S1_, ro9_ = (.inl u_, S1_, 0) ∧ vq_230l aa_ lb_ S0_ u_ S1_) ∨ ∃ ex_ S1_, ro9_ = (.inr ex_, S1_, 1) ∧ ex_ ∈ ([0, 3] : List Nat) ∧ vx_230l aa_ lb_ S0_ S1_) := by
  have hF_ : ai_fr (sx_W vw_230l) S0_ S0_ := ai_fr_rf
  refine sm_T_go 2 (c1 := (2, [some (.inr (.inr (some (12, 0)))), some (.inl aa_), some (.inl lb_), none, none, none, none], [.inl aa_, .inr (.inr (some (12, 0)))], S0_)) rfl ?_
  refine sm_T_cale (d1_ := 1) (Q1_ := vq_270 aa_ S0_) (Q2_ := (fun ex_ S1_ => ex_ ∈ ([0] : List Nat) ∧ vx_270 aa_ S0_ S1_)) rfl rfl (by decide) (vc_270 aa_ S0_ hI_ ) rfl (fun xx6_ Sx1_ px4_ => ?_) (fun u_ Sx1_ px4_ => ?_)
  · obtain ⟨px4m, hIx2_, hFx3_, px4_⟩ := px4_
    refine Or.inr ⟨_, _, rfl, by first | exact px4m | (simp only [List.mem_cons, List.not_mem_nil, or_false] at px4m ⊢; omega), hIx2_, ai_fr_tr hF_ (fr_le hFx3_ rfl), ?_⟩
    first | exact px4_.2 | exact px4_ | rfl
  obtain ⟨rfl, -, -, rfl, px4_⟩ := px4_
  have d1_ := px4_
  have k1_ := hJ_.1 aa_.toNat (by omega) d1_.2
  have b1_ := dOk_b k1_
  have x1_ := b1_.1
  have y1_ := b1_.2.1
  obtain ⟨F9_, hg9_, hr9_, hs9_, -⟩ := hJ_.1 aa_.toNat (by omega) d1_.2
  refine sm_T_go 3 (c1 := (8, [some (.inr (.inr (some (12, 0)))), some (.inl aa_), some (.inl lb_), some (.inr (.inr (some (3, aa_.toNat)))), none, none, none], [.inl lb_, .inr (.inr (some (12, 0)))], S0_)) rfl ?_
  refine sm_T_cale (d1_ := 1) (Q1_ := vq_271 lb_ S0_) (Q2_ := (fun ex_ S1_ => ex_ ∈ ([0] : List Nat) ∧ vx_271 lb_ S0_ S1_)) rfl rfl (by decide) (vc_271 lb_ S0_ hI_ ) rfl (fun xx12_ Sx7_ px10_ => ?_) (fun u_ Sx7_ px10_ => ?_)
  · obtain ⟨px10m, hIx8_, hFx9_, px10_⟩ := px10_
    refine Or.inr ⟨_, _, rfl, by first | exact px10m | (simp only [List.mem_cons, List.not_mem_nil, or_false] at px10m ⊢; omega), hIx8_, ai_fr_tr hF_ (fr_le hFx9_ rfl), ?_⟩
    first | exact px10_.2 | exact px10_ | rfl
  obtain ⟨rfl, -, -, rfl, px10_⟩ := px10_
  have l8_ := px10_
  refine sm_T_go 2 (c1 := (14, [some (.inr (.inr (some (12, 0)))), some (.inl aa_), some (.inl lb_), some (.inr (.inr (some (3, aa_.toNat)))), some (.inr (.inr (some (5, lb_.toNat)))), none, none], [.inr (.inr (some (12, 0)))], S0_)) rfl ?_
  refine sm_T_cal (d1 := 0) (Q1 := vq_275  S0_) rfl rfl (by decide) (vc_275  S0_ hI_ ) (fun u_ Sx13_ px16_ => ?_)
  obtain ⟨rfl, vx18_, rfl, px16_⟩ := px16_
  have f14_ := px16_
  refine sm_T_go 3 (c1 := (22, [some (.inr (.inr (some (12, 0)))), some (.inl aa_), some (.inl lb_), some (.inr (.inr (some (3, aa_.toNat)))), some (.inr (.inr (some (5, lb_.toNat)))), some (.inl vx18_), none], [.inl (-1), .inl vx18_], S0_)) rfl ?_
  refine sm_T_br (a := 0) (z := 7) rfl (fun cx19_ => ?_) (fun cx19_ => ?_)
  · have cx19_ : vx18_ = (-1) := of_decide_eq_true cx19_
    refine sm_T_go 1 (c1 := (30, [some (.inr (.inr (some (12, 0)))), some (.inl aa_), some (.inl lb_), some (.inr (.inr (some (3, aa_.toNat)))), some (.inr (.inr (some (5, lb_.toNat)))), some (.inl vx18_), none], [.inl 0], S0_)) rfl ?_
    refine sm_T_cale (d1_ := 0) (Q1_ := vq_268e 0 S0_) (Q2_ := (fun ex_ S1_ => ex_ ∈ ([3] : List Nat) ∧ vx_268e 0 S0_ S1_)) rfl rfl (by decide) (vc_268e 0 S0_ hI_ ) rfl (fun xx25_ Sx20_ px23_ => ?_) (fun u_ Sx20_ px23_ => ?_)
    · obtain ⟨px23m, hIx21_, hFx22_, px23_⟩ := px23_
      refine Or.inr ⟨_, _, rfl, by first | exact px23m | (simp only [List.mem_cons, List.not_mem_nil, or_false] at px23m ⊢; omega), hIx21_, ai_fr_tr hF_ (fr_le hFx22_ rfl), ?_⟩
      first | exact px23_.2 | exact px23_ | rfl
    · exact absurd rfl px23_.2.2.2.1
  · have cx19_ : ¬ (vx18_ = (-1)) := of_decide_eq_false cx19_
    refine sm_T_go 2 (c1 := (30, [some (.inr (.inr (some (12, 0)))), some (.inl aa_), some (.inl lb_), some (.inr (.inr (some (3, aa_.toNat)))), some (.inr (.inr (some (5, lb_.toNat)))), some (.inl vx18_), none], [.inl 1], S0_)) rfl ?_
    refine sm_T_cale (d1_ := 0) (Q1_ := vq_268e 1 S0_) (Q2_ := (fun ex_ S1_ => ex_ ∈ ([3] : List Nat) ∧ vx_268e 1 S0_ S1_)) rfl rfl (by decide) (vc_268e 1 S0_ hI_ ) rfl (fun xx31_ Sx26_ px29_ => ?_) (fun u_ Sx26_ px29_ => ?_)
    · exact absurd px29_.2.2.2.1 (by decide)
    obtain ⟨rfl, -, -, px29_, rfl⟩ := px29_
    refine sm_T_go 7 (c1 := (46, [some (.inr (.inr (some (12, 0)))), some (.inl aa_), some (.inl lb_), some (.inr (.inr (some (3, aa_.toNat)))), some (.inr (.inr (some (5, lb_.toNat)))), some (.inl vx18_), none], [.inl vx18_, .inr (.inr (some (112, 0))), .inr (.inr (some (5, lb_.toNat))), .inr (.inr (some (3, aa_.toNat))), .inr (.inr (some (6, 0)))], S0_)) rfl ?_
    refine sm_T_aald (t0 := 6) (n := 4) rfl rfl (by omega) (by omega) ?_
    refine sm_T_cal (d1 := 6) (Q1 := vq_91 aa_.toNat lb_.toNat vx18_.toNat F9_ S0_) rfl rfl (by decide) (vc_91 aa_.toNat lb_.toNat vx18_.toNat F9_ S0_ hI_ (by exact k1_) (by exact hg9_) (by exact hr9_) (by exact hs9_) (by omega)) (fun u_ Sx32_ px35_ => ?_)
    obtain ⟨vx37_, rfl, hIx33_, hFx34_, px35_⟩ := px35_
    have hFx36_ : ai_fr (sx_W vw_230l) S0_ Sx32_ := ai_fr_tr hF_ (fr_le hFx34_ rfl)
    obtain ⟨dx38_, px35_⟩ := px35_
    have c47_ := dx38_
    have p47_ := px35_
    have u47_ := fun q9_ => hFx34_.1 2 q9_ 0 rfl
    refine sm_T_go 2 (c1 := (54, [some (.inr (.inr (some (12, 0)))), some (.inl aa_), some (.inl lb_), some (.inr (.inr (some (3, aa_.toNat)))), some (.inr (.inr (some (5, lb_.toNat)))), some (.inl vx18_), some (.inl vx37_)], [.inl vx37_], Sx32_)) rfl ?_
    refine sm_T_b0 (a := 0) (z := 6) rfl (fun cx39_ => ?_) (fun cx39_ => ?_)
    · have cx39_ : vx37_ = 0 := of_decide_eq_true cx39_
      have p46_ := p47_.resolve_right (by omega)
      have e1_ := p46_.2.1.1
      have e2_ := p46_.2.1.2.1
      refine sm_T_go 5 (c1 := (70, [some (.inr (.inr (some (12, 0)))), some (.inl aa_), some (.inl lb_), some (.inr (.inr (some (3, aa_.toNat)))), some (.inr (.inr (some (5, lb_.toNat)))), some (.inl vx18_), some (.inl vx37_)], [.inl vx18_, .inr (.inr (some (112, 0))), .inr (.inr (some (9, 0)))], Sx32_)) rfl ?_
      refine sm_T_aald (t0 := 6) (n := 4) rfl rfl (by omega) (by omega) ?_
      refine sm_T_cal (d1 := 4) (Q1 := vq_169 vx18_.toNat Sx32_) rfl rfl (by decide) (vc_169 vx18_.toNat Sx32_ hIx33_ (by omega)) (fun u_ Sx40_ px43_ => ?_)
      obtain ⟨rfl, hIx41_, hFx42_, px43_⟩ := px43_
      have hFx44_ : ai_fr (sx_W vw_230l) S0_ Sx40_ := ai_fr_tr hFx36_ (fr_le hFx42_ rfl)
      obtain ⟨dx45_, px43_⟩ := px43_
      have c71_ := dx45_
      have p71_ := px43_
      have g71_ := hFx42_
      refine sm_T_go 3 (c1 := (80, [some (.inr (.inr (some (12, 0)))), some (.inl aa_), some (.inl lb_), some (.inr (.inr (some (3, aa_.toNat)))), some (.inr (.inr (some (5, lb_.toNat)))), some (.inl vx18_), some (.inl vx37_)], [.inl vx18_, .inr (.inr (some (112, 0)))], Sx40_)) rfl ?_
      refine sm_T_aald (t0 := 6) (n := 4) rfl rfl (by omega) (by omega) ?_
      have hIx46_ : gi (sm_pI Sx40_ 2 vx18_.toNat 0 1) := gi_pI hIx41_ (show 0 ≤ 1 ∧ 1 ≤ 1 from ⟨by omega, by omega⟩)
      have hFx47_ : ai_fr (sx_W vw_230l) S0_ (sm_pI Sx40_ 2 vx18_.toNat 0 1) := ai_fr_tr hFx44_ (ai_fr_pI rfl)
      refine sm_T_go 3 (c1 := (87, [some (.inr (.inr (some (12, 0)))), some (.inl aa_), some (.inl lb_), some (.inr (.inr (some (3, aa_.toNat)))), some (.inr (.inr (some (5, lb_.toNat)))), some (.inl vx18_), some (.inl vx37_)], [.inl vx18_], sm_pI Sx40_ 2 vx18_.toNat 0 1)) rfl ?_
      refine sm_T_ri rfl (Or.inl ⟨_, _, rfl, _, rfl, hIx46_, hFx47_, ?_⟩)
      refine ⟨?_, cdf_lb (cdf_pI (cdf_tr c47_ c71_) (Or.inr (by rw [cof_0 (by decide) (by decide)]; omega)))⟩
      exact ⟨dAll_fr hJ_.1 hFx47_ (by decide) (by decide), cAll_cd hJ_.2.1 (cdf_pI (cdf_tr c47_ c71_) (Or.inr (by rw [cof_0 (by decide) (by decide)]; omega))) (fun _ => cOk_us (cOk_nw k1_ p46_.2.1 p46_.2.2.1 p46_.2.2.2.1 p46_.2.2.2.2.1 p46_.2.2.2.2.2.1 g71_ (by decide) (by decide) (by decide) p71_)), tpo_fr hJ_.2.2.1 hFx47_, shn_fr hJ_.2.2.2 hFx47_⟩
    · have cx39_ : ¬ (vx37_ = 0) := of_decide_eq_false cx39_
      refine sm_T_go 1 (c1 := (59, [some (.inr (.inr (some (12, 0)))), some (.inl aa_), some (.inl lb_), some (.inr (.inr (some (3, aa_.toNat)))), some (.inr (.inr (some (5, lb_.toNat)))), some (.inl vx18_), some (.inl vx37_)], [.inl vx37_], Sx32_)) rfl ?_
      refine sm_T_ri rfl (Or.inl ⟨_, _, rfl, _, rfl, hIx33_, hFx36_, ?_⟩)
      refine ⟨?_, cdf_lb c47_⟩
      exact ⟨dAll_fr hJ_.1 hFx36_ (by decide) (by decide), cAll_cd hJ_.2.1 c47_ (fun q9_ => by (exfalso; rw [u47_] at q9_; omega)), tpo_fr hJ_.2.2.1 hFx36_, shn_fr hJ_.2.2.2 hFx36_⟩
end
