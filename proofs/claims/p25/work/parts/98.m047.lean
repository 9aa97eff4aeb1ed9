/-! 99.ztI -/
section
/-! what a library keeps: the reference; written by wip/p55/gen/vg -/

def lRq (b_ : Nat → Int) (n_ T_ : Nat) (S_ : sm_S) : Prop := ∃ K_ f_ L_ q_, rg b_ n_ T_ (.inr q_) S_ ∧ rwq b_ n_ T_ K_ f_ L_ S_ ∧ ((K_ = 0 ∨ lx_kd b_ n_ q_ ≠ 0) → p_li b_ n_ = p_lb b_ n_ (13 - K_) K_ f_ L_ q_) ∧ (K_ ≠ 0 → lx_kd b_ n_ q_ = 0 → p_li b_ n_ = .inr (K_, L_))
def lEq (b_ : Nat → Int) (n_ : Nat) (S_ : sm_S) : Prop := ∃ K_ L_, p_li b_ n_ = .inr (K_, L_) ∧ S_.1 13 0 10 = 0 ∧ S_.1 13 0 83 = (K_ : Int) ∧ c_dt K_ S_ ∧ ncl K_ L_ S_
theorem lq_st {b_ : Nat → Int} {n_ T_ K_ q_ : Nat} {f_ : Nat → Nat} {L_ : pL} {S_ : sm_S} (hK_ : K_ ≤ 12) (hX_ : p_li b_ n_ = p_lb b_ n_ (13 - K_) K_ f_ L_ q_) (g_ : rg b_ n_ T_ (pb (p_ce b_ n_ K_ f_ q_) fun c_ => .inr c_.2.2.2.2.2) S_) (hr_ : ∀ c_, p_ce b_ n_ K_ f_ q_ = .inr c_ → rwq b_ n_ T_ (K_ + 1) (n_up f_ K_ c_.1) (l_up L_ K_ c_) S_) : lX b_ n_ T_ S_ ∨ lRq b_ n_ T_ S_ := by
  rw [lb_u hK_] at hX_
  cases hc_ : p_ce b_ n_ K_ f_ q_ with
  | inl e_ => rw [hc_] at hX_ g_; left; exact ⟨e_, hX_, g_⟩
  | inr c_ =>
    rw [hc_] at hX_ g_
    right
    refine ⟨K_ + 1, n_up f_ K_ c_.1, l_up L_ K_ c_, c_.2.2.2.2.2, g_, hr_ c_ hc_, fun z_ => ?_, fun _ z_ => ?_⟩
    · rw [hX_, show 13 - (K_ + 1) = 12 - K_ by omega]
      show (if lx_kd b_ n_ c_.2.2.2.2.2 = 0 then _ else _) = _
      rw [if_neg (by rcases z_ with z_ | z_; omega; exact z_)]
    · rw [hX_]
      show (if lx_kd b_ n_ c_.2.2.2.2.2 = 0 then _ else _) = _
      rw [if_pos z_]
theorem lq_k {b_ : Nat → Int} {n_ T_ : Nat} {S_ : sm_S} (h_ : lRq b_ n_ T_ S_) (h5_ : S_.2.2.1 119 0 (S_.1 13 0 9).toNat = 5) (ht_ : rtab b_ n_ T_ S_) (hk_ : S_.1 13 0 83 ≠ 0) : lEq b_ n_ S_ := by
  obtain ⟨K_, f_, L_, q_, g_, hr_, -, h2_⟩ := h_
  obtain ⟨i_, z1_, z2_⟩ := g_.2
  have ra_ := (rp_at ht_ z2_).1
  rw [show (S_.1 13 0 9).toNat = i_ by omega, ra_] at h5_
  have k0_ : lx_kd b_ n_ q_ = 0 := by
    unfold r_st r_so at h5_
    by_cases y_ : lx_kd b_ n_ q_ = 0
    · exact y_
    · exfalso
      rw [if_neg y_] at h5_
      split at h5_
      · omega
      · split at h5_
        · omega
        · split at h5_
          · omega
          · split at h5_ <;> omega
  have c1_ := hr_.1.1
  exact ⟨K_, L_, h2_ (by omega) k0_, g_.1, c1_, hr_.2.1, hr_.2.2⟩
theorem lq_n {b_ : Nat → Int} {n_ T_ : Nat} {S_ : sm_S} (h_ : lRq b_ n_ T_ S_) (ht_ : rtab b_ n_ T_ S_) (h5_ : S_.1 13 0 83 = 0 ∨ S_.2.2.1 119 0 (S_.1 13 0 9).toNat ≠ 5) : ∃ K_ f_ L_ q_, rg b_ n_ T_ (.inr q_) S_ ∧ rwq b_ n_ T_ K_ f_ L_ S_ ∧ p_li b_ n_ = p_lb b_ n_ (13 - K_) K_ f_ L_ q_ := by
  obtain ⟨K_, f_, L_, q_, g_, hr_, h1_, -⟩ := h_
  refine ⟨K_, f_, L_, q_, g_, hr_, h1_ ?_⟩
  have c1_ := hr_.1.1
  rcases h5_ with z_ | z_
  · left; omega
  · right
    intro y_
    apply z_
    obtain ⟨i_, z1_, z2_⟩ := g_.2
    have ra_ := (rp_at ht_ z2_).1
    rw [show (S_.1 13 0 9).toNat = i_ by omega, ra_, y_]
    rfl
theorem lq_0 {b_ : Nat → Int} {n_ T_ : Nat} {S_ : sm_S} (hz_ : S_.1 13 0 10 = 0) (ha_ : S_.1 13 0 9 = 0) (hn_ : S_.1 13 0 83 = 0) (hp_ : rp b_ n_ T_ 0 (lx_k b_ n_ 0)) : lRq b_ n_ T_ S_ := by
  refine ⟨0, f_0, fun _ => (0, 0, 0, 0), lx_k b_ n_ 0, ⟨hz_, 0, ha_, hp_⟩, ⟨⟨hn_, fun j_ hj_ => absurd hj_ (Nat.not_lt_zero _)⟩, fun k_ hk_ => absurd hk_ (Nat.not_lt_zero _), fun k_ hk_ => absurd hk_ (Nat.not_lt_zero _)⟩, fun _ => ?_, fun z_ => absurd rfl z_⟩
  unfold p_li
  rw [if_neg hp_.2.2.1]
/-- the_ rows of_ libraries stay -/
def rsm (S_ S'_ : sm_S) : Prop := ∀ t_, t_ < 189 → 184 ≤ t_ → S'_.2.2.1 t_ 0 = S_.2.2.1 t_ 0
theorem rsm_fr {w_ : sx_Wl} {S_ S'_ : sm_S} (g_ : ai_fr (sx_W w_) S_ S'_) (h_ : ∀ t_, t_ < 189 → 184 ≤ t_ → (sx_W w_).2.1 t_ = false) : rsm S_ S'_ := fun t_ h1_ h2_ => fr_arr g_ (h_ t_ h1_ h2_)
theorem rsm_tr {S_ S'_ S2_ : sm_S} (h_ : rsm S_ S'_) (g_ : rsm S'_ S2_) : rsm S_ S2_ := fun t_ h1_ h2_ => (g_ t_ h1_ h2_).trans (h_ t_ h1_ h2_)
/-- the_ other libraries of_ the_ reference stay -/
def rlf (l0_ : Nat) (S_ S'_ : sm_S) : Prop := ∀ l_, l_ ≠ l0_ → S'_.2.2.1 184 0 l_ = S_.2.2.1 184 0 l_ ∧ ∀ j_, j_ < 12 → S'_.2.2.1 185 0 (12 * l_ + j_) = S_.2.2.1 185 0 (12 * l_ + j_) ∧ S'_.2.2.1 186 0 (12 * l_ + j_) = S_.2.2.1 186 0 (12 * l_ + j_) ∧ S'_.2.2.1 187 0 (12 * l_ + j_) = S_.2.2.1 187 0 (12 * l_ + j_) ∧ S'_.2.2.1 188 0 (12 * l_ + j_) = S_.2.2.1 188 0 (12 * l_ + j_)
theorem rlf_sm {l0_ : Nat} {S_ S'_ : sm_S} (h_ : rsm S_ S'_) : rlf l0_ S_ S'_ := fun l_ _ => ⟨congrFun (h_ 184 (by decide) (by decide)) l_, fun j_ _ => ⟨congrFun (h_ 185 (by decide) (by decide)) _, congrFun (h_ 186 (by decide) (by decide)) _, congrFun (h_ 187 (by decide) (by decide)) _, congrFun (h_ 188 (by decide) (by decide)) _⟩⟩
/-- library l_ of_ the_ reference holds the_ cells of_ L_ -/
def lcr (l_ K_ : Nat) (L_ : pL) (S_ : sm_S) : Prop := S_.2.2.1 184 0 l_ = (K_ : Int) ∧ ∀ j_, j_ < K_ → S_.2.2.1 185 0 (12 * l_ + j_) = (L_ j_).1 ∧ S_.2.2.1 186 0 (12 * l_ + j_) = (L_ j_).2.1 ∧ S_.2.2.1 187 0 (12 * l_ + j_) = (L_ j_).2.2.1 ∧ S_.2.2.1 188 0 (12 * l_ + j_) = (L_ j_).2.2.2
def lkp (l_ k_ : Nat) (S_ : sm_S) : Prop := S_.2.2.1 184 0 l_ = S_.1 13 0 83 ∧ ∀ j_, j_ < k_ → S_.2.2.1 185 0 (12 * l_ + j_) = S_.2.2.1 179 0 j_ ∧ S_.2.2.1 186 0 (12 * l_ + j_) = S_.2.2.1 180 0 j_ ∧ S_.2.2.1 187 0 (12 * l_ + j_) = S_.2.2.1 181 0 j_ ∧ S_.2.2.1 188 0 (12 * l_ + j_) = S_.2.2.1 182 0 j_
def lY (b_ : Nat → Int) (n_ : Nat) (S_ : sm_S) : Prop := ∃ K_ L_, p_li b_ n_ = .inr (K_, L_) ∧ S_.1 13 0 83 = (K_ : Int) ∧ ncl K_ L_ S_
theorem lY_e {b_ : Nat → Int} {n_ l_ k_ : Nat} {S_ : sm_S} (h_ : lY b_ n_ S_) (g_ : lkp l_ k_ S_) (e_ : S_.1 13 0 83 ≤ (k_ : Int)) : ∃ r_, p_li b_ n_ = .inr r_ ∧ lcr l_ r_.1 r_.2 S_ := by
  obtain ⟨K_, L_, h1_, h2_, h3_⟩ := h_
  refine ⟨(K_, L_), h1_, g_.1.trans h2_, fun j_ hj_ => ?_⟩
  have hj_ : j_ < K_ := hj_
  have a_ := g_.2 j_ (by omega)
  have c_ := h3_ j_ hj_
  exact ⟨a_.1.trans c_.1, a_.2.1.trans c_.2.1, a_.2.2.1.trans c_.2.2.1, a_.2.2.2.trans c_.2.2.2⟩

/-! M_.library -/
def vw_367v : sx_Wl := ([(13, 0), (13, 2), (13, 3), (13, 9), (13, 10), (13, 11), (13, 27), (13, 32), (13, 33), (13, 34), (13, 79), (13, 80), (13, 83)], [119, 120, 121, 122, 123, 136, 137, 138, 139, 177, 178, 179, 180, 181, 182, 183, 184, 185, 186, 187, 188], [])
def vq_367v (b_ : Nat → Int) (n_ : Nat) (S0_ : sm_S) (u_ : Option sm_V) (S1_ : sm_S) : Prop := ∃ v_ : Int, u_ = some (.inl v_) ∧ gi S1_ ∧ ai_fr (sx_W vw_367v) S0_ S1_ ∧ (((S1_.1 13 0 0) = 1 ∧ (∀ j_ : Nat, j_ < 3 → (S0_.2.2.1 183 0 (j_)) = 1) ∧ (S1_.1 13 0 2) = (S0_.1 13 0 2) ∧ (∀ j_ : Nat, (S1_.2.2.1 183 0 (j_)) = (S0_.2.2.1 183 0 (j_))) ∧ rsm S0_ S1_ ∧ (S1_.1 13 0 79) = (S0_.1 13 0 79)) ∨ ((S1_.1 13 0 0) = 0 ∧ ∃ sl_ : Nat, sl_ < 3 ∧ (S0_.2.2.1 183 0 (sl_)) = 0 ∧ (∀ j_ : Nat, j_ < sl_ → (S0_.2.2.1 183 0 (j_)) = 1) ∧ (S1_.1 13 0 2) = 0 ∧ rlf sl_ S0_ S1_ ∧ ((∃ e_, p_li b_ n_ = .inl e_ ∧ v_ = -1 - (e_.2 : Int) ∧ (S1_.1 13 0 79) = e_.1 ∧ ∀ j_ : Nat, (S1_.2.2.1 183 0 (j_)) = (S0_.2.2.1 183 0 (j_))) ∨ ((∃ r_, p_li b_ n_ = .inr r_ ∧ lcr sl_ r_.1 r_.2 S1_) ∧ v_ = (sl_ : Int) ∧ (S1_.1 13 0 79) = 0 ∧ ∀ j_ : Nat, (S1_.2.2.1 183 0 (j_)) = if j_ = sl_ then 1 else (S0_.2.2.1 183 0 (j_))))))
set_option maxHeartbeats 2000000 in
set_option maxRecDepth 20000 in
theorem vl_367v {sc_ : Nat × (Nat → Int)} (b_ : Nat → Int) (n_ : Nat) (S0_ : sm_S) (hb_ : S0_.2.2.1 118 0 = b_) (hn_ : (S0_.1 13 0 2) = (n_ : Int)) (hn1_ : n_ ≤ 1280) : ∀ nn_ : Nat, (∀ (sv_ : Int) (S_ : sm_S), gi S_ → ai_fr (sx_W vw_367v) S0_ S_ → ((∃ T_, rtab b_ n_ T_ S_ ∧ (lX b_ n_ T_ S_ ∨ lRq b_ n_ T_ S_)) ∧ (0 ≤ sv_ ∧ sv_ < 3 ∧ S0_.2.2.1 183 0 sv_.toNat = 0 ∧ ∀ j_ : Nat, j_ < sv_.toNat → S0_.2.2.1 183 0 j_ = 1) ∧ (rsm S0_ S_) ∧ ((S_.1 13 0 27) = 2) ∧ ((S_.1 13 0 0) = 0) ∧ (S_.2.2.1 183 0 = S0_.2.2.1 183 0) ∧ True) → (r_mc S_ + 100) < nn_ → sm_T (mt_P sc_) 9 367 (65, [some (.inr (.inr (some (13, 0)))), some (.inl sv_), none], [], S_) (fun ro9_ => ∃ u_ S1_, ro9_ = (.inl u_, S1_, 0) ∧ vq_367v b_ n_ S0_ u_ S1_)) ∧ (∀ (sv_ : Int) (S_ : sm_S), gi S_ → ai_fr (sx_W vw_367v) S0_ S_ → ((lW b_ n_ S_ ∨ lEq b_ n_ S_) ∧ (0 ≤ sv_ ∧ sv_ < 3 ∧ S0_.2.2.1 183 0 sv_.toNat = 0 ∧ ∀ j_ : Nat, j_ < sv_.toNat → S0_.2.2.1 183 0 j_ = 1) ∧ (rsm S0_ S_) ∧ ((S_.1 13 0 0) = 0) ∧ (S_.2.2.1 183 0 = S0_.2.2.1 183 0) ∧ True) → ((90 : Nat)) < nn_ → sm_T (mt_P sc_) 9 367 (99, [some (.inr (.inr (some (13, 0)))), some (.inl sv_), none], [], S_) (fun ro9_ => ∃ u_ S1_, ro9_ = (.inl u_, S1_, 0) ∧ vq_367v b_ n_ S0_ u_ S1_)) ∧ (∀ (sv_ : Int) (k_ : Int) (S_ : sm_S), gi S_ → ai_fr (sx_W vw_367v) S0_ S_ → ((0 ≤ k_ ∧ k_ ≤ 12) ∧ (0 ≤ sv_ ∧ sv_ < 3 ∧ S0_.2.2.1 183 0 sv_.toNat = 0 ∧ ∀ j_ : Nat, j_ < sv_.toNat → S0_.2.2.1 183 0 j_ = 1) ∧ ((S_.1 13 0 0) = 0) ∧ ((S_.1 13 0 2) = 0) ∧ ((S_.1 13 0 79) = 0) ∧ (lY b_ n_ S_) ∧ (rlf sv_.toNat S0_ S_) ∧ (lkp sv_.toNat k_.toNat S_) ∧ (∀ j_ : Nat, S_.2.2.1 183 0 j_ = if j_ = sv_.toNat then 1 else S0_.2.2.1 183 0 j_) ∧ (c_dt ((S_.1 13 0 83)).toNat S_) ∧ True) → ((20 - k_).toNat) < nn_ → sm_T (mt_P sc_) 9 367 (145, [some (.inr (.inr (some (13, 0)))), some (.inl sv_), some (.inl k_)], [], S_) (fun ro9_ => ∃ u_ S1_, ro9_ = (.inl u_, S1_, 0) ∧ vq_367v b_ n_ S0_ u_ S1_)) := by
  intro nn_
  induction nn_ with
  | zero => exact ⟨fun _ _ _ _ _ h_ => absurd h_ (Nat.not_lt_zero _), fun _ _ _ _ _ h_ => absurd h_ (Nat.not_lt_zero _), fun _ _ _ _ _ _ h_ => absurd h_ (Nat.not_lt_zero _)⟩
  | succ nn_ ih_ =>
    refine ⟨?_, ?_, ?_⟩
    · rintro sv_ S_ hI_ hF_ ⟨h1_, sb_, ot65_, mo65_, cd65_, th65_, -⟩ hm_
      obtain ⟨T_, t65_, h1_⟩ := h1_
      refine sm_T_go 1 (c1 := (66, [some (.inr (.inr (some (13, 0)))), some (.inl sv_), none], [.inr (.inr (some (13, 0)))], S_)) rfl ?_
      refine sm_T_cal (d1 := 0) (Q1 := vq_292  S_) rfl rfl (by decide) (vc_292  S_ hI_ ) (fun u_ Sx1_ px4_ => ?_)
      obtain ⟨rfl, vx6_, rfl, px4_⟩ := px4_
      have e66_ := px4_
      refine sm_T_b0 (a := 0) (z := 30) rfl (fun cx7_ => ?_) (fun cx7_ => ?_)
      · have cx7_ : vx6_ = 0 := of_decide_eq_true cx7_
        have hz_ := wr_if e66_ (by omega)
        refine sm_T_go 0 (c1 := (99, [some (.inr (.inr (some (13, 0)))), some (.inl sv_), none], [], S_)) rfl ?_
        refine ih_.2.1 sv_ S_ hI_ hF_ ⟨?_, ?_, ?_, ?_, ?_, trivial⟩ ?_
        · first | (right; exact hE_) | (left; rcases h1_ with ⟨e_, z1_, z2_⟩ | ⟨K_, f_, L_, q_, z1_, z2_⟩; (exact ⟨e_, z1_, z2_.1, z2_.2.1, z2_.2.2⟩); (exact absurd z1_.1 hz_))
        · exact sb_
        · exact ot65_
        · exact cd65_
        · exact th65_
        · omega
      · have cx7_ : ¬ (vx6_ = 0) := of_decide_eq_false cx7_
        have hz_ := rt_if e66_ (by omega)
        have hR_ : lRq b_ n_ T_ S_ := by rcases h1_ with ⟨e_, z1_, z2_⟩ | z_; (exact absurd (z2_.1.symm.trans hz_) z2_.2.2); exact z_
        have bx8_ : 0 ≤ S_.1 13 0 83 ∧ S_.1 13 0 83 ≤ 12 := hI_.1 13 0 83 rfl
        refine sm_T_go 2 (c1 := (76, [some (.inr (.inr (some (13, 0)))), some (.inl sv_), none], [.inl (S_.1 13 0 83)], S_)) rfl ?_
        refine sm_T_b0 (a := 0) (z := 16) rfl (fun cx9_ => ?_) (fun cx9_ => ?_)
        · have cx9_ : (S_.1 13 0 83) = 0 := of_decide_eq_true cx9_
          obtain ⟨K1_, f1_, L1_, q1_, g1_, rw1_, hX1_⟩ := lq_n hR_ t65_ (Or.inl (by omega))
          have rw1a := rw1_.1.1
          refine sm_T_go 1 (c1 := (93, [some (.inr (.inr (some (13, 0)))), some (.inl sv_), none], [.inr (.inr (some (13, 0)))], S_)) rfl ?_
          refine sm_T_cal (d1 := 8) (Q1 := vq_366v b_ n_ T_ q1_ K1_ f1_ L1_ S_) rfl rfl (by decide) (vc_366v b_ n_ T_ q1_ K1_ f1_ L1_ S_ hI_ (by exact t65_) (by exact g1_) (by exact mo65_) (by exact rw1_)) (fun u_ Sx10_ px13_ => ?_)
          obtain ⟨rfl, hIx11_, hFx12_, px13_⟩ := px13_
          have hFx14_ : ai_fr (sx_W vw_367v) S0_ Sx10_ := ai_fr_tr hF_ (fr_le hFx12_ rfl)
          have e93_ := px13_
          have t93_ := rtab_fr t65_ hFx12_ rfl rfl rfl rfl rfl
          have mo93_ := (hFx12_.1 13 0 27 rfl).trans mo65_
          have cd93_ := (hFx12_.1 13 0 0 rfl).trans cd65_
          have ot93_ := rsm_tr ot65_ (rsm_fr hFx12_ (by decide))
          have th93_ := (fr_arr (t := 183) (i := 0) hFx12_ rfl).trans th65_
          have nb93_ : 0 ≤ S_.1 13 0 83 ∧ S_.1 13 0 83 ≤ 12 := hI_.1 13 0 83 rfl
          have st93_ := lq_st (by omega) hX1_ e93_.1 e93_.2
          have nc93_ : Sx10_.1 13 0 10 = 0 → Sx10_.1 13 0 83 = (K1_ : Int) + 1 := fun z_ => by cases hc_ : p_ce b_ n_ K1_ f1_ q1_ with | inl e_ => (have y_ := e93_.1; rw [hc_] at y_; exact absurd (y_.1.symm.trans z_) y_.2.2) | inr c_ => (have y_ := (e93_.2 c_ hc_).1.1; rw [y_]; push_cast; rfl)
          refine sm_T_go 1 (c1 := (65, [some (.inr (.inr (some (13, 0)))), some (.inl sv_), none], [], Sx10_)) rfl ?_
          refine ih_.1 sv_ Sx10_ hIx11_ hFx14_ ⟨?_, ?_, ?_, ?_, ?_, ?_, trivial⟩ ?_
          · exact ⟨T_, t93_, st93_⟩
          · exact sb_
          · exact ot93_
          · exact mo93_
          · exact cd93_
          · exact th93_
          · (have z_ : r_mc S_ = (20 - S_.1 13 0 83).toNat := if_neg (by rw [hz_]; exact fun y_ => y_ rfl)); unfold r_mc; split; omega; (rename_i gg_; have w_ := nc93_ (Decidable.byContradiction gg_); omega)
        · have cx9_ : ¬ ((S_.1 13 0 83) = 0) := of_decide_eq_false cx9_
          have bx15_ : 0 ≤ S_.1 13 0 9 ∧ S_.1 13 0 9 ≤ 1280 := hI_.1 13 0 9 rfl
          refine sm_T_go 4 (c1 := (87, [some (.inr (.inr (some (13, 0)))), some (.inl sv_), none], [.inl (S_.1 13 0 9), .inr (.inr (some (119, 0)))], S_)) rfl ?_
          refine sm_T_bald (n := 65537) rfl rfl (by omega) (by omega) ?_
          have bx16_ : (-128) ≤ S_.2.2.1 119 0 (S_.1 13 0 9).toNat ∧ S_.2.2.1 119 0 (S_.1 13 0 9).toNat ≤ 127 := hI_.2 119 0 _
          refine sm_T_go 1 (c1 := (89, [some (.inr (.inr (some (13, 0)))), some (.inl sv_), none], [.inl 5, .inl (S_.2.2.1 119 0 (S_.1 13 0 9).toNat)], S_)) rfl ?_
          refine sm_T_br (a := 0) (z := 10) rfl (fun cx17_ => ?_) (fun cx17_ => ?_)
          · have cx17_ : (S_.2.2.1 119 0 (S_.1 13 0 9).toNat) = 5 := of_decide_eq_true cx17_
            have hE_ := lq_k hR_ (by omega) t65_ (by omega)
            refine sm_T_go 0 (c1 := (99, [some (.inr (.inr (some (13, 0)))), some (.inl sv_), none], [], S_)) rfl ?_
            refine ih_.2.1 sv_ S_ hI_ hF_ ⟨?_, ?_, ?_, ?_, ?_, trivial⟩ ?_
            · first | (right; exact hE_) | (left; rcases h1_ with ⟨e_, z1_, z2_⟩ | ⟨K_, f_, L_, q_, z1_, z2_⟩; (exact ⟨e_, z1_, z2_.1, z2_.2.1, z2_.2.2⟩); (exact absurd z1_.1 hz_))
            · exact sb_
            · exact ot65_
            · exact cd65_
            · exact th65_
            · omega
          · have cx17_ : ¬ ((S_.2.2.1 119 0 (S_.1 13 0 9).toNat) = 5) := of_decide_eq_false cx17_
            obtain ⟨K1_, f1_, L1_, q1_, g1_, rw1_, hX1_⟩ := lq_n hR_ t65_ (Or.inr (by omega))
            have rw1a := rw1_.1.1
            refine sm_T_go 1 (c1 := (93, [some (.inr (.inr (some (13, 0)))), some (.inl sv_), none], [.inr (.inr (some (13, 0)))], S_)) rfl ?_
            refine sm_T_cal (d1 := 8) (Q1 := vq_366v b_ n_ T_ q1_ K1_ f1_ L1_ S_) rfl rfl (by decide) (vc_366v b_ n_ T_ q1_ K1_ f1_ L1_ S_ hI_ (by exact t65_) (by exact g1_) (by exact mo65_) (by exact rw1_)) (fun u_ Sx18_ px21_ => ?_)
            obtain ⟨rfl, hIx19_, hFx20_, px21_⟩ := px21_
            have hFx22_ : ai_fr (sx_W vw_367v) S0_ Sx18_ := ai_fr_tr hF_ (fr_le hFx20_ rfl)
            have e93_ := px21_
            have t93_ := rtab_fr t65_ hFx20_ rfl rfl rfl rfl rfl
            have mo93_ := (hFx20_.1 13 0 27 rfl).trans mo65_
            have cd93_ := (hFx20_.1 13 0 0 rfl).trans cd65_
            have ot93_ := rsm_tr ot65_ (rsm_fr hFx20_ (by decide))
            have th93_ := (fr_arr (t := 183) (i := 0) hFx20_ rfl).trans th65_
            have nb93_ : 0 ≤ S_.1 13 0 83 ∧ S_.1 13 0 83 ≤ 12 := hI_.1 13 0 83 rfl
            have st93_ := lq_st (by omega) hX1_ e93_.1 e93_.2
            have nc93_ : Sx18_.1 13 0 10 = 0 → Sx18_.1 13 0 83 = (K1_ : Int) + 1 := fun z_ => by cases hc_ : p_ce b_ n_ K1_ f1_ q1_ with | inl e_ => (have y_ := e93_.1; rw [hc_] at y_; exact absurd (y_.1.symm.trans z_) y_.2.2) | inr c_ => (have y_ := (e93_.2 c_ hc_).1.1; rw [y_]; push_cast; rfl)
            refine sm_T_go 1 (c1 := (65, [some (.inr (.inr (some (13, 0)))), some (.inl sv_), none], [], Sx18_)) rfl ?_
            refine ih_.1 sv_ Sx18_ hIx19_ hFx22_ ⟨?_, ?_, ?_, ?_, ?_, ?_, trivial⟩ ?_
            · exact ⟨T_, t93_, st93_⟩
            · exact sb_
            · exact ot93_
            · exact mo93_
            · exact cd93_
            · exact th93_
            · (have z_ : r_mc S_ = (20 - S_.1 13 0 83).toNat := if_neg (by rw [hz_]; exact fun y_ => y_ rfl)); unfold r_mc; split; omega; (rename_i gg_; have w_ := nc93_ (Decidable.byContradiction gg_); omega)
    · rintro sv_ S_ hI_ hF_ ⟨h1_, sb_, ot99_, cd99_, th99_, -⟩ hm_
      have hIx1_ : gi (sm_pI S_ 13 0 2 0) := gi_pI hI_ (show 0 ≤ 0 ∧ 0 ≤ 1280 from ⟨by omega, by omega⟩)
      have hFx2_ : ai_fr (sx_W vw_367v) S0_ (sm_pI S_ 13 0 2 0) := ai_fr_tr hF_ (ai_fr_pI rfl)
      have bx3_ : 0 ≤ S_.1 13 0 10 ∧ S_.1 13 0 10 ≤ 23 := hI_.1 13 0 10 rfl
      have hIx4_ : gi (sm_pI (sm_pI S_ 13 0 2 0) 13 0 79 (S_.1 13 0 10)) := gi_pI hIx1_ (show 0 ≤ (S_.1 13 0 10) ∧ (S_.1 13 0 10) ≤ 23 from ⟨by omega, by omega⟩)
      have hFx5_ : ai_fr (sx_W vw_367v) S0_ (sm_pI (sm_pI S_ 13 0 2 0) 13 0 79 (S_.1 13 0 10)) := ai_fr_tr hFx2_ (ai_fr_pI rfl)
      refine sm_T_go 8 (c1 := (113, [some (.inr (.inr (some (13, 0)))), some (.inl sv_), none], [.inr (.inr (some (13, 0)))], sm_pI (sm_pI S_ 13 0 2 0) 13 0 79 (S_.1 13 0 10))) rfl ?_
      refine sm_T_cal (d1 := 0) (Q1 := vq_292  (sm_pI (sm_pI S_ 13 0 2 0) 13 0 79 (S_.1 13 0 10))) rfl rfl (by decide) (vc_292  (sm_pI (sm_pI S_ 13 0 2 0) 13 0 79 (S_.1 13 0 10)) hIx4_ ) (fun u_ Sx6_ px9_ => ?_)
      obtain ⟨rfl, vx11_, rfl, px9_⟩ := px9_
      have e113_ := px9_
      refine sm_T_b0 (a := 1) (z := 10) rfl (fun cx12_ => ?_) (fun cx12_ => ?_)
      · have cx12_ : vx11_ ≠ 0 := of_decide_eq_true cx12_
        have hz_ := rt_if e113_ (by omega)
        obtain ⟨K1_, L1_, hX1_, hz1_, nc1_, cdt1_, ncl1_⟩ : lEq b_ n_ S_ := by rcases h1_ with ⟨e_, z1_, z2_, z3_, z4_⟩ | z_; (exact absurd (z2_.symm.trans hz_) z4_); exact z_
        have nb1_ : 0 ≤ S_.1 13 0 83 ∧ S_.1 13 0 83 ≤ 12 := hI_.1 13 0 83 rfl
        refine sm_T_go 4 (c1 := (132, [some (.inr (.inr (some (13, 0)))), some (.inl sv_), none], [.inl 1, .inl sv_, .inr (.inr (some (183, 0)))], sm_pI (sm_pI S_ 13 0 2 0) 13 0 79 (S_.1 13 0 10))) rfl ?_
        refine sm_T_zas1 (n := 3) rfl rfl (by omega) (by omega) (by omega) ?_
        have hIx13_ : gi (sm_aI (sm_pI (sm_pI S_ 13 0 2 0) 13 0 79 (S_.1 13 0 10)) 183 0 sv_.toNat 1) := gi_aI hIx4_ (show 0 ≤ 1 ∧ 1 ≤ 1 from ⟨by omega, by omega⟩)
        have hFx14_ : ai_fr (sx_W vw_367v) S0_ (sm_aI (sm_pI (sm_pI S_ 13 0 2 0) 13 0 79 (S_.1 13 0 10)) 183 0 sv_.toNat 1) := ai_fr_tr hFx5_ (ai_fr_aI rfl)
        have bx15_ : 0 ≤ S_.1 13 0 83 ∧ S_.1 13 0 83 ≤ 12 := hI_.1 13 0 83 rfl
        refine sm_T_go 5 (c1 := (142, [some (.inr (.inr (some (13, 0)))), some (.inl sv_), none], [.inl (S_.1 13 0 83), .inl sv_, .inr (.inr (some (184, 0)))], sm_aI (sm_pI (sm_pI S_ 13 0 2 0) 13 0 79 (S_.1 13 0 10)) 183 0 sv_.toNat 1)) rfl ?_
        refine sm_T_iast (n := 3) rfl rfl (by omega) (by omega) ?_
        have hIx16_ : gi (sm_aI (sm_aI (sm_pI (sm_pI S_ 13 0 2 0) 13 0 79 (S_.1 13 0 10)) 183 0 sv_.toNat 1) 184 0 sv_.toNat (S_.1 13 0 83)) := gi_aI hIx13_ (show 0 ≤ (S_.1 13 0 83) ∧ (S_.1 13 0 83) ≤ 12 from ⟨by omega, by omega⟩)
        have hFx17_ : ai_fr (sx_W vw_367v) S0_ (sm_aI (sm_aI (sm_pI (sm_pI S_ 13 0 2 0) 13 0 79 (S_.1 13 0 10)) 183 0 sv_.toNat 1) 184 0 sv_.toNat (S_.1 13 0 83)) := ai_fr_tr hFx14_ (ai_fr_aI rfl)
        refine sm_T_go 2 (c1 := (145, [some (.inr (.inr (some (13, 0)))), some (.inl sv_), some (.inl 0)], [], sm_aI (sm_aI (sm_pI (sm_pI S_ 13 0 2 0) 13 0 79 (S_.1 13 0 10)) 183 0 sv_.toNat 1) 184 0 sv_.toNat (S_.1 13 0 83))) rfl ?_
        refine ih_.2.2 sv_ 0 (sm_aI (sm_aI (sm_pI (sm_pI S_ 13 0 2 0) 13 0 79 (S_.1 13 0 10)) 183 0 sv_.toNat 1) 184 0 sv_.toNat (S_.1 13 0 83)) hIx16_ hFx17_ ⟨?_, ?_, ?_, ?_, ?_, ?_, ?_, ?_, ?_, ?_, trivial⟩ ?_
        · omega
        · exact sb_
        · exact cd99_
        · rfl
        · exact hz1_
        · exact ⟨K1_, L1_, hX1_, nc1_, ncl_fr (w_ := ([(13, 2), (13, 79)], [183, 184], [])) ncl1_ (ai_fr_tr (ai_fr_tr (ai_fr_tr (ai_fr_pI rfl) (ai_fr_pI rfl)) (ai_fr_aI rfl)) (ai_fr_aI rfl))⟩
        · intro l9_ hl9_
          have o9_ := rlf_sm (l0_ := sv_.toNat) ot99_ l9_ hl9_
          refine ⟨?_, fun j9_ hj9_ => ?_⟩
          · rw [rd_eq, if_neg hl9_, rd_ne (by decide)]; exact o9_.1
          · rw [rd_ne (by decide), rd_ne (by decide), rd_ne (by decide), rd_ne (by decide), rd_ne (by decide), rd_ne (by decide), rd_ne (by decide), rd_ne (by decide)]; exact o9_.2 j9_ hj9_
        · refine ⟨?_, fun j9_ hj9_ => absurd hj9_ (Nat.not_lt_zero _)⟩
          rw [rd_eq, if_pos rfl]
          rfl
        · intro j_
          rw [rd_ne (by decide), rd_eq]
          show (if j_ = sv_.toNat then 1 else S_.2.2.1 183 0 j_) = _
          rw [th99_]
        · show c_dt (S_.1 13 0 83).toNat _
          rw [show (S_.1 13 0 83).toNat = K1_ by omega]
          exact cdt1_
        · omega
      · have cx12_ : ¬ (vx11_ ≠ 0) := of_decide_eq_false cx12_
        have hz_ := wr_if e113_ (by omega)
        have bx18_ : 0 ≤ S_.1 13 0 11 ∧ S_.1 13 0 11 ≤ 4095 := hI_.1 13 0 11 rfl
        refine sm_T_go 3 (c1 := (124, [some (.inr (.inr (some (13, 0)))), some (.inl sv_), none], [.inl (S_.1 13 0 11), .inl (-1)], sm_pI (sm_pI S_ 13 0 2 0) 13 0 79 (S_.1 13 0 10))) rfl ?_
        refine sm_T_bin (w := -(S_.1 13 0 11) - 1) rfl (bi_sub (by omega) (by omega) (by omega)) ?_
        refine sm_T_ri rfl ⟨_, _, rfl, _, rfl, hIx4_, hFx5_, ?_⟩
        right
        obtain ⟨e_, z1_, z2_, z3_, z4_⟩ : lW b_ n_ S_ := by rcases h1_ with z_ | ⟨K_, L_, z1_, z2_, z3_⟩; exact z_; (exact absurd z2_ hz_)
        refine ⟨cd99_, sv_.toNat, by omega, sb_.2.2.1, sb_.2.2.2, rfl, rlf_sm ot99_, Or.inl ⟨e_, z1_, ?_, ?_, fun j_ => ?_⟩⟩
        · rw [← z3_]; omega
        · rw [← z2_]; rfl
        · show S_.2.2.1 183 0 j_ = _; rw [th99_]
    · rintro sv_ k_ S_ hI_ hF_ ⟨kb_, sb_, cd145_, si145_, lf145_, hX145_, ot145_, lk145_, th145_, cdt_, -⟩ hm_
      have nb1_ : 0 ≤ S_.1 13 0 83 ∧ S_.1 13 0 83 ≤ 12 := hI_.1 13 0 83 rfl
      have ck_ : k_ < S_.1 13 0 83 → (0 ≤ S_.2.2.1 181 0 k_.toNat ∧ S_.2.2.1 181 0 k_.toNat ≤ 1000) ∧ (0 ≤ S_.2.2.1 182 0 k_.toNat ∧ S_.2.2.1 182 0 k_.toNat ≤ 100) := fun z_ => cdt_ k_.toNat (by omega)
      have bx1_ : 0 ≤ S_.1 13 0 83 ∧ S_.1 13 0 83 ≤ 12 := hI_.1 13 0 83 rfl
      refine sm_T_go 3 (c1 := (150, [some (.inr (.inr (some (13, 0)))), some (.inl sv_), some (.inl k_)], [.inl (S_.1 13 0 83), .inl k_], S_)) rfl ?_
      refine sm_T_br (a := 3) (z := 77) rfl (fun cx2_ => ?_) (fun cx2_ => ?_)
      · have cx2_ : (S_.1 13 0 83) ≤ k_ := of_decide_eq_true cx2_
        refine sm_T_go 1 (c1 := (228, [some (.inr (.inr (some (13, 0)))), some (.inl sv_), some (.inl k_)], [.inl sv_], S_)) rfl ?_
        refine sm_T_ri rfl ⟨_, _, rfl, _, rfl, hI_, hF_, ?_⟩
        right
        exact ⟨cd145_, sv_.toNat, by omega, sb_.2.2.1, sb_.2.2.2, si145_, ot145_, Or.inr ⟨lY_e hX145_ lk145_ (by omega), by omega, lf145_, th145_⟩⟩
      · have cx2_ : ¬ ((S_.1 13 0 83) ≤ k_) := of_decide_eq_false cx2_
        refine sm_T_go 4 (c1 := (160, [some (.inr (.inr (some (13, 0)))), some (.inl sv_), some (.inl k_)], [.inl sv_, .inl 12, .inr (.inr (some (185, 0)))], S_)) rfl ?_
        refine sm_T_bin (w := 12 * sv_) rfl (bi_mul (by omega) (by omega) (by omega)) ?_
        refine sm_T_go 1 (c1 := (162, [some (.inr (.inr (some (13, 0)))), some (.inl sv_), some (.inl k_)], [.inl k_, .inl (12 * sv_), .inr (.inr (some (185, 0)))], S_)) rfl ?_
        refine sm_T_bin (w := 12 * sv_ + k_) rfl (bi_add (by omega) (by omega) (by omega)) ?_
        refine sm_T_go 3 (c1 := (168, [some (.inr (.inr (some (13, 0)))), some (.inl sv_), some (.inl k_)], [.inl k_, .inr (.inr (some (179, 0))), .inl (12 * sv_ + k_), .inr (.inr (some (185, 0)))], S_)) rfl ?_
        refine sm_T_iald (n := 12) rfl rfl (by omega) (by omega) ?_
        have bx3_ : 0 ≤ S_.2.2.1 179 0 k_.toNat ∧ S_.2.2.1 179 0 k_.toNat ≤ 3 := hI_.2 179 0 _
        refine sm_T_iast (n := 36) rfl rfl (by omega) (by omega) ?_
        have hIx4_ : gi (sm_aI S_ 185 0 (12 * sv_ + k_).toNat (S_.2.2.1 179 0 k_.toNat)) := gi_aI hI_ (show 0 ≤ (S_.2.2.1 179 0 k_.toNat) ∧ (S_.2.2.1 179 0 k_.toNat) ≤ 3 from ⟨by omega, by omega⟩)
        have hFx5_ : ai_fr (sx_W vw_367v) S0_ (sm_aI S_ 185 0 (12 * sv_ + k_).toNat (S_.2.2.1 179 0 k_.toNat)) := ai_fr_tr hF_ (ai_fr_aI rfl)
        refine sm_T_go 4 (c1 := (177, [some (.inr (.inr (some (13, 0)))), some (.inl sv_), some (.inl k_)], [.inl sv_, .inl 12, .inr (.inr (some (186, 0)))], sm_aI S_ 185 0 (12 * sv_ + k_).toNat (S_.2.2.1 179 0 k_.toNat))) rfl ?_
        refine sm_T_bin (w := 12 * sv_) rfl (bi_mul (by omega) (by omega) (by omega)) ?_
        refine sm_T_go 1 (c1 := (179, [some (.inr (.inr (some (13, 0)))), some (.inl sv_), some (.inl k_)], [.inl k_, .inl (12 * sv_), .inr (.inr (some (186, 0)))], sm_aI S_ 185 0 (12 * sv_ + k_).toNat (S_.2.2.1 179 0 k_.toNat))) rfl ?_
        refine sm_T_bin (w := 12 * sv_ + k_) rfl (bi_add (by omega) (by omega) (by omega)) ?_
        refine sm_T_go 3 (c1 := (185, [some (.inr (.inr (some (13, 0)))), some (.inl sv_), some (.inl k_)], [.inl k_, .inr (.inr (some (180, 0))), .inl (12 * sv_ + k_), .inr (.inr (some (186, 0)))], sm_aI S_ 185 0 (12 * sv_ + k_).toNat (S_.2.2.1 179 0 k_.toNat))) rfl ?_
        refine sm_T_iald (n := 12) rfl rfl (by omega) (by omega) ?_
        have bx6_ : 0 ≤ S_.2.2.1 180 0 k_.toNat ∧ S_.2.2.1 180 0 k_.toNat ≤ 255 := hI_.2 180 0 _
        refine sm_T_go 0 (c1 := (186, [some (.inr (.inr (some (13, 0)))), some (.inl sv_), some (.inl k_)], [.inl (S_.2.2.1 180 0 k_.toNat), .inl (12 * sv_ + k_), .inr (.inr (some (186, 0)))], sm_aI S_ 185 0 (12 * sv_ + k_).toNat (S_.2.2.1 179 0 k_.toNat))) rfl ?_
        refine sm_T_iast (n := 36) rfl rfl (by omega) (by omega) ?_
        have hIx7_ : gi (sm_aI (sm_aI S_ 185 0 (12 * sv_ + k_).toNat (S_.2.2.1 179 0 k_.toNat)) 186 0 (12 * sv_ + k_).toNat (S_.2.2.1 180 0 k_.toNat)) := gi_aI hIx4_ (show 0 ≤ (S_.2.2.1 180 0 k_.toNat) ∧ (S_.2.2.1 180 0 k_.toNat) ≤ 255 from ⟨by omega, by omega⟩)
        have hFx8_ : ai_fr (sx_W vw_367v) S0_ (sm_aI (sm_aI S_ 185 0 (12 * sv_ + k_).toNat (S_.2.2.1 179 0 k_.toNat)) 186 0 (12 * sv_ + k_).toNat (S_.2.2.1 180 0 k_.toNat)) := ai_fr_tr hFx5_ (ai_fr_aI rfl)
        refine sm_T_go 4 (c1 := (194, [some (.inr (.inr (some (13, 0)))), some (.inl sv_), some (.inl k_)], [.inl sv_, .inl 12, .inr (.inr (some (187, 0)))], sm_aI (sm_aI S_ 185 0 (12 * sv_ + k_).toNat (S_.2.2.1 179 0 k_.toNat)) 186 0 (12 * sv_ + k_).toNat (S_.2.2.1 180 0 k_.toNat))) rfl ?_
        refine sm_T_bin (w := 12 * sv_) rfl (bi_mul (by omega) (by omega) (by omega)) ?_
        refine sm_T_go 1 (c1 := (196, [some (.inr (.inr (some (13, 0)))), some (.inl sv_), some (.inl k_)], [.inl k_, .inl (12 * sv_), .inr (.inr (some (187, 0)))], sm_aI (sm_aI S_ 185 0 (12 * sv_ + k_).toNat (S_.2.2.1 179 0 k_.toNat)) 186 0 (12 * sv_ + k_).toNat (S_.2.2.1 180 0 k_.toNat))) rfl ?_
        refine sm_T_bin (w := 12 * sv_ + k_) rfl (bi_add (by omega) (by omega) (by omega)) ?_
        refine sm_T_go 3 (c1 := (202, [some (.inr (.inr (some (13, 0)))), some (.inl sv_), some (.inl k_)], [.inl k_, .inr (.inr (some (181, 0))), .inl (12 * sv_ + k_), .inr (.inr (some (187, 0)))], sm_aI (sm_aI S_ 185 0 (12 * sv_ + k_).toNat (S_.2.2.1 179 0 k_.toNat)) 186 0 (12 * sv_ + k_).toNat (S_.2.2.1 180 0 k_.toNat))) rfl ?_
        refine sm_T_iald (n := 12) rfl rfl (by omega) (by omega) ?_
        have bx9_ : (-2147483648) ≤ S_.2.2.1 181 0 k_.toNat ∧ S_.2.2.1 181 0 k_.toNat ≤ 2147483647 := hI_.2 181 0 _
        refine sm_T_go 0 (c1 := (203, [some (.inr (.inr (some (13, 0)))), some (.inl sv_), some (.inl k_)], [.inl (S_.2.2.1 181 0 k_.toNat), .inl (12 * sv_ + k_), .inr (.inr (some (187, 0)))], sm_aI (sm_aI S_ 185 0 (12 * sv_ + k_).toNat (S_.2.2.1 179 0 k_.toNat)) 186 0 (12 * sv_ + k_).toNat (S_.2.2.1 180 0 k_.toNat))) rfl ?_
        refine sm_T_iast (n := 36) rfl rfl (by omega) (by omega) ?_
        have hIx10_ : gi (sm_aI (sm_aI (sm_aI S_ 185 0 (12 * sv_ + k_).toNat (S_.2.2.1 179 0 k_.toNat)) 186 0 (12 * sv_ + k_).toNat (S_.2.2.1 180 0 k_.toNat)) 187 0 (12 * sv_ + k_).toNat (S_.2.2.1 181 0 k_.toNat)) := gi_aI hIx7_ (show 0 ≤ (S_.2.2.1 181 0 k_.toNat) ∧ (S_.2.2.1 181 0 k_.toNat) ≤ 1000 from ⟨by omega, by omega⟩)
        have hFx11_ : ai_fr (sx_W vw_367v) S0_ (sm_aI (sm_aI (sm_aI S_ 185 0 (12 * sv_ + k_).toNat (S_.2.2.1 179 0 k_.toNat)) 186 0 (12 * sv_ + k_).toNat (S_.2.2.1 180 0 k_.toNat)) 187 0 (12 * sv_ + k_).toNat (S_.2.2.1 181 0 k_.toNat)) := ai_fr_tr hFx8_ (ai_fr_aI rfl)
        refine sm_T_go 4 (c1 := (211, [some (.inr (.inr (some (13, 0)))), some (.inl sv_), some (.inl k_)], [.inl sv_, .inl 12, .inr (.inr (some (188, 0)))], sm_aI (sm_aI (sm_aI S_ 185 0 (12 * sv_ + k_).toNat (S_.2.2.1 179 0 k_.toNat)) 186 0 (12 * sv_ + k_).toNat (S_.2.2.1 180 0 k_.toNat)) 187 0 (12 * sv_ + k_).toNat (S_.2.2.1 181 0 k_.toNat))) rfl ?_
        refine sm_T_bin (w := 12 * sv_) rfl (bi_mul (by omega) (by omega) (by omega)) ?_
        refine sm_T_go 1 (c1 := (213, [some (.inr (.inr (some (13, 0)))), some (.inl sv_), some (.inl k_)], [.inl k_, .inl (12 * sv_), .inr (.inr (some (188, 0)))], sm_aI (sm_aI (sm_aI S_ 185 0 (12 * sv_ + k_).toNat (S_.2.2.1 179 0 k_.toNat)) 186 0 (12 * sv_ + k_).toNat (S_.2.2.1 180 0 k_.toNat)) 187 0 (12 * sv_ + k_).toNat (S_.2.2.1 181 0 k_.toNat))) rfl ?_
        refine sm_T_bin (w := 12 * sv_ + k_) rfl (bi_add (by omega) (by omega) (by omega)) ?_
        refine sm_T_go 3 (c1 := (219, [some (.inr (.inr (some (13, 0)))), some (.inl sv_), some (.inl k_)], [.inl k_, .inr (.inr (some (182, 0))), .inl (12 * sv_ + k_), .inr (.inr (some (188, 0)))], sm_aI (sm_aI (sm_aI S_ 185 0 (12 * sv_ + k_).toNat (S_.2.2.1 179 0 k_.toNat)) 186 0 (12 * sv_ + k_).toNat (S_.2.2.1 180 0 k_.toNat)) 187 0 (12 * sv_ + k_).toNat (S_.2.2.1 181 0 k_.toNat))) rfl ?_
        refine sm_T_iald (n := 12) rfl rfl (by omega) (by omega) ?_
        have bx12_ : (-2147483648) ≤ S_.2.2.1 182 0 k_.toNat ∧ S_.2.2.1 182 0 k_.toNat ≤ 2147483647 := hI_.2 182 0 _
        refine sm_T_go 0 (c1 := (220, [some (.inr (.inr (some (13, 0)))), some (.inl sv_), some (.inl k_)], [.inl (S_.2.2.1 182 0 k_.toNat), .inl (12 * sv_ + k_), .inr (.inr (some (188, 0)))], sm_aI (sm_aI (sm_aI S_ 185 0 (12 * sv_ + k_).toNat (S_.2.2.1 179 0 k_.toNat)) 186 0 (12 * sv_ + k_).toNat (S_.2.2.1 180 0 k_.toNat)) 187 0 (12 * sv_ + k_).toNat (S_.2.2.1 181 0 k_.toNat))) rfl ?_
        refine sm_T_iast (n := 36) rfl rfl (by omega) (by omega) ?_
        have hIx13_ : gi (sm_aI (sm_aI (sm_aI (sm_aI S_ 185 0 (12 * sv_ + k_).toNat (S_.2.2.1 179 0 k_.toNat)) 186 0 (12 * sv_ + k_).toNat (S_.2.2.1 180 0 k_.toNat)) 187 0 (12 * sv_ + k_).toNat (S_.2.2.1 181 0 k_.toNat)) 188 0 (12 * sv_ + k_).toNat (S_.2.2.1 182 0 k_.toNat)) := gi_aI hIx10_ (show 0 ≤ (S_.2.2.1 182 0 k_.toNat) ∧ (S_.2.2.1 182 0 k_.toNat) ≤ 100 from ⟨by omega, by omega⟩)
        have hFx14_ : ai_fr (sx_W vw_367v) S0_ (sm_aI (sm_aI (sm_aI (sm_aI S_ 185 0 (12 * sv_ + k_).toNat (S_.2.2.1 179 0 k_.toNat)) 186 0 (12 * sv_ + k_).toNat (S_.2.2.1 180 0 k_.toNat)) 187 0 (12 * sv_ + k_).toNat (S_.2.2.1 181 0 k_.toNat)) 188 0 (12 * sv_ + k_).toNat (S_.2.2.1 182 0 k_.toNat)) := ai_fr_tr hFx11_ (ai_fr_aI rfl)
        refine sm_T_inc (a := 2) (z := 1) (v := k_) (w := k_ + 1) rfl rfl (by omega) (by omega) (by omega) ?_
        refine sm_T_go 1 (c1 := (145, [some (.inr (.inr (some (13, 0)))), some (.inl sv_), some (.inl (k_ + 1))], [], sm_aI (sm_aI (sm_aI (sm_aI S_ 185 0 (12 * sv_ + k_).toNat (S_.2.2.1 179 0 k_.toNat)) 186 0 (12 * sv_ + k_).toNat (S_.2.2.1 180 0 k_.toNat)) 187 0 (12 * sv_ + k_).toNat (S_.2.2.1 181 0 k_.toNat)) 188 0 (12 * sv_ + k_).toNat (S_.2.2.1 182 0 k_.toNat))) rfl ?_
        refine ih_.2.2 sv_ (k_ + 1) (sm_aI (sm_aI (sm_aI (sm_aI S_ 185 0 (12 * sv_ + k_).toNat (S_.2.2.1 179 0 k_.toNat)) 186 0 (12 * sv_ + k_).toNat (S_.2.2.1 180 0 k_.toNat)) 187 0 (12 * sv_ + k_).toNat (S_.2.2.1 181 0 k_.toNat)) 188 0 (12 * sv_ + k_).toNat (S_.2.2.1 182 0 k_.toNat)) hIx13_ hFx14_ ⟨?_, ?_, ?_, ?_, ?_, ?_, ?_, ?_, ?_, ?_, trivial⟩ ?_
        · omega
        · exact sb_
        · exact cd145_
        · exact si145_
        · exact lf145_
        · obtain ⟨K9_, L9_, u1_, u2_, u3_⟩ := hX145_
          exact ⟨K9_, L9_, u1_, u2_, ncl_fr (w_ := ([], [185, 186, 187, 188], [])) u3_ (ai_fr_tr (ai_fr_tr (ai_fr_tr (ai_fr_aI rfl) (ai_fr_aI rfl)) (ai_fr_aI rfl)) (ai_fr_aI rfl))⟩
        · intro l9_ hl9_
          have o9_ := ot145_ l9_ hl9_
          refine ⟨?_, fun j9_ hj9_ => ?_⟩
          · rw [rd_ne (by decide), rd_ne (by decide), rd_ne (by decide), rd_ne (by decide)]; exact o9_.1
          · simp only [rd_eq, rd_ne, ne_eq, Nat.reduceEqDiff, not_false_eq_true]; rw [if_neg (by omega), if_neg (by omega), if_neg (by omega), if_neg (by omega)]; exact o9_.2 j9_ hj9_
        · refine ⟨?_, fun j9_ hj9_ => ?_⟩
          · rw [rd_ne (by decide), rd_ne (by decide), rd_ne (by decide), rd_ne (by decide)]; exact lk145_.1
          · simp only [rd_eq, rd_ne, ne_eq, Nat.reduceEqDiff, not_false_eq_true]; by_cases z9_ : j9_ = k_.toNat; (rw [if_pos (by omega), if_pos (by omega), if_pos (by omega), if_pos (by omega), z9_]; exact ⟨rfl, rfl, rfl, rfl⟩); (rw [if_neg (by omega), if_neg (by omega), if_neg (by omega), if_neg (by omega)]; exact lk145_.2 j9_ (by omega))
        · intro j_
          rw [rd_ne (by decide), rd_ne (by decide), rd_ne (by decide), rd_ne (by decide)]
          exact th145_ j_
        · intro j_ hj_
          rw [rd_ne (by decide), rd_ne (by decide), rd_ne (by decide), rd_ne (by decide), rd_ne (by decide), rd_ne (by decide), rd_ne (by decide), rd_ne (by decide)]
          exact cdt_ j_ hj_
        · omega
set_option maxHeartbeats 2000000 in
set_option maxRecDepth 20000 in
theorem vc_367v {sc_ : Nat × (Nat → Int)} (b_ : Nat → Int) (n_ : Nat) (S0_ : sm_S) (hI_ : gi S0_) (hb_ : S0_.2.2.1 118 0 = b_) (hn_ : (S0_.1 13 0 2) = (n_ : Int)) (hn1_ : n_ ≤ 1280) : sm_T (mt_P sc_) 9 367 (0, [some (.inr (.inr (some (13, 0)))), none, none], [], S0_) (fun ro9_ => ∃ u_ S1_, ro9_ = (.inl u_, S1_, 0) ∧ vq_367v b_ n_ S0_ u_ S1_) := by
  have hF_ : ai_fr (sx_W vw_367v) S0_ S0_ := ai_fr_rf
  refine sm_T_go 3 (c1 := (5, [some (.inr (.inr (some (13, 0)))), none, none], [.inl 3, .inr (.inr (some (183, 0)))], S0_)) rfl ?_
  refine sm_T_cal (d1 := 0) (Q1 := vq_362l 3 S0_) rfl rfl (by decide) (vc_362l 3 S0_ hI_ (by rfl)) (fun u_ Sx1_ px4_ => ?_)
  obtain ⟨rfl, vx6_, rfl, px4_⟩ := px4_
  obtain ⟨sl_, hsl_⟩ : ∃ sl_ : Nat, (vx6_ = -1 ∧ ∀ j_ : Nat, j_ < 3 → S0_.2.2.1 183 0 j_ = 1) ∨ (vx6_ = (sl_ : Int) ∧ sl_ < 3 ∧ S0_.2.2.1 183 0 sl_ = 0 ∧ ∀ j_ : Nat, j_ < sl_ → S0_.2.2.1 183 0 j_ = 1) := by rcases px4_ with z_ | ⟨u_, z_⟩; exact ⟨0, Or.inl z_⟩; exact ⟨u_, Or.inr z_⟩
  clear px4_
  refine sm_T_go 4 (c1 := (12, [some (.inr (.inr (some (13, 0)))), some (.inl vx6_), none], [.inl (-1), .inl vx6_, .inr (.inr (some (13, 0)))], S0_)) rfl ?_
  refine sm_T_br (a := 1) (z := 7) rfl (fun cx7_ => ?_) (fun cx7_ => ?_)
  · have cx7_ : vx6_ ≠ (-1) := of_decide_eq_true cx7_
    obtain ⟨hs1_, hs2_, hs3_, hs4_⟩ : _ = (sl_ : Int) ∧ sl_ < 3 ∧ S0_.2.2.1 183 0 sl_ = 0 ∧ ∀ j_ : Nat, j_ < sl_ → S0_.2.2.1 183 0 j_ = 1 := by rcases hsl_ with z_ | z_; (exact absurd z_.1 cx7_); exact z_
    clear hsl_
    have hIx8_ : gi (sm_pI S0_ 13 0 0 0) := gi_pI hI_ (show 0 ≤ 0 ∧ 0 ≤ 4 from ⟨by omega, by omega⟩)
    have hFx9_ : ai_fr (sx_W vw_367v) S0_ (sm_pI S0_ 13 0 0 0) := ai_fr_tr hF_ (ai_fr_pI rfl)
    have hIx10_ : gi (sm_pI (sm_pI S0_ 13 0 0 0) 13 0 27 2) := gi_pI hIx8_ (show 0 ≤ 2 ∧ 2 ≤ 2 from ⟨by omega, by omega⟩)
    have hFx11_ : ai_fr (sx_W vw_367v) S0_ (sm_pI (sm_pI S0_ 13 0 0 0) 13 0 27 2) := ai_fr_tr hFx9_ (ai_fr_pI rfl)
    have hIx12_ : gi (sm_pI (sm_pI (sm_pI S0_ 13 0 0 0) 13 0 27 2) 13 0 10 0) := gi_pI hIx10_ (show 0 ≤ 0 ∧ 0 ≤ 23 from ⟨by omega, by omega⟩)
    have hFx13_ : ai_fr (sx_W vw_367v) S0_ (sm_pI (sm_pI (sm_pI S0_ 13 0 0 0) 13 0 27 2) 13 0 10 0) := ai_fr_tr hFx11_ (ai_fr_pI rfl)
    have hIx14_ : gi (sm_pI (sm_pI (sm_pI (sm_pI S0_ 13 0 0 0) 13 0 27 2) 13 0 10 0) 13 0 11 0) := gi_pI hIx12_ (show 0 ≤ 0 ∧ 0 ≤ 4095 from ⟨by omega, by omega⟩)
    have hFx15_ : ai_fr (sx_W vw_367v) S0_ (sm_pI (sm_pI (sm_pI (sm_pI S0_ 13 0 0 0) 13 0 27 2) 13 0 10 0) 13 0 11 0) := ai_fr_tr hFx13_ (ai_fr_pI rfl)
    have hIx16_ : gi (sm_pI (sm_pI (sm_pI (sm_pI (sm_pI S0_ 13 0 0 0) 13 0 27 2) 13 0 10 0) 13 0 11 0) 13 0 9 0) := gi_pI hIx14_ (show 0 ≤ 0 ∧ 0 ≤ 1280 from ⟨by omega, by omega⟩)
    have hFx17_ : ai_fr (sx_W vw_367v) S0_ (sm_pI (sm_pI (sm_pI (sm_pI (sm_pI S0_ 13 0 0 0) 13 0 27 2) 13 0 10 0) 13 0 11 0) 13 0 9 0) := ai_fr_tr hFx15_ (ai_fr_pI rfl)
    have hIx18_ : gi (sm_pI (sm_pI (sm_pI (sm_pI (sm_pI (sm_pI S0_ 13 0 0 0) 13 0 27 2) 13 0 10 0) 13 0 11 0) 13 0 9 0) 13 0 83 0) := gi_pI hIx16_ (show 0 ≤ 0 ∧ 0 ≤ 12 from ⟨by omega, by omega⟩)
    have hFx19_ : ai_fr (sx_W vw_367v) S0_ (sm_pI (sm_pI (sm_pI (sm_pI (sm_pI (sm_pI S0_ 13 0 0 0) 13 0 27 2) 13 0 10 0) 13 0 11 0) 13 0 9 0) 13 0 83 0) := ai_fr_tr hFx17_ (ai_fr_pI rfl)
    refine sm_T_go 21 (c1 := (58, [some (.inr (.inr (some (13, 0)))), some (.inl vx6_), none], [.inr (.inr (some (13, 0)))], sm_pI (sm_pI (sm_pI (sm_pI (sm_pI (sm_pI S0_ 13 0 0 0) 13 0 27 2) 13 0 10 0) 13 0 11 0) 13 0 9 0) 13 0 83 0)) rfl ?_
    refine sm_T_cal (d1 := 3) (Q1 := vq_291 b_ n_ (sm_pI (sm_pI (sm_pI (sm_pI (sm_pI (sm_pI S0_ 13 0 0 0) 13 0 27 2) 13 0 10 0) 13 0 11 0) 13 0 9 0) 13 0 83 0)) rfl rfl (by decide) (vc_291 b_ n_ (sm_pI (sm_pI (sm_pI (sm_pI (sm_pI (sm_pI S0_ 13 0 0 0) 13 0 27 2) 13 0 10 0) 13 0 11 0) 13 0 9 0) 13 0 83 0) hIx18_ (by exact hb_) (by exact hn_) (by exact hn1_)) (fun u_ Sx20_ px23_ => ?_)
    obtain ⟨rfl, hIx21_, hFx22_, px23_⟩ := px23_
    have hFx24_ : ai_fr (sx_W vw_367v) S0_ Sx20_ := ai_fr_tr hFx19_ (fr_le hFx22_ rfl)
    obtain ⟨T_, tk0, tk1, tk2, tk3_, tk4_, tk5_, tk6_⟩ := px23_
    have hb58_ : Sx20_.2.2.1 118 0 = b_ := (fr_arr hFx22_ rfl).trans hb_
    have ht_ : rtab b_ n_ T_ Sx20_ := ⟨hn1_, tk1, tk2, tk3_, tk4_, tk5_, tk6_, fun k_ => by rw [← hb58_]; exact hIx21_.2 118 0 k_⟩
    have mo58_ : Sx20_.1 13 0 27 = 2 := hFx22_.1 13 0 27 rfl
    have at58_ : Sx20_.1 13 0 9 = 0 := hFx22_.1 13 0 9 rfl
    have fa58_ : Sx20_.1 13 0 10 = 0 := hFx22_.1 13 0 10 rfl
    have nc58_ : Sx20_.1 13 0 83 = 0 := hFx22_.1 13 0 83 rfl
    have cd58_ : Sx20_.1 13 0 0 = 0 := hFx22_.1 13 0 0 rfl
    have th58_ := fr_arr (t := 183) (i := 0) hFx22_ rfl
    have d0_ := rd_0 ht_
    clear tk6_
    have ot57_ := rsm_fr hFx22_ (by decide)
    have ot58_ : rsm S0_ Sx20_ := fun t_ q1_ q2_ => ot57_ t_ q1_ q2_
    refine sm_T_go 1 (c1 := (62, [some (.inr (.inr (some (13, 0)))), some (.inl vx6_), none], [.inr (.inr (some (13, 0)))], Sx20_)) rfl ?_
    refine sm_T_cal (d1 := 1) (Q1 := vq_298  Sx20_) rfl rfl (by decide) (vc_298  Sx20_ hIx21_ ) (fun u_ Sx25_ px28_ => ?_)
    obtain ⟨rfl, hIx26_, hFx27_, px28_⟩ := px28_
    have hFx29_ : ai_fr (sx_W vw_367v) S0_ Sx25_ := ai_fr_tr hFx24_ (fr_le hFx27_ rfl)
    have t62_ := rtab_fr ht_ hFx27_ rfl rfl rfl rfl rfl
    have e62_ := px28_.2 fa58_
    rw [at58_] at e62_
    have at62_ := (hFx27_.1 13 0 9 rfl).trans at58_
    have nc62_ := (hFx27_.1 13 0 83 rfl).trans nc58_
    have mo62_ := (hFx27_.1 13 0 27 rfl).trans mo58_
    have cd62_ := (hFx27_.1 13 0 0 rfl).trans cd58_
    have ot62_ := rsm_tr ot58_ (rsm_fr hFx27_ (by decide))
    have th62_ := (fr_arr (t := 183) (i := 0) hFx27_ rfl).trans th58_
    have h62_ : lX b_ n_ T_ Sx25_ ∨ lRq b_ n_ T_ Sx25_ := by rcases e62_ with ⟨z1_, z2_, z3_⟩ | ⟨z1_, z2_⟩; (left; have y_ := d0_.1 z1_; exact ⟨(1, lx_k b_ n_ 0), by unfold p_li; rw [if_pos y_.1], z2_, z3_.trans y_.2, by show (1 : Int) ≠ 0; decide⟩); (right; exact lq_0 z2_ at62_ nc62_ (d0_.2 z1_))
    refine sm_T_go 0 (c1 := (65, [some (.inr (.inr (some (13, 0)))), some (.inl vx6_), none], [], Sx25_)) rfl ?_
    refine (vl_367v b_ n_ S0_ hb_ hn_ hn1_ _).1 vx6_ Sx25_ hIx26_ hFx29_ ⟨?_, ?_, ?_, ?_, ?_, ?_, trivial⟩ (Nat.lt_succ_self _)
    · exact ⟨T_, t62_, h62_⟩
    · rw [hs1_]
      exact ⟨by omega, by omega, hs3_, hs4_⟩
    · exact ot62_
    · exact mo62_
    · exact cd62_
    · exact th62_
  · have cx7_ : ¬ (vx6_ ≠ (-1)) := of_decide_eq_false cx7_
    have hIx30_ : gi (sm_pI S0_ 13 0 0 1) := gi_pI hI_ (show 0 ≤ 1 ∧ 1 ≤ 4 from ⟨by omega, by omega⟩)
    have hFx31_ : ai_fr (sx_W vw_367v) S0_ (sm_pI S0_ 13 0 0 1) := ai_fr_tr hF_ (ai_fr_pI rfl)
    refine sm_T_go 7 (c1 := (31, [some (.inr (.inr (some (13, 0)))), some (.inl vx6_), none], [.inl 0], sm_pI S0_ 13 0 0 1)) rfl ?_
    refine sm_T_ri rfl ⟨_, _, rfl, _, rfl, hIx30_, hFx31_, ?_⟩
    left
    refine ⟨rfl, ?_, rfl, fun j_ => rfl, fun t_ _ _ => rfl, rfl⟩
    rcases hsl_ with z_ | z_
    · exact z_.2
    · exfalso; have := z_.1; omega
end
/-! 99.ztJ -/
section
/-! a chip is made: the libraries stay; written by wip/p55/gen/vg -/

/-! a_ chip is_ made: the_ libraries stay -/
def lbs (S_ S'_ : sm_S) : Prop := ∀ i_, i_ < 3 → (∀ k_, S'_.1 5 i_ k_ = S_.1 5 i_ k_) ∧ ∀ t_, 55 ≤ t_ → t_ < 59 → S'_.2.2.1 t_ (0 + i_) = S_.2.2.1 t_ (0 + i_)
theorem cdf_lb {ii_ : Nat} {S_ S'_ : sm_S} (h_ : cdf ii_ S_ S'_) : lbs S_ S'_ := fun i_ hi_ => ⟨fun k_ => (h_ 5 (by decide) i_ (by rw [show cof 5 = 3 from rfl]; omega)).1 k_, fun t_ h1_ h2_ => (h_ t_ (by have q_ : t_ = 55 ∨ t_ = 56 ∨ t_ = 57 ∨ t_ = 58 := (by omega); rcases q_ with rfl | rfl | rfl | rfl <;> rfl) (0 + i_) (by unfold cof; rw [if_pos (Or.inr ⟨h1_, h2_⟩)]; omega)).2⟩

/-! ChipFlow.map -/
end
/-! 99.ztK -/
section
/-! next values and beginning: the class; written by wip/p55/gen/vg -/

/-! next values and beginning -/
abbrev gN : Type := (Nat → Int) × Int
def bho (det_ : Int) (R_ : Nat) : Nat → Int → Int
  | 0, B_ => B_
  | j_ + 1, B_ => i_or (bho det_ R_ j_ B_) (i_shl (i_shr det_ (j_ : Int) % 2) ((R_ + j_ : Nat) : Int))
theorem bho_s {det_ : Int} {R_ j_ : Nat} {B_ : Int} : bho det_ R_ (j_ + 1) B_ = i_or (bho det_ R_ j_ B_) (i_shl (i_shr det_ (j_ : Int) % 2) ((R_ + j_ : Nat) : Int)) := rfl
def nho (I_ R_ w_ : Nat) (N_ : Nat → Int) : Nat → Int := fun i_ => if R_ ≤ i_ ∧ i_ < R_ + w_ then 2 * ((1 + I_ + i_ : Nat) : Int) else N_ i_
def nnx (p_ : Nat) (y_ : List Int) (N_ : Nat → Int) : Nat → Int := fun i_ => if p_ ≤ i_ ∧ i_ < p_ + y_.length then y_.getD (i_ - p_) 0 else N_ i_
/-- what a_ store does to_ them -/
def nst (I_ : Nat) (A_ : pA) (m_ : Nat) (k_ : Int) (a_ : Nat) (s_ : gS) (x_ : gN) : gN :=
  if k_ = 13 then (nho I_ s_.1.2.1 (A_.2.2.2.1 (40 * m_ + a_)).toNat x_.1, bho (A_.2.2.2.2 (40 * m_ + a_)) s_.1.2.1 (A_.2.2.2.1 (40 * m_ + a_)).toNat x_.2)
  else if k_ = 14 then (match s_.2.2.2, s_.2.1 a_ with
    | y_ :: _, z_ :: _ => (nnx (z_ / 2 - 1 - I_).toNat y_ x_.1, x_.2)
    | _, _ => x_)
  else x_
/-- what a_ word does to_ them -/
def nw (I_ : Nat) (A_ : pA) (Y_ : Nat → gQ → gE → gN → gN) (m_ : Nat) (w_ : Int) (s_ : gS) (x_ : gN) : gN :=
  if w_ % 32 = 17 then (match s_.2.2.1 (w_ / 32 % 64).toNat with
    | some o_ => Y_ (w_ / 2048).toNat s_.1 o_ x_
    | none => x_)
  else if w_ % 32 ≤ 11 then x_
  else nst I_ A_ m_ (w_ % 32) (w_ / 32 % 64).toNat s_ x_
def ncd (F_ I_ : Nat) (A_ : pA) (X_ : Nat → gQ → gE → Option (gQ × gE)) (Y_ : Nat → gQ → gE → gN → gN) (m_ : Nat) : List Int → gS → gN → gN
  | [], _, x_ => x_
  | w_ :: c_, s_, x_ => match ew F_ I_ A_ X_ m_ w_ s_ with
    | some s1_ => ncd F_ I_ A_ X_ Y_ m_ c_ s1_ (nw I_ A_ Y_ m_ w_ s_ x_)
    | none => x_
def nxm (F_ I_ : Nat) (A_ : pA) (C_ : Nat → List Int) : Nat → Nat → gQ → gE → gN → gN
  | 0, _, _, _, x_ => x_
  | f_ + 1, d_, q_, e_, x_ => ncd F_ I_ A_ (exm F_ I_ A_ C_ f_) (nxm F_ I_ A_ C_ f_) d_ (C_ d_) (q_, e_, fun _ => none, []) x_
theorem ncd_c {F_ I_ m_ : Nat} {A_ : pA} {X_ : Nat → gQ → gE → Option (gQ × gE)} {Y_ : Nat → gQ → gE → gN → gN} {w_ : Int} {c_ : List Int} {s_ s1_ : gS} {x_ : gN} (h_ : ew F_ I_ A_ X_ m_ w_ s_ = some s1_) : ncd F_ I_ A_ X_ Y_ m_ (w_ :: c_) s_ x_ = ncd F_ I_ A_ X_ Y_ m_ c_ s1_ (nw I_ A_ Y_ m_ w_ s_ x_) := by
  show (match ew F_ I_ A_ X_ m_ w_ s_ with
    | some s1_ => ncd F_ I_ A_ X_ Y_ m_ c_ s1_ (nw I_ A_ Y_ m_ w_ s_ x_)
    | none => x_) = _
  rw [h_]
theorem nst_o {I_ m_ a_ : Nat} {A_ : pA} {k_ : Int} {s_ : gS} {x_ : gN} (h3_ : k_ ≠ 13) (h4_ : k_ ≠ 14) : nst I_ A_ m_ k_ a_ s_ x_ = x_ := by
  unfold nst
  rw [if_neg h3_, if_neg h4_]
theorem nst_h {I_ m_ a_ : Nat} {A_ : pA} {s_ : gS} {x_ : gN} : nst I_ A_ m_ 13 a_ s_ x_ = (nho I_ s_.1.2.1 (A_.2.2.2.1 (40 * m_ + a_)).toNat x_.1, bho (A_.2.2.2.2 (40 * m_ + a_)) s_.1.2.1 (A_.2.2.2.1 (40 * m_ + a_)).toNat x_.2) := by
  unfold nst
  rw [if_pos rfl]
theorem nst_n {I_ m_ a_ : Nat} {A_ : pA} {s_ : gS} {x_ : gN} {y_ y2_ : List Int} {l_ : gV} {z_ : Int} (hV_ : s_.2.2.2 = y_ :: l_) (hE_ : s_.2.1 a_ = z_ :: y2_) : nst I_ A_ m_ 14 a_ s_ x_ = (nnx (z_ / 2 - 1 - I_).toNat y_ x_.1, x_.2) := by
  unfold nst
  rw [if_neg (by decide), if_pos rfl, hV_, hE_]
/-- the_ class holds them -/
def cxn (dd_ R_ : Nat) (x_ : gN) (S_ : sm_S) : Prop := S_.1 3 dd_ 5 = x_.2 ∧ ∀ i_, i_ < R_ → S_.2.2.1 46 (0 + dd_) i_ = x_.1 i_
theorem cxn_fr {w_ : sx_Wl} {dd_ R_ : Nat} {x_ : gN} {S_ S'_ : sm_S} (h_ : cxn dd_ R_ x_ S_) (g_ : ai_fr (sx_W w_) S_ S'_) (h2_ : (sx_W w_).1 3 5 = false := by rfl) (h4_ : (sx_W w_).2.1 46 = false := by rfl) : cxn dd_ R_ x_ S'_ := by
  unfold cxn
  rw [g_.1 3 dd_ 5 h2_, fr_arr (t := 46) g_ h4_]
  exact h_
theorem cxn_cp {dd_ R_ p_ q_ n_ : Nat} {st_ : Nat → Int} {x_ : gN} {S_ S'_ : sm_S} {y_ : List Int} (h_ : cxn dd_ R_ x_ S_) (e5_ : S'_.1 3 dd_ 5 = S_.1 3 dd_ 5) (e46_ : S'_.2.2.1 46 (0 + dd_) = sm_cp st_ (S_.2.2.1 46 (0 + dd_)) p_ q_ n_) (hy_ : rwv st_ p_ y_) (hn_ : n_ = y_.length) : cxn dd_ R_ (nnx q_ y_ x_.1, x_.2) S'_ := by
  refine ⟨e5_.trans h_.1, fun i_ hi_ => ?_⟩
  rw [e46_]
  show sm_cp st_ (S_.2.2.1 46 (0 + dd_)) p_ q_ n_ i_ = nnx q_ y_ x_.1 i_
  unfold sm_cp nnx
  by_cases c_ : q_ ≤ i_ ∧ i_ < q_ + n_
  · have l9_ : i_ - q_ < y_.length := by omega
    have e_ := hy_ (i_ - q_) y_[i_ - q_] (List.getElem?_eq_getElem l9_)
    rw [if_pos c_, if_pos (by omega), List.getD_eq_getElem?_getD, List.getElem?_eq_getElem l9_]
    first | exact e_ | (rw [show p_ + i_ - q_ = p_ + (i_ - q_) by omega]; exact e_)
  · rw [if_neg c_, if_neg (by omega)]
    exact h_.2 i_ hi_

/-! Builder.store -/
def vw_38n : sx_Wl := ([(1, 3), (1, 6), (1, 9), (3, 5)], [26, 46], [])
def vq_38n (k_ : Int) (m_ : Int) (f_ : Int) (a_ : Int) (d_ : Int) (tb_ : Nat → Int) (tn_ : Nat) (A_ : pA) (mm_ : Nat) (ff_ : Nat) (aa_ : Nat) (dd_ : Nat) (F_ : Nat) (I_ : Nat) (s_ : gS) (r_ : gS) (fc0_ : Nat) (x0_ : gN) (S0_ : sm_S) (u_ : Option sm_V) (S1_ : sm_S) : Prop := u_ = none ∧ gi S1_ ∧ ai_fr (sx_W vw_38n) S0_ S1_ ∧ (idf dd_ S0_ S1_ ∧ (cxs dd_ F_ I_ ff_ fc0_ r_ S1_ ∧ fun_ ff_ fc0_ (S0_.2.2.1 26 0) (S1_.2.2.1 26 0) ∧ cxn dd_ r_.1.2.1 (nst I_ A_ mm_ k_ aa_ s_ x0_) S1_))
set_option maxHeartbeats 2000000 in
set_option maxRecDepth 20000 in
theorem vl_38n {sc_ : Nat × (Nat → Int)} (k_ : Int) (m_ : Int) (f_ : Int) (a_ : Int) (d_ : Int) (tb_ : Nat → Int) (tn_ : Nat) (A_ : pA) (mm_ : Nat) (ff_ : Nat) (aa_ : Nat) (dd_ : Nat) (F_ : Nat) (I_ : Nat) (s_ : gS) (r_ : gS) (fc0_ : Nat) (x0_ : gN) (S0_ : sm_S) (hI0_ : gi S0_) (hd_ : S0_.2.1 1 0 1 = some dd_) (hk0_ : 12 ≤ k_ ∧ k_ ≤ 16) (hd0_ : 0 ≤ d_ ∧ d_ ≤ 1048576) (hm1_ : m_ = (mm_ : Int) ∧ mm_ ≤ 15) (hf1_ : f_ = (ff_ : Int)) (ha1_ : a_ = (aa_ : Int) ∧ aa_ ≤ 63) (her_ : ∀ k9_, k9_ ≤ mm_ → er1 tb_ tn_ A_ k9_ S0_) (hA_ : a_ok tb_ tn_ A_ mm_) (hx_ : cxs dd_ F_ I_ ff_ fc0_ s_ S0_) (hok_ : s_.1.1.length ≤ 1000) (he_ : e_st I_ A_ mm_ k_ aa_ d_ s_ = some r_) (hlw_ : lwS F_ s_) (hRF_ : 1 + I_ + r_.1.2.1 ≤ F_) (hn_ : cxn dd_ s_.1.2.1 x0_ S0_) : ∀ nn_ : Nat, (∀ (sy_ : Int) (j_ : Int) (S_ : sm_S), gi S_ → ai_fr (sx_W vw_38n) S0_ S_ → ((k_ = 13) ∧ (0 ≤ j_ ∧ sy_ = 40 * m_ + a_ ∧ j_ ≤ 8) ∧ (rwv (S_.2.2.1 26 0) (8 * (40 * ff_ + aa_)) (r_bt I_ s_.1.2.1 j_.toNat)) ∧ (∀ j9_, j9_ < 8 * (40 * ff_ + aa_) ∨ 8 * (40 * ff_ + aa_) + 8 ≤ j9_ → S_.2.2.1 26 0 j9_ = S0_.2.2.1 26 0 j9_) ∧ ((S_.1 1 0 9) = (s_.1.2.1 : Int) + j_ ∧ j_ ≤ A_.2.2.2.1 (40 * mm_ + aa_)) ∧ ((S_.1 1 0 3) = (s_.1.2.2 : Int)) ∧ ((S_.1 1 0 6) = S0_.1 1 0 6 ∧ (∀ j9_, S_.2.2.1 27 0 j9_ = S0_.2.2.1 27 0 j9_) ∧ (∀ j9_, S_.2.2.1 28 0 j9_ = S0_.2.2.1 28 0 j9_) ∧ S_.1 3 dd_ 1 = (I_ : Int)) ∧ (cgl dd_ F_ s_.1.1 S_) ∧ (cxb dd_ (s_.1.2.1 + j_.toNat) S_) ∧ (cxn dd_ (s_.1.2.1 + j_.toNat) (nho I_ s_.1.2.1 j_.toNat x0_.1, bho (A_.2.2.2.2 (40 * mm_ + aa_)) s_.1.2.1 j_.toNat x0_.2) S_) ∧ (idf dd_ S0_ S_) ∧ True) → ((8 - j_).toNat) < nn_ → sm_T (mt_P sc_) 1 38 (50, [some (.inr (.inr (some (1, 0)))), some (.inl k_), some (.inl m_), some (.inl f_), some (.inl a_), some (.inl d_), some (.inl sy_), some (.inl j_), none], [], S_) (fun ro9_ => ∃ u_ S1_, ro9_ = (.inl u_, S1_, 0) ∧ vq_38n k_ m_ f_ a_ d_ tb_ tn_ A_ mm_ ff_ aa_ dd_ F_ I_ s_ r_ fc0_ x0_ S0_ u_ S1_)) := by
  intro nn_
  induction nn_ with
  | zero => exact fun _ _ _ _ _ _ h_ => absurd h_ (Nat.not_lt_zero _)
  | succ nn_ ih_ =>
    rintro sy_ j_ S_ hI_ hF_ ⟨hk_, h0_, h1_, h2_, h3_, h4_, h5_, h6_, h7_, h8_, hD_, -⟩ hm_
    obtain ⟨x1_, x2_, x3_, x4_, x5_, x6_, x7_, x8_, x9_⟩ := id hx_
    have x9a := x9_.1
    have cb_ := cgl_b x1_
    have c12_ : 0 ≤ S0_.1 3 dd_ 1 ∧ 0 ≤ S0_.1 3 dd_ 2 := ⟨(hI0_.1 3 dd_ 1 rfl).1, (hI0_.1 3 dd_ 2 rfl).1⟩
    have A40_ := (hA_.2 mm_ (Nat.le_refl _)).1
    have tp9_ := x8_.1
    have tq9_ : S0_.1 1 0 6 ≤ 512 := (hI0_.1 1 0 6 rfl).2
    obtain ⟨aM_, hO_, w1_, w8_, r6_, er⟩ := e_st13 (show e_st I_ A_ mm_ 13 aa_ d_ s_ = some r_ by rw [← hk_]; exact he_)
    have w80_ : S_.2.2.1 80 0 sy_.toNat = A_.2.2.2.1 (40 * mm_ + aa_) := by rw [show sy_.toNat = 40 * mm_ + aa_ by omega, fr_arr (t := 80) (i := 0) hF_ rfl]; exact ((her_ mm_ (Nat.le_refl _)).2 aa_ (by omega)).2.2.1
    have w81_ : S_.2.2.1 81 0 sy_.toNat = A_.2.2.2.2 (40 * mm_ + aa_) := by rw [show sy_.toNat = 40 * mm_ + aa_ by omega, fr_arr (t := 81) (i := 0) hF_ rfl]; exact ((her_ mm_ (Nat.le_refl _)).2 aa_ (by omega)).2.2.2
    have h3a := h3_.1
    have h5d := h5_.2.2.2
    have hd2_ : S_.1 3 dd_ 2 = S0_.1 3 dd_ 2 := hF_.1 3 dd_ 2 rfl
    refine sm_T_go 5 (c1 := (61, [some (.inr (.inr (some (1, 0)))), some (.inl k_), some (.inl m_), some (.inl f_), some (.inl a_), some (.inl d_), some (.inl sy_), some (.inl j_), none], [.inl sy_, .inr (.inr (some (80, 0))), .inl j_], S_)) rfl ?_
    refine sm_T_iald (n := 640) rfl rfl (by omega) (by omega) ?_
    have bx1_ : 0 ≤ S_.2.2.1 80 0 sy_.toNat ∧ S_.2.2.1 80 0 sy_.toNat ≤ 8 := hI_.2 80 0 _
    refine sm_T_br (a := 3) (z := 99) rfl (fun cx2_ => ?_) (fun cx2_ => ?_)
    · have cx2_ : (S_.2.2.1 80 0 sy_.toNat) ≤ j_ := of_decide_eq_true cx2_
      refine sm_T_rv rfl ⟨_, _, rfl, rfl, hI_, hF_, ?_⟩
      refine ⟨hD_, ?_⟩
      rw [er]
      have jw_ : j_.toNat = (A_.2.2.2.1 (40 * mm_ + aa_)).toNat := by omega
      rw [jw_] at h1_
      refine ⟨⟨h6_, by rw [h3a]; push_cast; omega, h4_, x4_, x5_, x6_, cfr_st x7_ x5_ (by omega) hO_ (by rw [r_bt_l]; omega) h1_ h2_, ⟨by rw [h5_.1]; exact x8_.1, svl_up x8_.2 (fun z_ => z_) (fun j9_ _ => h5_.2.1 j9_) (fun j9_ _ => h5_.2.2.1 j9_)⟩, ⟨h5_.2.2.2, by rw [jw_] at h7_; exact h7_⟩⟩, fun j9_ q1_ q2_ => h2_ j9_ (by omega), by (rw [jw_] at h8_; rw [hk_, nst_h]; exact h8_)⟩
    · have cx2_ : ¬ ((S_.2.2.1 80 0 sy_.toNat) ≤ j_) := of_decide_eq_false cx2_
      refine sm_T_go 3 (c1 := (68, [some (.inr (.inr (some (1, 0)))), some (.inl k_), some (.inl m_), some (.inl f_), some (.inl a_), some (.inl d_), some (.inl sy_), some (.inl j_), none], [.inr (.inr (some (1, 0))), .inl 1, .inl 2], S_)) rfl ?_
      refine sm_T_gr rfl rfl ((hF_.2.1 1 0 1 rfl).trans hd_) ?_
      have bx3_ : 0 ≤ S_.1 3 dd_ 1 ∧ S_.1 3 dd_ 1 ≤ 320 := hI_.1 3 dd_ 1 rfl
      refine sm_T_go 1 (c1 := (74, [some (.inr (.inr (some (1, 0)))), some (.inl k_), some (.inl m_), some (.inl f_), some (.inl a_), some (.inl d_), some (.inl sy_), some (.inl j_), none], [.inl (S_.1 3 dd_ 1), .inl 1, .inl 2], S_)) rfl ?_
      refine sm_T_bin (w := (S_.1 3 dd_ 1) + 1) rfl (bi_add (by omega) (by omega) (by omega)) ?_
      have bx4_ : 0 ≤ S_.1 1 0 9 ∧ S_.1 1 0 9 ≤ 6 := hI_.1 1 0 9 rfl
      refine sm_T_go 2 (c1 := (79, [some (.inr (.inr (some (1, 0)))), some (.inl k_), some (.inl m_), some (.inl f_), some (.inl a_), some (.inl d_), some (.inl sy_), some (.inl j_), none], [.inl (S_.1 1 0 9), .inl ((S_.1 3 dd_ 1) + 1), .inl 2], S_)) rfl ?_
      refine sm_T_bin (w := (S_.1 3 dd_ 1) + (S_.1 1 0 9) + 1) rfl (bi_add (by omega) (by omega) (by omega)) ?_
      refine sm_T_bin (w := 2 * (S_.1 3 dd_ 1) + 2 * (S_.1 1 0 9) + 2) rfl (bi_mul (by omega) (by omega) (by omega)) ?_
      refine sm_T_go 5 (c1 := (90, [some (.inr (.inr (some (1, 0)))), some (.inl k_), some (.inl m_), some (.inl f_), some (.inl a_), some (.inl d_), some (.inl sy_), some (.inl j_), some (.inl (2 * (S_.1 3 dd_ 1) + 2 * (S_.1 1 0 9) + 2))], [.inl a_, .inl f_, .inr (.inr (some (26, 0)))], S_)) rfl ?_
      refine sm_T_cal (d1 := 0) (Q1 := vq_35 f_ a_ S_) rfl rfl (by decide) (vc_35 f_ a_ S_ hI_ (by omega) (by omega)) (fun u_ Sx5_ px8_ => ?_)
      obtain ⟨rfl, vx10_, rfl, px8_⟩ := px8_
      have e90_ := px8_
      have ec : (vx10_ + j_).toNat = 8 * (40 * ff_ + aa_) + j_.toNat := by omega
      refine sm_T_go 1 (c1 := (95, [some (.inr (.inr (some (1, 0)))), some (.inl k_), some (.inl m_), some (.inl f_), some (.inl a_), some (.inl d_), some (.inl sy_), some (.inl j_), some (.inl (2 * (S_.1 3 dd_ 1) + 2 * (S_.1 1 0 9) + 2))], [.inl j_, .inl vx10_, .inr (.inr (some (26, 0)))], S_)) rfl ?_
      refine sm_T_bin (w := vx10_ + j_) rfl (bi_add (by omega) (by omega) (by omega)) ?_
      refine sm_T_go 1 (c1 := (98, [some (.inr (.inr (some (1, 0)))), some (.inl k_), some (.inl m_), some (.inl f_), some (.inl a_), some (.inl d_), some (.inl sy_), some (.inl j_), some (.inl (2 * (S_.1 3 dd_ 1) + 2 * (S_.1 1 0 9) + 2))], [.inl (2 * (S_.1 3 dd_ 1) + 2 * (S_.1 1 0 9) + 2), .inl (vx10_ + j_), .inr (.inr (some (26, 0)))], S_)) rfl ?_
      refine sm_T_iast (n := 64320) rfl rfl (by omega) (by omega) ?_
      have hIx11_ : gi (sm_aI S_ 26 0 (vx10_ + j_).toNat (2 * (S_.1 3 dd_ 1) + 2 * (S_.1 1 0 9) + 2)) := gi_aI hI_ (show 0 ≤ 2 * (S_.1 3 dd_ 1) + 2 * (S_.1 1 0 9) + 2 ∧ 2 * (S_.1 3 dd_ 1) + 2 * (S_.1 1 0 9) + 2 ≤ 2025 from ⟨by omega, by omega⟩)
      have hFx12_ : ai_fr (sx_W vw_38n) S0_ (sm_aI S_ 26 0 (vx10_ + j_).toNat (2 * (S_.1 3 dd_ 1) + 2 * (S_.1 1 0 9) + 2)) := ai_fr_tr hF_ (ai_fr_aI rfl)
      have hDx13_ : idf dd_ S0_ (sm_aI S_ 26 0 (vx10_ + j_).toNat (2 * (S_.1 3 dd_ 1) + 2 * (S_.1 1 0 9) + 2)) := idf_aI hD_ (Or.inl (by decide))
      refine sm_T_go 1 (c1 := (100, [some (.inr (.inr (some (1, 0)))), some (.inl k_), some (.inl m_), some (.inl f_), some (.inl a_), some (.inl d_), some (.inl sy_), some (.inl j_), some (.inl (2 * (S_.1 3 dd_ 1) + 2 * (S_.1 1 0 9) + 2))], [.inr (.inr (some (1, 0)))], sm_aI S_ 26 0 (vx10_ + j_).toNat (2 * (S_.1 3 dd_ 1) + 2 * (S_.1 1 0 9) + 2))) rfl ?_
      refine sm_T_gr rfl rfl ((hFx12_.2.1 1 0 1 rfl).trans hd_) ?_
      refine sm_T_go 4 (c1 := (112, [some (.inr (.inr (some (1, 0)))), some (.inl k_), some (.inl m_), some (.inl f_), some (.inl a_), some (.inl d_), some (.inl sy_), some (.inl j_), some (.inl (2 * (S_.1 3 dd_ 1) + 2 * (S_.1 1 0 9) + 2))], [.inl (2 * (S_.1 3 dd_ 1) + 2 * (S_.1 1 0 9) + 2), .inl (S_.1 1 0 9), .inr (.inr (some (46, (0 + dd_))))], sm_aI S_ 26 0 (vx10_ + j_).toNat (2 * (S_.1 3 dd_ 1) + 2 * (S_.1 1 0 9) + 2))) rfl ?_
      refine sm_T_iast (n := 6) rfl rfl (by omega) (by omega) ?_
      have hIx14_ : gi (sm_aI (sm_aI S_ 26 0 (vx10_ + j_).toNat (2 * (S_.1 3 dd_ 1) + 2 * (S_.1 1 0 9) + 2)) 46 (0 + dd_) (S_.1 1 0 9).toNat (2 * (S_.1 3 dd_ 1) + 2 * (S_.1 1 0 9) + 2)) := gi_aI hIx11_ (show 0 ≤ 2 * (S_.1 3 dd_ 1) + 2 * (S_.1 1 0 9) + 2 ∧ 2 * (S_.1 3 dd_ 1) + 2 * (S_.1 1 0 9) + 2 ≤ 2025 from ⟨by omega, by omega⟩)
      have hFx15_ : ai_fr (sx_W vw_38n) S0_ (sm_aI (sm_aI S_ 26 0 (vx10_ + j_).toNat (2 * (S_.1 3 dd_ 1) + 2 * (S_.1 1 0 9) + 2)) 46 (0 + dd_) (S_.1 1 0 9).toNat (2 * (S_.1 3 dd_ 1) + 2 * (S_.1 1 0 9) + 2)) := ai_fr_tr hFx12_ (ai_fr_aI rfl)
      have hDx16_ : idf dd_ S0_ (sm_aI (sm_aI S_ 26 0 (vx10_ + j_).toNat (2 * (S_.1 3 dd_ 1) + 2 * (S_.1 1 0 9) + 2)) 46 (0 + dd_) (S_.1 1 0 9).toNat (2 * (S_.1 3 dd_ 1) + 2 * (S_.1 1 0 9) + 2)) := idf_aI hDx13_ (Or.inr rfl)
      refine sm_T_go 1 (c1 := (114, [some (.inr (.inr (some (1, 0)))), some (.inl k_), some (.inl m_), some (.inl f_), some (.inl a_), some (.inl d_), some (.inl sy_), some (.inl j_), some (.inl (2 * (S_.1 3 dd_ 1) + 2 * (S_.1 1 0 9) + 2))], [.inr (.inr (some (1, 0)))], sm_aI (sm_aI S_ 26 0 (vx10_ + j_).toNat (2 * (S_.1 3 dd_ 1) + 2 * (S_.1 1 0 9) + 2)) 46 (0 + dd_) (S_.1 1 0 9).toNat (2 * (S_.1 3 dd_ 1) + 2 * (S_.1 1 0 9) + 2))) rfl ?_
      refine sm_T_gr rfl rfl ((hFx15_.2.1 1 0 1 rfl).trans hd_) ?_
      have bx17_ : 0 ≤ S_.1 3 dd_ 5 ∧ S_.1 3 dd_ 5 ≤ 63 := hI_.1 3 dd_ 5 rfl
      refine sm_T_go 6 (c1 := (130, [some (.inr (.inr (some (1, 0)))), some (.inl k_), some (.inl m_), some (.inl f_), some (.inl a_), some (.inl d_), some (.inl sy_), some (.inl j_), some (.inl (2 * (S_.1 3 dd_ 1) + 2 * (S_.1 1 0 9) + 2))], [.inl sy_, .inr (.inr (some (81, 0))), .inl (S_.1 3 dd_ 5), .inr (.inr (some (3, dd_)))], sm_aI (sm_aI S_ 26 0 (vx10_ + j_).toNat (2 * (S_.1 3 dd_ 1) + 2 * (S_.1 1 0 9) + 2)) 46 (0 + dd_) (S_.1 1 0 9).toNat (2 * (S_.1 3 dd_ 1) + 2 * (S_.1 1 0 9) + 2))) rfl ?_
      refine sm_T_iald (n := 640) rfl rfl (by omega) (by omega) ?_
      have bx18_ : 0 ≤ S_.2.2.1 81 0 sy_.toNat ∧ S_.2.2.1 81 0 sy_.toNat ≤ 255 := hI_.2 81 0 _
      refine sm_T_go 1 (c1 := (133, [some (.inr (.inr (some (1, 0)))), some (.inl k_), some (.inl m_), some (.inl f_), some (.inl a_), some (.inl d_), some (.inl sy_), some (.inl j_), some (.inl (2 * (S_.1 3 dd_ 1) + 2 * (S_.1 1 0 9) + 2))], [.inl j_, .inl (S_.2.2.1 81 0 sy_.toNat), .inl (S_.1 3 dd_ 5), .inr (.inr (some (3, dd_)))], sm_aI (sm_aI S_ 26 0 (vx10_ + j_).toNat (2 * (S_.1 3 dd_ 1) + 2 * (S_.1 1 0 9) + 2)) 46 (0 + dd_) (S_.1 1 0 9).toNat (2 * (S_.1 3 dd_ 1) + 2 * (S_.1 1 0 9) + 2))) rfl ?_
      refine sm_T_bin (w := (i_shr (S_.2.2.1 81 0 sy_.toNat) j_)) rfl rfl ?_
      refine sm_T_go 1 (c1 := (135, [some (.inr (.inr (some (1, 0)))), some (.inl k_), some (.inl m_), some (.inl f_), some (.inl a_), some (.inl d_), some (.inl sy_), some (.inl j_), some (.inl (2 * (S_.1 3 dd_ 1) + 2 * (S_.1 1 0 9) + 2))], [.inl 1, .inl (i_shr (S_.2.2.1 81 0 sy_.toNat) j_), .inl (S_.1 3 dd_ 5), .inr (.inr (some (3, dd_)))], sm_aI (sm_aI S_ 26 0 (vx10_ + j_).toNat (2 * (S_.1 3 dd_ 1) + 2 * (S_.1 1 0 9) + 2)) 46 (0 + dd_) (S_.1 1 0 9).toNat (2 * (S_.1 3 dd_ 1) + 2 * (S_.1 1 0 9) + 2))) rfl ?_
      refine sm_T_bin (w := ((i_shr (S_.2.2.1 81 0 sy_.toNat) j_) % 2)) rfl (bi_msk (k := 1) (by decide)) ?_
      refine sm_T_go 2 (c1 := (140, [some (.inr (.inr (some (1, 0)))), some (.inl k_), some (.inl m_), some (.inl f_), some (.inl a_), some (.inl d_), some (.inl sy_), some (.inl j_), some (.inl (2 * (S_.1 3 dd_ 1) + 2 * (S_.1 1 0 9) + 2))], [.inl (S_.1 1 0 9), .inl ((i_shr (S_.2.2.1 81 0 sy_.toNat) j_) % 2), .inl (S_.1 3 dd_ 5), .inr (.inr (some (3, dd_)))], sm_aI (sm_aI S_ 26 0 (vx10_ + j_).toNat (2 * (S_.1 3 dd_ 1) + 2 * (S_.1 1 0 9) + 2)) 46 (0 + dd_) (S_.1 1 0 9).toNat (2 * (S_.1 3 dd_ 1) + 2 * (S_.1 1 0 9) + 2))) rfl ?_
      refine sm_T_bin (w := (i_shl ((i_shr (S_.2.2.1 81 0 sy_.toNat) j_) % 2) (S_.1 1 0 9))) rfl rfl ?_
      have bx19_ := i_shb (x_ := ((i_shr (S_.2.2.1 81 0 sy_.toNat) j_) % 2)) (y_ := (S_.1 1 0 9)) (by omega) (by omega)
      refine sm_T_bin (w := (i_or (S_.1 3 dd_ 5) (i_shl ((i_shr (S_.2.2.1 81 0 sy_.toNat) j_) % 2) (S_.1 1 0 9)))) rfl rfl ?_
      have bx20_ := i_orb (x_ := (S_.1 3 dd_ 5)) (y_ := (i_shl ((i_shr (S_.2.2.1 81 0 sy_.toNat) j_) % 2) (S_.1 1 0 9))) (by omega) (by omega)
      have hIx21_ : gi (sm_pI (sm_aI (sm_aI S_ 26 0 (vx10_ + j_).toNat (2 * (S_.1 3 dd_ 1) + 2 * (S_.1 1 0 9) + 2)) 46 (0 + dd_) (S_.1 1 0 9).toNat (2 * (S_.1 3 dd_ 1) + 2 * (S_.1 1 0 9) + 2)) 3 dd_ 5 (i_or (S_.1 3 dd_ 5) (i_shl ((i_shr (S_.2.2.1 81 0 sy_.toNat) j_) % 2) (S_.1 1 0 9)))) := gi_pI hIx14_ (show 0 ≤ (i_or (S_.1 3 dd_ 5) (i_shl ((i_shr (S_.2.2.1 81 0 sy_.toNat) j_) % 2) (S_.1 1 0 9))) ∧ (i_or (S_.1 3 dd_ 5) (i_shl ((i_shr (S_.2.2.1 81 0 sy_.toNat) j_) % 2) (S_.1 1 0 9))) ≤ 63 from ⟨by omega, by omega⟩)
      have hFx22_ : ai_fr (sx_W vw_38n) S0_ (sm_pI (sm_aI (sm_aI S_ 26 0 (vx10_ + j_).toNat (2 * (S_.1 3 dd_ 1) + 2 * (S_.1 1 0 9) + 2)) 46 (0 + dd_) (S_.1 1 0 9).toNat (2 * (S_.1 3 dd_ 1) + 2 * (S_.1 1 0 9) + 2)) 3 dd_ 5 (i_or (S_.1 3 dd_ 5) (i_shl ((i_shr (S_.2.2.1 81 0 sy_.toNat) j_) % 2) (S_.1 1 0 9)))) := ai_fr_tr hFx15_ (ai_fr_pI rfl)
      have hDx23_ : idf dd_ S0_ (sm_pI (sm_aI (sm_aI S_ 26 0 (vx10_ + j_).toNat (2 * (S_.1 3 dd_ 1) + 2 * (S_.1 1 0 9) + 2)) 46 (0 + dd_) (S_.1 1 0 9).toNat (2 * (S_.1 3 dd_ 1) + 2 * (S_.1 1 0 9) + 2)) 3 dd_ 5 (i_or (S_.1 3 dd_ 5) (i_shl ((i_shr (S_.2.2.1 81 0 sy_.toNat) j_) % 2) (S_.1 1 0 9)))) := idf_pI hDx16_ (Or.inr rfl)
      refine sm_T_go 5 (c1 := (151, [some (.inr (.inr (some (1, 0)))), some (.inl k_), some (.inl m_), some (.inl f_), some (.inl a_), some (.inl d_), some (.inl sy_), some (.inl j_), some (.inl (2 * (S_.1 3 dd_ 1) + 2 * (S_.1 1 0 9) + 2))], [.inl 1, .inl (S_.1 1 0 9), .inr (.inr (some (1, 0)))], sm_pI (sm_aI (sm_aI S_ 26 0 (vx10_ + j_).toNat (2 * (S_.1 3 dd_ 1) + 2 * (S_.1 1 0 9) + 2)) 46 (0 + dd_) (S_.1 1 0 9).toNat (2 * (S_.1 3 dd_ 1) + 2 * (S_.1 1 0 9) + 2)) 3 dd_ 5 (i_or (S_.1 3 dd_ 5) (i_shl ((i_shr (S_.2.2.1 81 0 sy_.toNat) j_) % 2) (S_.1 1 0 9))))) rfl ?_
      refine sm_T_bin (w := (S_.1 1 0 9) + 1) rfl (bi_add (by omega) (by omega) (by omega)) ?_
      have hIx24_ : gi (sm_pI (sm_pI (sm_aI (sm_aI S_ 26 0 (vx10_ + j_).toNat (2 * (S_.1 3 dd_ 1) + 2 * (S_.1 1 0 9) + 2)) 46 (0 + dd_) (S_.1 1 0 9).toNat (2 * (S_.1 3 dd_ 1) + 2 * (S_.1 1 0 9) + 2)) 3 dd_ 5 (i_or (S_.1 3 dd_ 5) (i_shl ((i_shr (S_.2.2.1 81 0 sy_.toNat) j_) % 2) (S_.1 1 0 9)))) 1 0 9 ((S_.1 1 0 9) + 1)) := gi_pI hIx21_ (show 0 ≤ (S_.1 1 0 9) + 1 ∧ (S_.1 1 0 9) + 1 ≤ 6 from ⟨by omega, by omega⟩)
      have hFx25_ : ai_fr (sx_W vw_38n) S0_ (sm_pI (sm_pI (sm_aI (sm_aI S_ 26 0 (vx10_ + j_).toNat (2 * (S_.1 3 dd_ 1) + 2 * (S_.1 1 0 9) + 2)) 46 (0 + dd_) (S_.1 1 0 9).toNat (2 * (S_.1 3 dd_ 1) + 2 * (S_.1 1 0 9) + 2)) 3 dd_ 5 (i_or (S_.1 3 dd_ 5) (i_shl ((i_shr (S_.2.2.1 81 0 sy_.toNat) j_) % 2) (S_.1 1 0 9)))) 1 0 9 ((S_.1 1 0 9) + 1)) := ai_fr_tr hFx22_ (ai_fr_pI rfl)
      have hDx26_ : idf dd_ S0_ (sm_pI (sm_pI (sm_aI (sm_aI S_ 26 0 (vx10_ + j_).toNat (2 * (S_.1 3 dd_ 1) + 2 * (S_.1 1 0 9) + 2)) 46 (0 + dd_) (S_.1 1 0 9).toNat (2 * (S_.1 3 dd_ 1) + 2 * (S_.1 1 0 9) + 2)) 3 dd_ 5 (i_or (S_.1 3 dd_ 5) (i_shl ((i_shr (S_.2.2.1 81 0 sy_.toNat) j_) % 2) (S_.1 1 0 9)))) 1 0 9 ((S_.1 1 0 9) + 1)) := idf_pI hDx23_ (Or.inl (by decide))
      refine sm_T_go 1 (c1 := (155, [some (.inr (.inr (some (1, 0)))), some (.inl k_), some (.inl m_), some (.inl f_), some (.inl a_), some (.inl d_), some (.inl sy_), some (.inl j_), some (.inl (2 * (S_.1 3 dd_ 1) + 2 * (S_.1 1 0 9) + 2))], [], sm_pI (sm_pI (sm_aI (sm_aI S_ 26 0 (vx10_ + j_).toNat (2 * (S_.1 3 dd_ 1) + 2 * (S_.1 1 0 9) + 2)) 46 (0 + dd_) (S_.1 1 0 9).toNat (2 * (S_.1 3 dd_ 1) + 2 * (S_.1 1 0 9) + 2)) 3 dd_ 5 (i_or (S_.1 3 dd_ 5) (i_shl ((i_shr (S_.2.2.1 81 0 sy_.toNat) j_) % 2) (S_.1 1 0 9)))) 1 0 9 ((S_.1 1 0 9) + 1))) rfl ?_
      refine sm_T_inc (a := 7) (z := 1) (v := j_) (w := j_ + 1) rfl rfl (by omega) (by omega) (by omega) ?_
      refine sm_T_go 1 (c1 := (50, [some (.inr (.inr (some (1, 0)))), some (.inl k_), some (.inl m_), some (.inl f_), some (.inl a_), some (.inl d_), some (.inl sy_), some (.inl (j_ + 1)), some (.inl (2 * (S_.1 3 dd_ 1) + 2 * (S_.1 1 0 9) + 2))], [], sm_pI (sm_pI (sm_aI (sm_aI S_ 26 0 (vx10_ + j_).toNat (2 * (S_.1 3 dd_ 1) + 2 * (S_.1 1 0 9) + 2)) 46 (0 + dd_) (S_.1 1 0 9).toNat (2 * (S_.1 3 dd_ 1) + 2 * (S_.1 1 0 9) + 2)) 3 dd_ 5 (i_or (S_.1 3 dd_ 5) (i_shl ((i_shr (S_.2.2.1 81 0 sy_.toNat) j_) % 2) (S_.1 1 0 9)))) 1 0 9 ((S_.1 1 0 9) + 1))) rfl ?_
      refine sm_T_wk [some (.inr (.inr (some (1, 0)))), some (.inl k_), some (.inl m_), some (.inl f_), some (.inl a_), some (.inl d_), some (.inl sy_), some (.inl (j_ + 1)), none] (by exact ⟨rfl, rfl, rfl, rfl, rfl, rfl, rfl, rfl, trivial⟩) ?_
      refine ih_ sy_ (j_ + 1) (sm_pI (sm_pI (sm_aI (sm_aI S_ 26 0 (vx10_ + j_).toNat (2 * (S_.1 3 dd_ 1) + 2 * (S_.1 1 0 9) + 2)) 46 (0 + dd_) (S_.1 1 0 9).toNat (2 * (S_.1 3 dd_ 1) + 2 * (S_.1 1 0 9) + 2)) 3 dd_ 5 (i_or (S_.1 3 dd_ 5) (i_shl ((i_shr (S_.2.2.1 81 0 sy_.toNat) j_) % 2) (S_.1 1 0 9)))) 1 0 9 ((S_.1 1 0 9) + 1)) hIx24_ hFx25_ ⟨?_, ?_, ?_, ?_, ?_, ?_, ?_, ?_, ?_, ?_, ?_, trivial⟩ ?_
      · exact hk_
      · omega
      · rw [show (j_ + 1).toNat = j_.toNat + 1 by omega, r_bt_s]
        refine rwv_ap (q_ := 8 * (40 * ff_ + aa_) + j_.toNat) h1_ (by rw [r_bt_l]) (fun j9_ => ?_)
        (try simp only [rd_eq, rd_ne, rf_eq, rf_nk, rf_nt, rd_fa, rd_af, rd_fl, rd_al, rd_lf, rd_la, rd_leq, rd_lne, rd_fr, rd_ar, ne_eq, Nat.reduceEqDiff, not_false_eq_true])
        rw [ec]
        by_cases q9_ : j9_ = 8 * (40 * ff_ + aa_) + j_.toNat
        · rw [if_pos q9_, if_pos q9_]; push_cast; omega
        · rw [if_neg q9_, if_neg q9_]
      · intro j9_ q_
        (try simp only [rd_eq, rd_ne, rf_eq, rf_nk, rf_nt, rd_fa, rd_af, rd_fl, rd_al, rd_lf, rd_la, rd_leq, rd_lne, rd_fr, rd_ar, ne_eq, Nat.reduceEqDiff, not_false_eq_true])
        rw [ec, if_neg (by omega)]
        exact h2_ j9_ q_
      · (try simp only [rd_eq, rd_ne, rf_eq, rf_nk, rf_nt, rd_fa, rd_af, rd_fl, rd_al, rd_lf, rd_la, rd_leq, rd_lne, rd_fr, rd_ar, ne_eq, Nat.reduceEqDiff, not_false_eq_true]); omega
      · (show S_.1 1 0 3 = _; exact h4_)
      · refine ⟨h5_.1, fun j9_ => ?_, fun j9_ => ?_, ?_⟩
        · (try simp only [rd_eq, rd_ne, rf_eq, rf_nk, rf_nt, rd_fa, rd_af, rd_fl, rd_al, rd_lf, rd_la, rd_leq, rd_lne, rd_fr, rd_ar, ne_eq, Nat.reduceEqDiff, not_false_eq_true]); exact h5_.2.1 j9_
        · (try simp only [rd_eq, rd_ne, rf_eq, rf_nk, rf_nt, rd_fa, rd_af, rd_fl, rd_al, rd_lf, rd_la, rd_leq, rd_lne, rd_fr, rd_ar, ne_eq, Nat.reduceEqDiff, not_false_eq_true]); exact h5_.2.2.1 j9_
        · (try simp only [rd_eq, rd_ne, rf_eq, rf_nk, rf_nt, rd_fa, rd_af, rd_fl, rd_al, rd_lf, rd_la, rd_leq, rd_lne, rd_fr, rd_ar, ne_eq, Nat.reduceEqDiff, not_false_eq_true]); exact h5d
      · exact cgl_fr (w_ := ([(1, 9), (3, 5)], [26, 46], [])) h6_ (ai_fr_tr (ai_fr_tr (ai_fr_tr (ai_fr_aI rfl) (ai_fr_aI rfl)) (ai_fr_pI rfl)) (ai_fr_pI rfl)) rfl rfl rfl rfl rfl rfl rfl rfl
      · refine ⟨?_, ?_⟩
        (try simp only [rd_eq, rd_ne, rf_eq, rf_nk, rf_nt, rd_fa, rd_af, rd_fl, rd_al, rd_lf, rd_la, rd_leq, rd_lne, rd_fr, rd_ar, ne_eq, Nat.reduceEqDiff, not_false_eq_true])
        rw [show (j_ + 1).toNat = j_.toNat + 1 by omega, ← Nat.add_assoc, show S_.1 1 0 9 = ((s_.1.2.1 + j_.toNat : Nat) : Int) by omega]
        exact bg_up h7_.1.1 h7_.1.2 (by omega) (by omega)
        intro k9_ hk9_
        have nn_ := cgl_n h6_ hok_
        have q7_ := h7_.2 k9_
        have rF_ : 1 + I_ + (s_.1.2.1 + (A_.2.2.2.1 (40 * mm_ + aa_)).toNat) ≤ F_ := by rw [er] at hRF_; exact hRF_
        (try simp only [rd_eq, rd_ne, rf_eq, rf_nk, rf_nt, rd_fa, rd_af, rd_fl, rd_al, rd_lf, rd_la, rd_leq, rd_lne, rd_fr, rd_ar, ne_eq, Nat.reduceEqDiff, not_false_eq_true])
        by_cases q9_ : k9_ = (S_.1 1 0 9).toNat
        · rw [if_pos q9_, nn_]; push_cast; omega
        · rw [if_neg q9_]; exact q7_ (by omega)
      · have r9_ : (S_.1 1 0 9) = ((s_.1.2.1 + j_.toNat : Nat) : Int) := by omega
        have d9_ := h8_.1
        refine ⟨?_, fun i9_ hi9_ => ?_⟩
        · rw [show (j_ + 1).toNat = j_.toNat + 1 by omega]; show _ = bho (A_.2.2.2.2 (40 * mm_ + aa_)) s_.1.2.1 (j_.toNat + 1) x0_.2; rw [bho_s, show ((j_.toNat : Nat) : Int) = j_ by omega]; have d8_ : S_.1 3 dd_ 5 = bho (A_.2.2.2.2 (40 * mm_ + aa_)) s_.1.2.1 j_.toNat x0_.2 := d9_; (try simp only [rd_eq, rd_ne, rf_eq, rf_nk, rf_nt, rd_fa, rd_af, rd_fl, rd_al, rd_lf, rd_la, rd_leq, rd_lne, rd_fr, rd_ar, ne_eq, Nat.reduceEqDiff, not_false_eq_true]); rw [r9_, w81_, d8_]
        · have q8_ := h8_.2 i9_; show _ = nho I_ s_.1.2.1 (j_ + 1).toNat x0_.1 i9_; rw [show (j_ + 1).toNat = j_.toNat + 1 by omega]; (try simp only [rd_eq, rd_ne, rf_eq, rf_nk, rf_nt, rd_fa, rd_af, rd_fl, rd_al, rd_lf, rd_la, rd_leq, rd_lne, rd_fr, rd_ar, ne_eq, Nat.reduceEqDiff, not_false_eq_true]); by_cases q9_ : i9_ = (S_.1 1 0 9).toNat; (rw [if_pos q9_]; unfold nho; rw [if_pos (by omega)]; push_cast; omega); (rw [if_neg q9_]; refine (q8_ (by omega)).trans ?_; show nho I_ s_.1.2.1 j_.toNat x0_.1 i9_ = _; unfold nho; by_cases q7_ : s_.1.2.1 ≤ i9_ ∧ i9_ < s_.1.2.1 + j_.toNat; (rw [if_pos q7_, if_pos (by omega)]); (rw [if_neg q7_, if_neg (by omega)]))
      · exact hDx26_
      · omega
set_option maxHeartbeats 2000000 in
set_option maxRecDepth 20000 in
theorem vc_38n {sc_ : Nat × (Nat → Int)} (k_ : Int) (m_ : Int) (f_ : Int) (a_ : Int) (d_ : Int) (tb_ : Nat → Int) (tn_ : Nat) (A_ : pA) (mm_ : Nat) (ff_ : Nat) (aa_ : Nat) (dd_ : Nat) (F_ : Nat) (I_ : Nat) (s_ : gS) (r_ : gS) (fc0_ : Nat) (x0_ : gN) (S0_ : sm_S) (hI_ : gi S0_) (hI0_ : gi S0_) (hd_ : S0_.2.1 1 0 1 = some dd_) (hk0_ : 12 ≤ k_ ∧ k_ ≤ 16) (hd0_ : 0 ≤ d_ ∧ d_ ≤ 1048576) (hm1_ : m_ = (mm_ : Int) ∧ mm_ ≤ 15) (hf1_ : f_ = (ff_ : Int)) (ha1_ : a_ = (aa_ : Int) ∧ aa_ ≤ 63) (her_ : ∀ k9_, k9_ ≤ mm_ → er1 tb_ tn_ A_ k9_ S0_) (hA_ : a_ok tb_ tn_ A_ mm_) (hx_ : cxs dd_ F_ I_ ff_ fc0_ s_ S0_) (hok_ : s_.1.1.length ≤ 1000) (he_ : e_st I_ A_ mm_ k_ aa_ d_ s_ = some r_) (hlw_ : lwS F_ s_) (hRF_ : 1 + I_ + r_.1.2.1 ≤ F_) (hn_ : cxn dd_ s_.1.2.1 x0_ S0_) : sm_T (mt_P sc_) 1 38 (0, [some (.inr (.inr (some (1, 0)))), some (.inl k_), some (.inl m_), some (.inl f_), some (.inl a_), some (.inl d_), none, none, none], [], S0_) (fun ro9_ => ∃ u_ S1_, ro9_ = (.inl u_, S1_, 0) ∧ vq_38n k_ m_ f_ a_ d_ tb_ tn_ A_ mm_ ff_ aa_ dd_ F_ I_ s_ r_ fc0_ x0_ S0_ u_ S1_) := by
  have hF_ : ai_fr (sx_W vw_38n) S0_ S0_ := ai_fr_rf
  have hD_ : idf dd_ S0_ S0_ := idf_rf
  obtain ⟨x1_, x2_, x3_, x4_, x5_, x6_, x7_, x8_, x9_⟩ := id hx_
  have x9a := x9_.1
  have cb_ := cgl_b x1_
  have c12_ : 0 ≤ S0_.1 3 dd_ 1 ∧ 0 ≤ S0_.1 3 dd_ 2 := ⟨(hI0_.1 3 dd_ 1 rfl).1, (hI0_.1 3 dd_ 2 rfl).1⟩
  have A40_ := (hA_.2 mm_ (Nat.le_refl _)).1
  have tp9_ := x8_.1
  have tq9_ : S0_.1 1 0 6 ≤ 512 := (hI0_.1 1 0 6 rfl).2
  refine sm_T_go 2 (c1 := (3, [some (.inr (.inr (some (1, 0)))), some (.inl k_), some (.inl m_), some (.inl f_), some (.inl a_), some (.inl d_), none, none, none], [.inl 40, .inl m_], S0_)) rfl ?_
  refine sm_T_bin (w := 40 * m_) rfl (bi_mul (by omega) (by omega) (by omega)) ?_
  refine sm_T_go 1 (c1 := (6, [some (.inr (.inr (some (1, 0)))), some (.inl k_), some (.inl m_), some (.inl f_), some (.inl a_), some (.inl d_), none, none, none], [.inl a_, .inl (40 * m_)], S0_)) rfl ?_
  refine sm_T_bin (w := 40 * m_ + a_) rfl (bi_add (by omega) (by omega) (by omega)) ?_
  refine sm_T_go 3 (c1 := (12, [some (.inr (.inr (some (1, 0)))), some (.inl k_), some (.inl m_), some (.inl f_), some (.inl a_), some (.inl d_), some (.inl (40 * m_ + a_)), none, none], [.inl 15, .inl k_], S0_)) rfl ?_
  refine sm_T_br (a := 1) (z := 29) rfl (fun cx1_ => ?_) (fun cx1_ => ?_)
  · have cx1_ : k_ ≠ 15 := of_decide_eq_true cx1_
    refine sm_T_go 2 (c1 := (44, [some (.inr (.inr (some (1, 0)))), some (.inl k_), some (.inl m_), some (.inl f_), some (.inl a_), some (.inl d_), some (.inl (40 * m_ + a_)), none, none], [.inl 13, .inl k_], S0_)) rfl ?_
    refine sm_T_br (a := 1) (z := 118) rfl (fun cx2_ => ?_) (fun cx2_ => ?_)
    · have cx2_ : k_ ≠ 13 := of_decide_eq_true cx2_
      obtain ⟨aM_, x_, l_, hsV_, hcs_⟩ := e_stp he_ (by omega) (by omega)
      rw [hsV_] at x8_
      have hxl_ : lwl (F_ + s_.1.1.length) x_ := by have q9_ := hlw_.2.2.2; rw [hsV_] at q9_; exact (lwV_c.mp q9_).1
      have x8b : x_.length ≤ 8 := x8_.2.2.1.2
      have tp_ : S0_.1 1 0 6 = (l_.length : Int) + 1 := by rw [x8_.1]; simp only [List.length_cons]; push_cast; omega
      have bx3_ : 0 ≤ S0_.1 1 0 6 ∧ S0_.1 1 0 6 ≤ 512 := hI_.1 1 0 6 rfl
      refine sm_T_go 4 (c1 := (168, [some (.inr (.inr (some (1, 0)))), some (.inl k_), some (.inl m_), some (.inl f_), some (.inl a_), some (.inl d_), some (.inl (40 * m_ + a_)), none, none], [.inl 1, .inl (S0_.1 1 0 6), .inr (.inr (some (1, 0)))], S0_)) rfl ?_
      refine sm_T_bin (w := (S0_.1 1 0 6) - 1) rfl (bi_sub (by omega) (by omega) (by omega)) ?_
      have hIx4_ : gi (sm_pI S0_ 1 0 6 ((S0_.1 1 0 6) - 1)) := gi_pI hI_ (show 0 ≤ (S0_.1 1 0 6) - 1 ∧ (S0_.1 1 0 6) - 1 ≤ 512 from ⟨by omega, by omega⟩)
      have hFx5_ : ai_fr (sx_W vw_38n) S0_ (sm_pI S0_ 1 0 6 ((S0_.1 1 0 6) - 1)) := ai_fr_tr hF_ (ai_fr_pI rfl)
      have hDx6_ : idf dd_ S0_ (sm_pI S0_ 1 0 6 ((S0_.1 1 0 6) - 1)) := idf_pI hD_ (Or.inl (by decide))
      refine sm_T_go 3 (c1 := (175, [some (.inr (.inr (some (1, 0)))), some (.inl k_), some (.inl m_), some (.inl f_), some (.inl a_), some (.inl d_), some (.inl (40 * m_ + a_)), none, none], [.inl 14, .inl k_], sm_pI S0_ 1 0 6 ((S0_.1 1 0 6) - 1))) rfl ?_
      refine sm_T_br (a := 1) (z := 63) rfl (fun cx7_ => ?_) (fun cx7_ => ?_)
      · have cx7_ : k_ ≠ 14 := of_decide_eq_true cx7_
        refine sm_T_go 2 (c1 := (241, [some (.inr (.inr (some (1, 0)))), some (.inl k_), some (.inl m_), some (.inl f_), some (.inl a_), some (.inl d_), some (.inl (40 * m_ + a_)), none, none], [.inl 12, .inl k_], sm_pI S0_ 1 0 6 ((S0_.1 1 0 6) - 1))) rfl ?_
        refine sm_T_br (a := 1) (z := 12) rfl (fun cx8_ => ?_) (fun cx8_ => ?_)
        · have cx8_ : k_ ≠ 12 := of_decide_eq_true cx8_
          obtain ⟨hk_, o_, hO_, d40_, xl_, er⟩ : k_ = 16 ∧ ∃ o_, s_.2.2.1 aa_ = some o_ ∧ (0 ≤ d_ ∧ d_ < 40) ∧ x_.length ≤ 8 ∧ r_ = (s_.1, s_.2.1, up1 s_.2.2.1 aa_ (some (up1 o_ d_.toNat x_)), l_) := by rcases hcs_ with q_ | q_ | q_; (exact absurd q_.1 (by omega)); (exact absurd q_.1 (by omega)); (exact q_)
          obtain ⟨xE_, P_, xP_⟩ := id x7_
          have yP_ := xP_ aa_ (by omega) o_ hO_
          have y2_ := yP_.2.1
          have pt_ : S0_.2.2.1 26 0 (8 * (40 * f_ + a_)).toNat = (P_ aa_ : Int) := by rw [show (8 * (40 * f_ + a_)).toNat = 8 * (40 * ff_ + aa_) by omega]; exact yP_.1
          refine sm_T_go 4 (c1 := (260, [some (.inr (.inr (some (1, 0)))), some (.inl k_), some (.inl m_), some (.inl f_), some (.inl a_), some (.inl d_), some (.inl (40 * m_ + a_)), none, none], [.inl a_, .inl f_, .inr (.inr (some (26, 0)))], sm_pI S0_ 1 0 6 ((S0_.1 1 0 6) - 1))) rfl ?_
          refine sm_T_cal (d1 := 0) (Q1 := vq_35 f_ a_ (sm_pI S0_ 1 0 6 ((S0_.1 1 0 6) - 1))) rfl rfl (by decide) (vc_35 f_ a_ (sm_pI S0_ 1 0 6 ((S0_.1 1 0 6) - 1)) hIx4_ (by omega) (by omega)) (fun u_ Sx9_ px12_ => ?_)
          obtain ⟨rfl, vx14_, rfl, px12_⟩ := px12_
          have e260_ := px12_
          have pt2_ : S0_.2.2.1 26 0 vx14_.toNat = (P_ aa_ : Int) := by rw [e260_]; exact pt_
          refine sm_T_iald (n := 64320) rfl rfl (by omega) (by omega) ?_
          have bx15_ : 0 ≤ S0_.2.2.1 26 0 vx14_.toNat ∧ S0_.2.2.1 26 0 vx14_.toNat ≤ 2025 := hI_.2 26 0 _
          refine sm_T_go 1 (c1 := (266, [some (.inr (.inr (some (1, 0)))), some (.inl k_), some (.inl m_), some (.inl f_), some (.inl a_), some (.inl d_), some (.inl (40 * m_ + a_)), none, none], [.inl d_, .inl (S0_.2.2.1 26 0 vx14_.toNat)], sm_pI S0_ 1 0 6 ((S0_.1 1 0 6) - 1))) rfl ?_
          refine sm_T_cal (d1 := 0) (Q1 := vq_35 (S0_.2.2.1 26 0 vx14_.toNat) d_ (sm_pI S0_ 1 0 6 ((S0_.1 1 0 6) - 1))) rfl rfl (by decide) (vc_35 (S0_.2.2.1 26 0 vx14_.toNat) d_ (sm_pI S0_ 1 0 6 ((S0_.1 1 0 6) - 1)) hIx4_ (by omega) (by omega)) (fun u_ Sx16_ px19_ => ?_)
          obtain ⟨rfl, vx21_, rfl, px19_⟩ := px19_
          have e266_ := px19_
          have ec : vx21_.toNat = 8 * (40 * P_ aa_ + d_.toNat) := by rw [e266_, pt2_]; omega
          refine sm_T_go 6 (c1 := (281, [some (.inr (.inr (some (1, 0)))), some (.inl k_), some (.inl m_), some (.inl f_), some (.inl a_), some (.inl d_), some (.inl (40 * m_ + a_)), some (.inl vx21_), none], [.inl 8, .inl ((S0_.1 1 0 6) - 1), .inr (.inr (some (27, 0)))], sm_pI S0_ 1 0 6 ((S0_.1 1 0 6) - 1))) rfl ?_
          refine sm_T_bin (w := 8 * (S0_.1 1 0 6) - 8) rfl (bi_mul (by omega) (by omega) (by omega)) ?_
          refine sm_T_go 4 (c1 := (290, [some (.inr (.inr (some (1, 0)))), some (.inl k_), some (.inl m_), some (.inl f_), some (.inl a_), some (.inl d_), some (.inl (40 * m_ + a_)), some (.inl vx21_), none], [.inl 8, .inl vx21_, .inr (.inr (some (26, 0))), .inl (8 * (S0_.1 1 0 6) - 8), .inr (.inr (some (27, 0)))], sm_pI S0_ 1 0 6 ((S0_.1 1 0 6) - 1))) rfl ?_
          refine sm_T_nt (u := none) (S1 := sm_acI (sm_pI S0_ 1 0 6 ((S0_.1 1 0 6) - 1)) 27 0 26 0 (8 * (S0_.1 1 0 6) - 8).toNat vx21_.toNat (8 : Int).toNat) rfl rfl (nt_acI (sc := sc_) (t := 27) (i := 0) (t' := 26) (i' := 0) (x := 8 * (S0_.1 1 0 6) - 8) (y := vx21_) (m := 8) (n := 4096) (n1 := 64320) rfl rfl (by omega) (by omega) (by omega) (by omega) (by omega)) ?_
          have hIx22_ : gi (sm_acI (sm_pI S0_ 1 0 6 ((S0_.1 1 0 6) - 1)) 27 0 26 0 (8 * (S0_.1 1 0 6) - 8).toNat vx21_.toNat (8 : Int).toNat) := gi_ac hIx4_ (by decide) (by decide)
          have hFx23_ : ai_fr (sx_W vw_38n) S0_ (sm_acI (sm_pI S0_ 1 0 6 ((S0_.1 1 0 6) - 1)) 27 0 26 0 (8 * (S0_.1 1 0 6) - 8).toNat vx21_.toNat (8 : Int).toNat) := ai_fr_tr hFx5_ (fr_ac rfl)
          have hDx24_ : idf dd_ S0_ (sm_acI (sm_pI S0_ 1 0 6 ((S0_.1 1 0 6) - 1)) 27 0 26 0 (8 * (S0_.1 1 0 6) - 8).toNat vx21_.toNat (8 : Int).toNat) := idf_ac hDx6_ (Or.inl (by decide))
          refine sm_T_rv rfl ⟨_, _, rfl, rfl, hIx22_, hFx23_, ?_⟩
          refine ⟨hDx24_, ?_⟩
          rw [er]
          first | (have f26_ : ((sm_acI (sm_pI S0_ 1 0 6 ((S0_.1 1 0 6) - 1)) 27 0 26 0 (8 * (S0_.1 1 0 6) - 8).toNat vx21_.toNat (8 : Int).toNat)).2.2.1 26 0 = sm_cp (S0_.2.2.1 27 0) (S0_.2.2.1 26 0) (8 * l_.length) (8 * (40 * ff_ + aa_)) 8 := (by rw [← ec, show 8 * l_.length = (8 * S0_.1 1 0 6 - 8).toNat by omega]; exact sm_acI_at); have hl1_ : rwv (S0_.2.2.1 27 0) (8 * l_.length) x_ := x8_.2.2.2.1 hok_; refine ⟨⟨cgl_fr (w_ := ([(1, 6)], [26], [])) x1_ (ai_fr_tr (ai_fr_pI rfl) (fr_ac rfl)) rfl rfl rfl rfl rfl rfl rfl rfl, x2_, x3_, x4_, x5_, x6_, cfr_st x7_ x5_ (by omega) hO_ xl_ (by rw [f26_]; exact rwv_cp hl1_ xl_) (fun j_ q1_ => by rw [f26_, sm_cp_o q1_]), ⟨by show S0_.1 1 0 6 - 1 = (l_.length : Int); omega, svl_pop x8_.2 (fun j_ => congrFun (sm_acI_ne (by omega)) j_) (fun j_ => congrFun (sm_acI_ne (by omega)) j_)⟩, cxe_fr (w_ := ([(1, 6)], [26], [])) x9_ (ai_fr_tr (ai_fr_pI rfl) (fr_ac rfl)) rfl rfl rfl rfl⟩, fun j_ q1_ q2_ => by rw [f26_, sm_cp_o (by omega)], by (rw [hk_, nst_o (by decide) (by decide)]; exact cxn_fr (w_ := ([(1, 6)], [26], [])) hn_ (ai_fr_tr (ai_fr_pI rfl) (fr_ac rfl)))⟩) | (have f26_ : ((sm_acI (sm_pI S0_ 1 0 6 ((S0_.1 1 0 6) - 1)) 27 0 26 0 (8 * (S0_.1 1 0 6) - 8).toNat vx21_.toNat (8 : Int).toNat)).2.2.1 26 0 = sm_cp (S0_.2.2.1 27 0) (S0_.2.2.1 26 0) (8 * l_.length) (8 * (40 * P_ aa_ + d_.toNat)) 8 := (by rw [← ec, show 8 * l_.length = (8 * S0_.1 1 0 6 - 8).toNat by omega]; exact sm_acI_at); have hl1_ : rwv (S0_.2.2.1 27 0) (8 * l_.length) x_ := x8_.2.2.2.1 hok_; refine ⟨⟨cgl_fr (w_ := ([(1, 6)], [26], [])) x1_ (ai_fr_tr (ai_fr_pI rfl) (fr_ac rfl)) rfl rfl rfl rfl rfl rfl rfl rfl, x2_, x3_, x4_, x5_, x6_, cfr_ag (p_ := P_ aa_) x7_ x5_ (by omega) hO_ (by omega) xl_ yP_.1 (by rw [f26_]; exact rwv_cp hl1_ xl_) (fun j_ q1_ => by rw [f26_, sm_cp_o q1_]), ⟨by show S0_.1 1 0 6 - 1 = (l_.length : Int); omega, svl_pop x8_.2 (fun j_ => congrFun (sm_acI_ne (by omega)) j_) (fun j_ => congrFun (sm_acI_ne (by omega)) j_)⟩, cxe_fr (w_ := ([(1, 6)], [26], [])) x9_ (ai_fr_tr (ai_fr_pI rfl) (fr_ac rfl)) rfl rfl rfl rfl⟩, fun j_ q1_ q2_ => by rw [f26_, sm_cp_o (by omega)], by (rw [hk_, nst_o (by decide) (by decide)]; exact cxn_fr (w_ := ([(1, 6)], [26], [])) hn_ (ai_fr_tr (ai_fr_pI rfl) (fr_ac rfl)))⟩) | (have f26_ : ∀ j_, ((sm_acI (sm_pI S0_ 1 0 6 ((S0_.1 1 0 6) - 1)) 27 0 26 0 (8 * (S0_.1 1 0 6) - 8).toNat vx21_.toNat (8 : Int).toNat)).2.2.1 26 0 j_ = S0_.2.2.1 26 0 j_ := (fun j_ => congrFun (sm_acI_ne (by omega)) j_); exact ⟨⟨cgl_fr (w_ := ([(1, 6)], [46], [])) x1_ (ai_fr_tr (ai_fr_pI rfl) (fr_ac rfl)) rfl rfl rfl rfl rfl rfl rfl rfl, x2_, x3_, x4_, x5_, x6_, cfr_cg x7_ f26_, ⟨by show S0_.1 1 0 6 - 1 = (l_.length : Int); omega, svl_pop x8_.2 (fun j_ => congrFun (sm_acI_ne (by omega)) j_) (fun j_ => congrFun (sm_acI_ne (by omega)) j_)⟩, ⟨x9_.1, x9_.2.1, nxb_cp x9_.2.2 rfl sm_acI_at (x_ := x_) (by rw [show (8 * S0_.1 1 0 6 - 8).toNat = 8 * l_.length by omega]; exact x8_.2.2.2.1 hok_) (by omega) (fun z9_ hz9_ => by have q9_ := hxl_ z9_ hz9_; unfold lz at q9_; rw [cgl_n x1_ hok_]; exact q9_)⟩⟩, fun j_ q1_ q2_ => f26_ j_, by (rw [hk_, nst_n hsV_ hz_]; exact cxn_cp hn_ rfl (by rw [fq9_]; exact sm_acI_at) (by rw [show (8 * S0_.1 1 0 6 - 8).toNat = 8 * l_.length by omega]; exact x8_.2.2.2.1 hok_) (by omega))⟩)
        · have cx8_ : ¬ (k_ ≠ 12) := of_decide_eq_false cx8_
          have hk_ : k_ = 12 := by omega
          obtain ⟨hO_, xl_, er⟩ : s_.2.2.1 aa_ = none ∧ x_.length ≤ 8 ∧ r_ = (s_.1, up1 s_.2.1 aa_ x_, s_.2.2.1, l_) := by rcases hcs_ with q_ | q_ | q_; (exact q_.2); (exact absurd q_.1 (by omega)); (exact absurd q_.1 (by omega))
          refine sm_T_go 2 (c1 := (247, [some (.inr (.inr (some (1, 0)))), some (.inl k_), some (.inl m_), some (.inl f_), some (.inl a_), some (.inl d_), some (.inl (40 * m_ + a_)), none, none], [.inl a_, .inl f_], sm_pI S0_ 1 0 6 ((S0_.1 1 0 6) - 1))) rfl ?_
          refine sm_T_cal (d1 := 0) (Q1 := vq_35 f_ a_ (sm_pI S0_ 1 0 6 ((S0_.1 1 0 6) - 1))) rfl rfl (by decide) (vc_35 f_ a_ (sm_pI S0_ 1 0 6 ((S0_.1 1 0 6) - 1)) hIx4_ (by omega) (by omega)) (fun u_ Sx25_ px28_ => ?_)
          obtain ⟨rfl, vx30_, rfl, px28_⟩ := px28_
          have e247_ := px28_
          have ec : vx30_.toNat = 8 * (40 * ff_ + aa_) := by omega
          refine sm_T_go 7 (c1 := (281, [some (.inr (.inr (some (1, 0)))), some (.inl k_), some (.inl m_), some (.inl f_), some (.inl a_), some (.inl d_), some (.inl (40 * m_ + a_)), some (.inl vx30_), none], [.inl 8, .inl ((S0_.1 1 0 6) - 1), .inr (.inr (some (27, 0)))], sm_pI S0_ 1 0 6 ((S0_.1 1 0 6) - 1))) rfl ?_
          refine sm_T_bin (w := 8 * (S0_.1 1 0 6) - 8) rfl (bi_mul (by omega) (by omega) (by omega)) ?_
          refine sm_T_go 4 (c1 := (290, [some (.inr (.inr (some (1, 0)))), some (.inl k_), some (.inl m_), some (.inl f_), some (.inl a_), some (.inl d_), some (.inl (40 * m_ + a_)), some (.inl vx30_), none], [.inl 8, .inl vx30_, .inr (.inr (some (26, 0))), .inl (8 * (S0_.1 1 0 6) - 8), .inr (.inr (some (27, 0)))], sm_pI S0_ 1 0 6 ((S0_.1 1 0 6) - 1))) rfl ?_
          refine sm_T_nt (u := none) (S1 := sm_acI (sm_pI S0_ 1 0 6 ((S0_.1 1 0 6) - 1)) 27 0 26 0 (8 * (S0_.1 1 0 6) - 8).toNat vx30_.toNat (8 : Int).toNat) rfl rfl (nt_acI (sc := sc_) (t := 27) (i := 0) (t' := 26) (i' := 0) (x := 8 * (S0_.1 1 0 6) - 8) (y := vx30_) (m := 8) (n := 4096) (n1 := 64320) rfl rfl (by omega) (by omega) (by omega) (by omega) (by omega)) ?_
          have hIx31_ : gi (sm_acI (sm_pI S0_ 1 0 6 ((S0_.1 1 0 6) - 1)) 27 0 26 0 (8 * (S0_.1 1 0 6) - 8).toNat vx30_.toNat (8 : Int).toNat) := gi_ac hIx4_ (by decide) (by decide)
          have hFx32_ : ai_fr (sx_W vw_38n) S0_ (sm_acI (sm_pI S0_ 1 0 6 ((S0_.1 1 0 6) - 1)) 27 0 26 0 (8 * (S0_.1 1 0 6) - 8).toNat vx30_.toNat (8 : Int).toNat) := ai_fr_tr hFx5_ (fr_ac rfl)
          have hDx33_ : idf dd_ S0_ (sm_acI (sm_pI S0_ 1 0 6 ((S0_.1 1 0 6) - 1)) 27 0 26 0 (8 * (S0_.1 1 0 6) - 8).toNat vx30_.toNat (8 : Int).toNat) := idf_ac hDx6_ (Or.inl (by decide))
          refine sm_T_rv rfl ⟨_, _, rfl, rfl, hIx31_, hFx32_, ?_⟩
          refine ⟨hDx33_, ?_⟩
          rw [er]
          first | (have f26_ : ((sm_acI (sm_pI S0_ 1 0 6 ((S0_.1 1 0 6) - 1)) 27 0 26 0 (8 * (S0_.1 1 0 6) - 8).toNat vx30_.toNat (8 : Int).toNat)).2.2.1 26 0 = sm_cp (S0_.2.2.1 27 0) (S0_.2.2.1 26 0) (8 * l_.length) (8 * (40 * ff_ + aa_)) 8 := (by rw [← ec, show 8 * l_.length = (8 * S0_.1 1 0 6 - 8).toNat by omega]; exact sm_acI_at); have hl1_ : rwv (S0_.2.2.1 27 0) (8 * l_.length) x_ := x8_.2.2.2.1 hok_; refine ⟨⟨cgl_fr (w_ := ([(1, 6)], [26], [])) x1_ (ai_fr_tr (ai_fr_pI rfl) (fr_ac rfl)) rfl rfl rfl rfl rfl rfl rfl rfl, x2_, x3_, x4_, x5_, x6_, cfr_st x7_ x5_ (by omega) hO_ xl_ (by rw [f26_]; exact rwv_cp hl1_ xl_) (fun j_ q1_ => by rw [f26_, sm_cp_o q1_]), ⟨by show S0_.1 1 0 6 - 1 = (l_.length : Int); omega, svl_pop x8_.2 (fun j_ => congrFun (sm_acI_ne (by omega)) j_) (fun j_ => congrFun (sm_acI_ne (by omega)) j_)⟩, cxe_fr (w_ := ([(1, 6)], [26], [])) x9_ (ai_fr_tr (ai_fr_pI rfl) (fr_ac rfl)) rfl rfl rfl rfl⟩, fun j_ q1_ q2_ => by rw [f26_, sm_cp_o (by omega)], by (rw [hk_, nst_o (by decide) (by decide)]; exact cxn_fr (w_ := ([(1, 6)], [26], [])) hn_ (ai_fr_tr (ai_fr_pI rfl) (fr_ac rfl)))⟩) | (have f26_ : ((sm_acI (sm_pI S0_ 1 0 6 ((S0_.1 1 0 6) - 1)) 27 0 26 0 (8 * (S0_.1 1 0 6) - 8).toNat vx30_.toNat (8 : Int).toNat)).2.2.1 26 0 = sm_cp (S0_.2.2.1 27 0) (S0_.2.2.1 26 0) (8 * l_.length) (8 * (40 * P_ aa_ + d_.toNat)) 8 := (by rw [← ec, show 8 * l_.length = (8 * S0_.1 1 0 6 - 8).toNat by omega]; exact sm_acI_at); have hl1_ : rwv (S0_.2.2.1 27 0) (8 * l_.length) x_ := x8_.2.2.2.1 hok_; refine ⟨⟨cgl_fr (w_ := ([(1, 6)], [26], [])) x1_ (ai_fr_tr (ai_fr_pI rfl) (fr_ac rfl)) rfl rfl rfl rfl rfl rfl rfl rfl, x2_, x3_, x4_, x5_, x6_, cfr_ag (p_ := P_ aa_) x7_ x5_ (by omega) hO_ (by omega) xl_ yP_.1 (by rw [f26_]; exact rwv_cp hl1_ xl_) (fun j_ q1_ => by rw [f26_, sm_cp_o q1_]), ⟨by show S0_.1 1 0 6 - 1 = (l_.length : Int); omega, svl_pop x8_.2 (fun j_ => congrFun (sm_acI_ne (by omega)) j_) (fun j_ => congrFun (sm_acI_ne (by omega)) j_)⟩, cxe_fr (w_ := ([(1, 6)], [26], [])) x9_ (ai_fr_tr (ai_fr_pI rfl) (fr_ac rfl)) rfl rfl rfl rfl⟩, fun j_ q1_ q2_ => by rw [f26_, sm_cp_o (by omega)], by (rw [hk_, nst_o (by decide) (by decide)]; exact cxn_fr (w_ := ([(1, 6)], [26], [])) hn_ (ai_fr_tr (ai_fr_pI rfl) (fr_ac rfl)))⟩) | (have f26_ : ∀ j_, ((sm_acI (sm_pI S0_ 1 0 6 ((S0_.1 1 0 6) - 1)) 27 0 26 0 (8 * (S0_.1 1 0 6) - 8).toNat vx30_.toNat (8 : Int).toNat)).2.2.1 26 0 j_ = S0_.2.2.1 26 0 j_ := (fun j_ => congrFun (sm_acI_ne (by omega)) j_); exact ⟨⟨cgl_fr (w_ := ([(1, 6)], [46], [])) x1_ (ai_fr_tr (ai_fr_pI rfl) (fr_ac rfl)) rfl rfl rfl rfl rfl rfl rfl rfl, x2_, x3_, x4_, x5_, x6_, cfr_cg x7_ f26_, ⟨by show S0_.1 1 0 6 - 1 = (l_.length : Int); omega, svl_pop x8_.2 (fun j_ => congrFun (sm_acI_ne (by omega)) j_) (fun j_ => congrFun (sm_acI_ne (by omega)) j_)⟩, ⟨x9_.1, x9_.2.1, nxb_cp x9_.2.2 rfl sm_acI_at (x_ := x_) (by rw [show (8 * S0_.1 1 0 6 - 8).toNat = 8 * l_.length by omega]; exact x8_.2.2.2.1 hok_) (by omega) (fun z9_ hz9_ => by have q9_ := hxl_ z9_ hz9_; unfold lz at q9_; rw [cgl_n x1_ hok_]; exact q9_)⟩⟩, fun j_ q1_ q2_ => f26_ j_, by (rw [hk_, nst_n hsV_ hz_]; exact cxn_cp hn_ rfl (by rw [fq9_]; exact sm_acI_at) (by rw [show (8 * S0_.1 1 0 6 - 8).toNat = 8 * l_.length by omega]; exact x8_.2.2.2.1 hok_) (by omega))⟩)
      · have cx7_ : ¬ (k_ ≠ 14) := of_decide_eq_false cx7_
        have hk_ : k_ = 14 := by omega
        obtain ⟨z_, y_, hz_, z1_, z2_, er⟩ : ∃ z_ y_, s_.2.1 aa_ = z_ :: y_ ∧ 2 * (1 + (I_ : Int)) ≤ z_ ∧ z_ / 2 - 1 - I_ + x_.length ≤ 6 ∧ r_ = (s_.1, s_.2.1, s_.2.2.1, l_) := by rcases hcs_ with q_ | q_ | q_; (exact absurd q_.1 (by omega)); (exact q_.2); (exact absurd q_.1 (by omega))
        have pz_ : S0_.2.2.1 26 0 (8 * (40 * f_ + a_)).toNat = z_ := by rw [show (8 * (40 * f_ + a_)).toNat = 8 * (40 * ff_ + aa_) + 0 by omega]; exact (x7_.1 aa_ (by omega)).1 0 z_ (by rw [hz_]; rfl)
        have wt : S0_.2.2.1 28 0 (S0_.1 1 0 6 - 1).toNat = (x_.length : Int) := by rw [show (S0_.1 1 0 6 - 1).toNat = l_.length by omega]; exact x8_.2.1
        refine sm_T_go 4 (c1 := (185, [some (.inr (.inr (some (1, 0)))), some (.inl k_), some (.inl m_), some (.inl f_), some (.inl a_), some (.inl d_), some (.inl (40 * m_ + a_)), none, none], [.inl a_, .inl f_, .inr (.inr (some (26, 0)))], sm_pI S0_ 1 0 6 ((S0_.1 1 0 6) - 1))) rfl ?_
        refine sm_T_cal (d1 := 0) (Q1 := vq_35 f_ a_ (sm_pI S0_ 1 0 6 ((S0_.1 1 0 6) - 1))) rfl rfl (by decide) (vc_35 f_ a_ (sm_pI S0_ 1 0 6 ((S0_.1 1 0 6) - 1)) hIx4_ (by omega) (by omega)) (fun u_ Sx34_ px37_ => ?_)
        obtain ⟨rfl, vx39_, rfl, px37_⟩ := px37_
        have e185_ := px37_
        have pz2_ : S0_.2.2.1 26 0 vx39_.toNat = z_ := by rw [e185_]; exact pz_
        have fq9_ : (z_ / 2 - 1 - I_).toNat = (S0_.2.2.1 26 0 vx39_.toNat / 2 - S0_.1 3 dd_ 1 - 1).toNat := by rw [pz2_]; omega
        refine sm_T_iald (n := 64320) rfl rfl (by omega) (by omega) ?_
        have bx40_ : 0 ≤ S0_.2.2.1 26 0 vx39_.toNat ∧ S0_.2.2.1 26 0 vx39_.toNat ≤ 2025 := hI_.2 26 0 _
        refine sm_T_go 1 (c1 := (190, [some (.inr (.inr (some (1, 0)))), some (.inl k_), some (.inl m_), some (.inl f_), some (.inl a_), some (.inl d_), some (.inl (40 * m_ + a_)), none, none], [.inl 1, .inl (S0_.2.2.1 26 0 vx39_.toNat)], sm_pI S0_ 1 0 6 ((S0_.1 1 0 6) - 1))) rfl ?_
        refine sm_T_bin (w := ((S0_.2.2.1 26 0 vx39_.toNat) / 2)) rfl (bi_shr (k := 1) (by decide) (by omega) (by omega)) ?_
        refine sm_T_go 1 (c1 := (192, [some (.inr (.inr (some (1, 0)))), some (.inl k_), some (.inl m_), some (.inl f_), some (.inl a_), some (.inl d_), some (.inl (40 * m_ + a_)), none, none], [.inl 1, .inl ((S0_.2.2.1 26 0 vx39_.toNat) / 2)], sm_pI S0_ 1 0 6 ((S0_.1 1 0 6) - 1))) rfl ?_
        refine sm_T_bin (w := ((S0_.2.2.1 26 0 vx39_.toNat) / 2) - 1) rfl (bi_sub (by omega) (by omega) (by omega)) ?_
        refine sm_T_go 1 (c1 := (194, [some (.inr (.inr (some (1, 0)))), some (.inl k_), some (.inl m_), some (.inl f_), some (.inl a_), some (.inl d_), some (.inl (40 * m_ + a_)), none, none], [.inr (.inr (some (1, 0))), .inl (((S0_.2.2.1 26 0 vx39_.toNat) / 2) - 1)], sm_pI S0_ 1 0 6 ((S0_.1 1 0 6) - 1))) rfl ?_
        refine sm_T_gr rfl rfl ((hFx5_.2.1 1 0 1 rfl).trans hd_) ?_
        have bx41_ : 0 ≤ S0_.1 3 dd_ 1 ∧ S0_.1 3 dd_ 1 ≤ 320 := hI_.1 3 dd_ 1 rfl
        refine sm_T_go 1 (c1 := (200, [some (.inr (.inr (some (1, 0)))), some (.inl k_), some (.inl m_), some (.inl f_), some (.inl a_), some (.inl d_), some (.inl (40 * m_ + a_)), none, none], [.inl (S0_.1 3 dd_ 1), .inl (((S0_.2.2.1 26 0 vx39_.toNat) / 2) - 1)], sm_pI S0_ 1 0 6 ((S0_.1 1 0 6) - 1))) rfl ?_
        refine sm_T_bin (w := ((S0_.2.2.1 26 0 vx39_.toNat) / 2) - (S0_.1 3 dd_ 1) - 1) rfl (bi_sub (by omega) (by omega) (by omega)) ?_
        refine sm_T_go 6 (c1 := (213, [some (.inr (.inr (some (1, 0)))), some (.inl k_), some (.inl m_), some (.inl f_), some (.inl a_), some (.inl d_), some (.inl (40 * m_ + a_)), some (.inl (((S0_.2.2.1 26 0 vx39_.toNat) / 2) - (S0_.1 3 dd_ 1) - 1)), none], [.inl 8, .inl ((S0_.1 1 0 6) - 1), .inr (.inr (some (27, 0)))], sm_pI S0_ 1 0 6 ((S0_.1 1 0 6) - 1))) rfl ?_
        refine sm_T_bin (w := 8 * (S0_.1 1 0 6) - 8) rfl (bi_mul (by omega) (by omega) (by omega)) ?_
        refine sm_T_go 1 (c1 := (215, [some (.inr (.inr (some (1, 0)))), some (.inl k_), some (.inl m_), some (.inl f_), some (.inl a_), some (.inl d_), some (.inl (40 * m_ + a_)), some (.inl (((S0_.2.2.1 26 0 vx39_.toNat) / 2) - (S0_.1 3 dd_ 1) - 1)), none], [.inr (.inr (some (1, 0))), .inl (8 * (S0_.1 1 0 6) - 8), .inr (.inr (some (27, 0)))], sm_pI S0_ 1 0 6 ((S0_.1 1 0 6) - 1))) rfl ?_
        refine sm_T_gr rfl rfl ((hFx5_.2.1 1 0 1 rfl).trans hd_) ?_
        refine sm_T_go 6 (c1 := (231, [some (.inr (.inr (some (1, 0)))), some (.inl k_), some (.inl m_), some (.inl f_), some (.inl a_), some (.inl d_), some (.inl (40 * m_ + a_)), some (.inl (((S0_.2.2.1 26 0 vx39_.toNat) / 2) - (S0_.1 3 dd_ 1) - 1)), none], [.inl ((S0_.1 1 0 6) - 1), .inr (.inr (some (28, 0))), .inl (((S0_.2.2.1 26 0 vx39_.toNat) / 2) - (S0_.1 3 dd_ 1) - 1), .inr (.inr (some (46, (0 + dd_)))), .inl (8 * (S0_.1 1 0 6) - 8), .inr (.inr (some (27, 0)))], sm_pI S0_ 1 0 6 ((S0_.1 1 0 6) - 1))) rfl ?_
        refine sm_T_iald (n := 512) rfl rfl (by omega) (by omega) ?_
        have bx42_ : 0 ≤ S0_.2.2.1 28 0 ((S0_.1 1 0 6) - 1).toNat ∧ S0_.2.2.1 28 0 ((S0_.1 1 0 6) - 1).toNat ≤ 8 := hI_.2 28 0 _
        refine sm_T_go 0 (c1 := (232, [some (.inr (.inr (some (1, 0)))), some (.inl k_), some (.inl m_), some (.inl f_), some (.inl a_), some (.inl d_), some (.inl (40 * m_ + a_)), some (.inl (((S0_.2.2.1 26 0 vx39_.toNat) / 2) - (S0_.1 3 dd_ 1) - 1)), none], [.inl (S0_.2.2.1 28 0 ((S0_.1 1 0 6) - 1).toNat), .inl (((S0_.2.2.1 26 0 vx39_.toNat) / 2) - (S0_.1 3 dd_ 1) - 1), .inr (.inr (some (46, (0 + dd_)))), .inl (8 * (S0_.1 1 0 6) - 8), .inr (.inr (some (27, 0)))], sm_pI S0_ 1 0 6 ((S0_.1 1 0 6) - 1))) rfl ?_
        refine sm_T_nt (u := none) (S1 := sm_acI (sm_pI S0_ 1 0 6 ((S0_.1 1 0 6) - 1)) 27 0 46 (0 + dd_) (8 * (S0_.1 1 0 6) - 8).toNat (((S0_.2.2.1 26 0 vx39_.toNat) / 2) - (S0_.1 3 dd_ 1) - 1).toNat (S0_.2.2.1 28 0 ((S0_.1 1 0 6) - 1).toNat).toNat) rfl rfl (nt_acI (sc := sc_) (t := 27) (i := 0) (t' := 46) (i' := (0 + dd_)) (x := 8 * (S0_.1 1 0 6) - 8) (y := ((S0_.2.2.1 26 0 vx39_.toNat) / 2) - (S0_.1 3 dd_ 1) - 1) (m := (S0_.2.2.1 28 0 ((S0_.1 1 0 6) - 1).toNat)) (n := 4096) (n1 := 6) rfl rfl (by omega) (by omega) (by omega) (by omega) (by omega)) ?_
        have hIx43_ : gi (sm_acI (sm_pI S0_ 1 0 6 ((S0_.1 1 0 6) - 1)) 27 0 46 (0 + dd_) (8 * (S0_.1 1 0 6) - 8).toNat (((S0_.2.2.1 26 0 vx39_.toNat) / 2) - (S0_.1 3 dd_ 1) - 1).toNat (S0_.2.2.1 28 0 ((S0_.1 1 0 6) - 1).toNat).toNat) := gi_ac hIx4_ (by decide) (by decide)
        have hFx44_ : ai_fr (sx_W vw_38n) S0_ (sm_acI (sm_pI S0_ 1 0 6 ((S0_.1 1 0 6) - 1)) 27 0 46 (0 + dd_) (8 * (S0_.1 1 0 6) - 8).toNat (((S0_.2.2.1 26 0 vx39_.toNat) / 2) - (S0_.1 3 dd_ 1) - 1).toNat (S0_.2.2.1 28 0 ((S0_.1 1 0 6) - 1).toNat).toNat) := ai_fr_tr hFx5_ (fr_ac rfl)
        have hDx45_ : idf dd_ S0_ (sm_acI (sm_pI S0_ 1 0 6 ((S0_.1 1 0 6) - 1)) 27 0 46 (0 + dd_) (8 * (S0_.1 1 0 6) - 8).toNat (((S0_.2.2.1 26 0 vx39_.toNat) / 2) - (S0_.1 3 dd_ 1) - 1).toNat (S0_.2.2.1 28 0 ((S0_.1 1 0 6) - 1).toNat).toNat) := idf_ac hDx6_ (Or.inr rfl)
        refine sm_T_go 1 (c1 := (293, [some (.inr (.inr (some (1, 0)))), some (.inl k_), some (.inl m_), some (.inl f_), some (.inl a_), some (.inl d_), some (.inl (40 * m_ + a_)), some (.inl (((S0_.2.2.1 26 0 vx39_.toNat) / 2) - (S0_.1 3 dd_ 1) - 1)), none], [], sm_acI (sm_pI S0_ 1 0 6 ((S0_.1 1 0 6) - 1)) 27 0 46 (0 + dd_) (8 * (S0_.1 1 0 6) - 8).toNat (((S0_.2.2.1 26 0 vx39_.toNat) / 2) - (S0_.1 3 dd_ 1) - 1).toNat (S0_.2.2.1 28 0 ((S0_.1 1 0 6) - 1).toNat).toNat)) rfl ?_
        refine sm_T_rv rfl ⟨_, _, rfl, rfl, hIx43_, hFx44_, ?_⟩
        refine ⟨hDx45_, ?_⟩
        rw [er]
        first | (have f26_ : ((sm_acI (sm_pI S0_ 1 0 6 ((S0_.1 1 0 6) - 1)) 27 0 46 (0 + dd_) (8 * (S0_.1 1 0 6) - 8).toNat (((S0_.2.2.1 26 0 vx39_.toNat) / 2) - (S0_.1 3 dd_ 1) - 1).toNat (S0_.2.2.1 28 0 ((S0_.1 1 0 6) - 1).toNat).toNat)).2.2.1 26 0 = sm_cp (S0_.2.2.1 27 0) (S0_.2.2.1 26 0) (8 * l_.length) (8 * (40 * ff_ + aa_)) 8 := (by rw [← ec, show 8 * l_.length = (8 * S0_.1 1 0 6 - 8).toNat by omega]; exact sm_acI_at); have hl1_ : rwv (S0_.2.2.1 27 0) (8 * l_.length) x_ := x8_.2.2.2.1 hok_; refine ⟨⟨cgl_fr (w_ := ([(1, 6)], [26], [])) x1_ (ai_fr_tr (ai_fr_pI rfl) (fr_ac rfl)) rfl rfl rfl rfl rfl rfl rfl rfl, x2_, x3_, x4_, x5_, x6_, cfr_st x7_ x5_ (by omega) hO_ xl_ (by rw [f26_]; exact rwv_cp hl1_ xl_) (fun j_ q1_ => by rw [f26_, sm_cp_o q1_]), ⟨by show S0_.1 1 0 6 - 1 = (l_.length : Int); omega, svl_pop x8_.2 (fun j_ => congrFun (sm_acI_ne (by omega)) j_) (fun j_ => congrFun (sm_acI_ne (by omega)) j_)⟩, cxe_fr (w_ := ([(1, 6)], [26], [])) x9_ (ai_fr_tr (ai_fr_pI rfl) (fr_ac rfl)) rfl rfl rfl rfl⟩, fun j_ q1_ q2_ => by rw [f26_, sm_cp_o (by omega)], by (rw [hk_, nst_o (by decide) (by decide)]; exact cxn_fr (w_ := ([(1, 6)], [26], [])) hn_ (ai_fr_tr (ai_fr_pI rfl) (fr_ac rfl)))⟩) | (have f26_ : ((sm_acI (sm_pI S0_ 1 0 6 ((S0_.1 1 0 6) - 1)) 27 0 46 (0 + dd_) (8 * (S0_.1 1 0 6) - 8).toNat (((S0_.2.2.1 26 0 vx39_.toNat) / 2) - (S0_.1 3 dd_ 1) - 1).toNat (S0_.2.2.1 28 0 ((S0_.1 1 0 6) - 1).toNat).toNat)).2.2.1 26 0 = sm_cp (S0_.2.2.1 27 0) (S0_.2.2.1 26 0) (8 * l_.length) (8 * (40 * P_ aa_ + d_.toNat)) 8 := (by rw [← ec, show 8 * l_.length = (8 * S0_.1 1 0 6 - 8).toNat by omega]; exact sm_acI_at); have hl1_ : rwv (S0_.2.2.1 27 0) (8 * l_.length) x_ := x8_.2.2.2.1 hok_; refine ⟨⟨cgl_fr (w_ := ([(1, 6)], [26], [])) x1_ (ai_fr_tr (ai_fr_pI rfl) (fr_ac rfl)) rfl rfl rfl rfl rfl rfl rfl rfl, x2_, x3_, x4_, x5_, x6_, cfr_ag (p_ := P_ aa_) x7_ x5_ (by omega) hO_ (by omega) xl_ yP_.1 (by rw [f26_]; exact rwv_cp hl1_ xl_) (fun j_ q1_ => by rw [f26_, sm_cp_o q1_]), ⟨by show S0_.1 1 0 6 - 1 = (l_.length : Int); omega, svl_pop x8_.2 (fun j_ => congrFun (sm_acI_ne (by omega)) j_) (fun j_ => congrFun (sm_acI_ne (by omega)) j_)⟩, cxe_fr (w_ := ([(1, 6)], [26], [])) x9_ (ai_fr_tr (ai_fr_pI rfl) (fr_ac rfl)) rfl rfl rfl rfl⟩, fun j_ q1_ q2_ => by rw [f26_, sm_cp_o (by omega)], by (rw [hk_, nst_o (by decide) (by decide)]; exact cxn_fr (w_ := ([(1, 6)], [26], [])) hn_ (ai_fr_tr (ai_fr_pI rfl) (fr_ac rfl)))⟩) | (have f26_ : ∀ j_, ((sm_acI (sm_pI S0_ 1 0 6 ((S0_.1 1 0 6) - 1)) 27 0 46 (0 + dd_) (8 * (S0_.1 1 0 6) - 8).toNat (((S0_.2.2.1 26 0 vx39_.toNat) / 2) - (S0_.1 3 dd_ 1) - 1).toNat (S0_.2.2.1 28 0 ((S0_.1 1 0 6) - 1).toNat).toNat)).2.2.1 26 0 j_ = S0_.2.2.1 26 0 j_ := (fun j_ => congrFun (sm_acI_ne (by omega)) j_); exact ⟨⟨cgl_fr (w_ := ([(1, 6)], [46], [])) x1_ (ai_fr_tr (ai_fr_pI rfl) (fr_ac rfl)) rfl rfl rfl rfl rfl rfl rfl rfl, x2_, x3_, x4_, x5_, x6_, cfr_cg x7_ f26_, ⟨by show S0_.1 1 0 6 - 1 = (l_.length : Int); omega, svl_pop x8_.2 (fun j_ => congrFun (sm_acI_ne (by omega)) j_) (fun j_ => congrFun (sm_acI_ne (by omega)) j_)⟩, ⟨x9_.1, x9_.2.1, nxb_cp x9_.2.2 rfl sm_acI_at (x_ := x_) (by rw [show (8 * S0_.1 1 0 6 - 8).toNat = 8 * l_.length by omega]; exact x8_.2.2.2.1 hok_) (by omega) (fun z9_ hz9_ => by have q9_ := hxl_ z9_ hz9_; unfold lz at q9_; rw [cgl_n x1_ hok_]; exact q9_)⟩⟩, fun j_ q1_ q2_ => f26_ j_, by (rw [hk_, nst_n hsV_ hz_]; exact cxn_cp hn_ rfl (by rw [fq9_]; exact sm_acI_at) (by rw [show (8 * S0_.1 1 0 6 - 8).toNat = 8 * l_.length by omega]; exact x8_.2.2.2.1 hok_) (by omega))⟩)
    · have cx2_ : ¬ (k_ ≠ 13) := of_decide_eq_false cx2_
      have hk_ : k_ = 13 := by omega
      obtain ⟨aM_, hO_, w1_, w8_, r6_, er⟩ := e_st13 (show e_st I_ A_ mm_ 13 aa_ d_ s_ = some r_ by rw [← hk_]; exact he_)
      refine sm_T_go 2 (c1 := (50, [some (.inr (.inr (some (1, 0)))), some (.inl k_), some (.inl m_), some (.inl f_), some (.inl a_), some (.inl d_), some (.inl (40 * m_ + a_)), some (.inl 0), none], [], S0_)) rfl ?_
      refine (vl_38n k_ m_ f_ a_ d_ tb_ tn_ A_ mm_ ff_ aa_ dd_ F_ I_ s_ r_ fc0_ x0_ S0_ hI0_ hd_ hk0_ hd0_ hm1_ hf1_ ha1_ her_ hA_ hx_ hok_ he_ hlw_ hRF_ hn_ _) (40 * m_ + a_) 0 S0_ hI_ hF_ ⟨?_, ?_, ?_, ?_, ?_, ?_, ?_, ?_, ?_, ?_, ?_, trivial⟩ (Nat.lt_succ_self _)
      · exact hk_
      · omega
      · (intro k9_ z9_ e9_; simp [r_bt] at e9_)
      · (intro j9_ q_; rfl)
      · omega
      · exact x3_
      · exact ⟨rfl, fun j9_ => rfl, fun j9_ => rfl, x9_.1⟩
      · exact x1_
      · exact x9_.2
      · refine ⟨hn_.1, fun i9_ hi9_ => ?_⟩
        show S0_.2.2.1 46 (0 + dd_) i9_ = nho I_ s_.1.2.1 0 x0_.1 i9_
        unfold nho
        rw [if_neg (by omega)]
        exact hn_.2 i9_ (by omega)
      · exact hD_
  · have cx1_ : ¬ (k_ ≠ 15) := of_decide_eq_false cx1_
    have hk_ : k_ = 15 := by omega
    obtain ⟨aM_, c200_, hE_, hO_, er⟩ := e_st15 (show e_st I_ A_ mm_ 15 aa_ d_ s_ = some r_ by rw [← hk_]; exact he_)
    refine sm_T_go 4 (c1 := (22, [some (.inr (.inr (some (1, 0)))), some (.inl k_), some (.inl m_), some (.inl f_), some (.inl a_), some (.inl d_), some (.inl (40 * m_ + a_)), none, none], [.inl a_, .inl f_, .inr (.inr (some (26, 0)))], S0_)) rfl ?_
    refine sm_T_cal (d1 := 0) (Q1 := vq_35 f_ a_ S0_) rfl rfl (by decide) (vc_35 f_ a_ S0_ hI_ (by omega) (by omega)) (fun u_ Sx46_ px49_ => ?_)
    obtain ⟨rfl, vx51_, rfl, px49_⟩ := px49_
    have e22_ := px49_
    have ec : vx51_.toNat = 8 * (40 * ff_ + aa_) := by omega
    have bx52_ : 0 ≤ S0_.1 1 0 3 ∧ S0_.1 1 0 3 ≤ 201 := hI_.1 1 0 3 rfl
    refine sm_T_go 2 (c1 := (29, [some (.inr (.inr (some (1, 0)))), some (.inl k_), some (.inl m_), some (.inl f_), some (.inl a_), some (.inl d_), some (.inl (40 * m_ + a_)), none, none], [.inl (S0_.1 1 0 3), .inl vx51_, .inr (.inr (some (26, 0)))], S0_)) rfl ?_
    refine sm_T_iast (n := 64320) rfl rfl (by omega) (by omega) ?_
    have hIx53_ : gi (sm_aI S0_ 26 0 vx51_.toNat (S0_.1 1 0 3)) := gi_aI hI_ (show 0 ≤ (S0_.1 1 0 3) ∧ (S0_.1 1 0 3) ≤ 2025 from ⟨by omega, by omega⟩)
    have hFx54_ : ai_fr (sx_W vw_38n) S0_ (sm_aI S0_ 26 0 vx51_.toNat (S0_.1 1 0 3)) := ai_fr_tr hF_ (ai_fr_aI rfl)
    have hDx55_ : idf dd_ S0_ (sm_aI S0_ 26 0 vx51_.toNat (S0_.1 1 0 3)) := idf_aI hD_ (Or.inl (by decide))
    refine sm_T_go 4 (c1 := (36, [some (.inr (.inr (some (1, 0)))), some (.inl k_), some (.inl m_), some (.inl f_), some (.inl a_), some (.inl d_), some (.inl (40 * m_ + a_)), none, none], [.inl 1, .inl (S0_.1 1 0 3), .inr (.inr (some (1, 0)))], sm_aI S0_ 26 0 vx51_.toNat (S0_.1 1 0 3))) rfl ?_
    refine sm_T_bin (w := (S0_.1 1 0 3) + 1) rfl (bi_add (by omega) (by omega) (by omega)) ?_
    have hIx56_ : gi (sm_pI (sm_aI S0_ 26 0 vx51_.toNat (S0_.1 1 0 3)) 1 0 3 ((S0_.1 1 0 3) + 1)) := gi_pI hIx53_ (show 0 ≤ (S0_.1 1 0 3) + 1 ∧ (S0_.1 1 0 3) + 1 ≤ 201 from ⟨by omega, by omega⟩)
    have hFx57_ : ai_fr (sx_W vw_38n) S0_ (sm_pI (sm_aI S0_ 26 0 vx51_.toNat (S0_.1 1 0 3)) 1 0 3 ((S0_.1 1 0 3) + 1)) := ai_fr_tr hFx54_ (ai_fr_pI rfl)
    have hDx58_ : idf dd_ S0_ (sm_pI (sm_aI S0_ 26 0 vx51_.toNat (S0_.1 1 0 3)) 1 0 3 ((S0_.1 1 0 3) + 1)) := idf_pI hDx55_ (Or.inl (by decide))
    refine sm_T_go 1 (c1 := (40, [some (.inr (.inr (some (1, 0)))), some (.inl k_), some (.inl m_), some (.inl f_), some (.inl a_), some (.inl d_), some (.inl (40 * m_ + a_)), none, none], [], sm_pI (sm_aI S0_ 26 0 vx51_.toNat (S0_.1 1 0 3)) 1 0 3 ((S0_.1 1 0 3) + 1))) rfl ?_
    refine sm_T_rv rfl ⟨_, _, rfl, rfl, hIx56_, hFx57_, ?_⟩
    refine ⟨hDx58_, ?_⟩
    rw [er]
    have g26_ : ∀ j_, ((sm_pI (sm_aI S0_ 26 0 vx51_.toNat (S0_.1 1 0 3)) 1 0 3 ((S0_.1 1 0 3) + 1))).2.2.1 26 0 j_ = if j_ = 8 * (40 * ff_ + aa_) then (s_.1.2.2 : Int) else S0_.2.2.1 26 0 j_ := fun j_ => by (try simp only [rd_eq, rd_ne, rf_eq, rf_nk, rf_nt, rd_fa, rd_af, rd_fl, rd_al, rd_lf, rd_la, rd_leq, rd_lne, rd_fr, rd_ar, ne_eq, Nat.reduceEqDiff, not_false_eq_true]); rw [ec, x3_]
    refine ⟨⟨cgl_fr (w_ := ([(1, 3)], [26], [])) x1_ (ai_fr_tr (ai_fr_aI rfl) (ai_fr_pI rfl)) rfl rfl rfl rfl rfl rfl rfl rfl, x2_, ?_, by show s_.1.2.2 + 1 ≤ 201; omega, x5_, by show fc0_ ≤ s_.1.2.2 + 1; omega, cfr_bg x7_ x5_ x6_ (by omega) hE_ hO_ g26_, x8_, cxe_fr (w_ := ([(1, 3)], [26], [])) x9_ (ai_fr_tr (ai_fr_aI rfl) (ai_fr_pI rfl)) rfl rfl rfl rfl⟩, fun j_ h1_ h2_ => ?_, by (rw [hk_, nst_o (by decide) (by decide)]; exact cxn_fr (w_ := ([(1, 3)], [26], [])) hn_ (ai_fr_tr (ai_fr_aI rfl) (ai_fr_pI rfl)))⟩
    · rw [rf_eq, x3_]; push_cast; rfl
    · rw [g26_, if_neg (by omega)]

theorem nw_17 {I_ m_ : Nat} {A_ : pA} {Y_ : Nat → gQ → gE → gN → gN} {w_ : Int} {s_ : gS} {x_ : gN} {o_ : Nat → List Int} (h_ : w_ % 32 = 17) (hO_ : s_.2.2.1 (w_ / 32 % 64).toNat = some o_) : nw I_ A_ Y_ m_ w_ s_ x_ = Y_ (w_ / 2048).toNat s_.1 o_ x_ := by
  unfold nw
  rw [if_pos h_, hO_]
theorem nw_o {I_ m_ : Nat} {A_ : pA} {Y_ : Nat → gQ → gE → gN → gN} {w_ : Int} {s_ : gS} {x_ : gN} (h_ : w_ % 32 ≠ 17) (h2_ : w_ % 32 ≤ 11) : nw I_ A_ Y_ m_ w_ s_ x_ = x_ := by
  unfold nw
  rw [if_neg h_, if_pos h2_]
theorem nw_s {I_ m_ : Nat} {A_ : pA} {Y_ : Nat → gQ → gE → gN → gN} {w_ : Int} {s_ : gS} {x_ : gN} (h_ : w_ % 32 ≠ 17) (h2_ : ¬ w_ % 32 ≤ 11) : nw I_ A_ Y_ m_ w_ s_ x_ = nst I_ A_ m_ (w_ % 32) (w_ / 32 % 64).toNat s_ x_ := by
  unfold nw
  rw [if_neg h_, if_neg h2_]

/-! Builder.execute -/
def vw_36n : sx_Wl := ([(1, 3), (1, 6), (1, 8), (1, 9), (3, 4), (3, 5)], [26, 27, 28, 29, 42, 43, 46], [])
def vq_36n (m_ : Int) (f_ : Int) (dp_ : Int) (tb_ : Nat → Int) (tn_ : Nat) (A_ : pA) (C_ : Nat → List Int) (mm_ : Nat) (ff_ : Nat) (dd_ : Nat) (F_ : Nat) (I_ : Nat) (q_ : gQ) (e_ : gE) (r_ : gQ × gE) (x0_ : gN) (xr : gN) (nf_ : Nat) (S0_ : sm_S) (u_ : Option sm_V) (S1_ : sm_S) : Prop := u_ = none ∧ gi S1_ ∧ ai_fr (sx_W vw_36n) S0_ S1_ ∧ (idf dd_ S0_ S1_ ∧ (cgl dd_ F_ r_.1.1 S1_ ∧ (imq (r_.1.1.length ≤ 1000) (cxo dd_ ff_ q_ r_ S1_ ∧ fun_ ff_ q_.2.2 (S0_.2.2.1 26 0) (S1_.2.2.1 26 0) ∧ cxn dd_ r_.1.2.1 xr S1_))))
set_option maxHeartbeats 2000000 in
theorem vl_36n {sc_ : Nat × (Nat → Int)} (m_ : Int) (f_ : Int) (dp_ : Int) (tb_ : Nat → Int) (tn_ : Nat) (A_ : pA) (C_ : Nat → List Int) (mm_ : Nat) (ff_ : Nat) (dd_ : Nat) (F_ : Nat) (I_ : Nat) (q_ : gQ) (e_ : gE) (r_ : gQ × gE) (x0_ : gN) (xr : gN) (nf_ : Nat) (S0_ : sm_S) (hI0_ : gi S0_) (hd_ : S0_.2.1 1 0 1 = some dd_) (hm1_ : m_ = (mm_ : Int) ∧ mm_ ≤ 15) (hf1_ : f_ = (ff_ : Int)) (hdp_ : 0 ≤ dp_ ∧ dp_ + mm_ ≤ 15) (her_ : ∀ k9_, k9_ ≤ mm_ → er1 tb_ tn_ A_ k9_ S0_) (hA_ : a_ok tb_ tn_ A_ mm_) (hC_ : ccd C_ mm_ S0_) (hx_ : cxs dd_ F_ I_ ff_ q_.2.2 (q_, e_, fun _ => none, []) S0_) (hok_ : q_.1.length ≤ 1000) (hRF_ : 1 + I_ + r_.1.2.1 ≤ F_) (hG_ : gwf F_ q_.1) (hlw_ : ∀ a9_, lwl (F_ + q_.1.length) (e_ a9_)) (hn_ : cxn dd_ q_.2.1 x0_ S0_) (he_ : exm F_ I_ A_ C_ (nf_ + 1) mm_ q_ e_ = some r_) (hxr_ : nxm F_ I_ A_ C_ (nf_ + 1) mm_ q_ e_ x0_ = xr) (ihx_ : ∀ (m_ f_ dp_ : Int) (tb_ : Nat → Int) (tn_ : Nat) (A_ : pA) (C_ : Nat → List Int) (mm_ : Nat) (ff_ : Nat) (dd_ : Nat) (F_ : Nat) (I_ : Nat) (q_ : gQ) (e_ : gE) (r_ : gQ × gE) (x0_ : gN) (xr : gN) (nz : Nat) (S0_ : sm_S) (hI_ : gi S0_) (hI0_ : gi S0_) (hd_ : S0_.2.1 1 0 1 = some dd_) (hm1_ : m_ = (mm_ : Int) ∧ mm_ ≤ 15) (hf1_ : f_ = (ff_ : Int)) (hdp_ : 0 ≤ dp_ ∧ dp_ + mm_ ≤ 15) (her_ : ∀ k9_, k9_ ≤ mm_ → er1 tb_ tn_ A_ k9_ S0_) (hA_ : a_ok tb_ tn_ A_ mm_) (hC_ : ccd C_ mm_ S0_) (hx_ : cxs dd_ F_ I_ ff_ q_.2.2 (q_, e_, fun _ => none, []) S0_) (hok_ : q_.1.length ≤ 1000) (hRF_ : 1 + I_ + r_.1.2.1 ≤ F_) (hG_ : gwf F_ q_.1) (hlw_ : ∀ a9_, lwl (F_ + q_.1.length) (e_ a9_)) (hn_ : cxn dd_ q_.2.1 x0_ S0_) (he_ : exm F_ I_ A_ C_ nf_ mm_ q_ e_ = some r_) (hxr_ : nxm F_ I_ A_ C_ nf_ mm_ q_ e_ x0_ = xr), sm_T (mt_P sc_) (nf_ + 10) 36 (0, [some (.inr (.inr (some (1, 0)))), some (.inl m_), some (.inl f_), some (.inl dp_), none, none, none, none, none, none], [], S0_) (fun r9_ => ∃ u_ S1_, r9_ = (.inl u_, S1_, 0) ∧ vq_36n m_ f_ dp_ tb_ tn_ A_ C_ mm_ ff_ dd_ F_ I_ q_ e_ r_ x0_ xr nz S0_ u_ S1_)) : ∀ nn_ : Nat, (∀ (to_ : Int) (pc_ : Int) (S_ : sm_S), gi S_ → ai_fr (sx_W vw_36n) S0_ S_ → ((0 ≤ pc_ ∧ pc_ ≤ to_ ∧ to_ ≤ 65536) ∧ (∃ (s_ s9_ : gS) (c_ : List Int) (xs : gN), ncd F_ I_ A_ (exm F_ I_ A_ C_ nf_) (nxm F_ I_ A_ C_ nf_) mm_ c_ s_ xs = xr ∧ ec F_ I_ A_ (exm F_ I_ A_ C_ nf_) mm_ c_ s_ = some s9_ ∧ s9_.2.2.2 = [] ∧ r_ = (s9_.1, s9_.2.1) ∧ pc_ + c_.length = to_ ∧ rwv (S0_.2.2.1 74 0) pc_.toNat c_ ∧ cgl dd_ F_ s_.1.1 S_ ∧ (imq (s_.1.1.length ≤ 1000) (cxs dd_ F_ I_ ff_ q_.2.2 s_ S_ ∧ fun_ ff_ q_.2.2 (S0_.2.2.1 26 0) (S_.2.2.1 26 0) ∧ lwS F_ s_ ∧ cxn dd_ s_.1.2.1 xs S_))) ∧ (idf dd_ S0_ S_) ∧ True) → ((to_ - pc_).toNat) < nn_ → sm_T (mt_P sc_) (nf_ + 1 + 10) 36 (24, [some (.inr (.inr (some (1, 0)))), some (.inl m_), some (.inl f_), some (.inl dp_), some (.inl to_), some (.inl pc_), none, none, none, none], [], S_) (fun ro9_ => ∃ u_ S1_, ro9_ = (.inl u_, S1_, 0) ∧ vq_36n m_ f_ dp_ tb_ tn_ A_ C_ mm_ ff_ dd_ F_ I_ q_ e_ r_ x0_ xr nf_ S0_ u_ S1_)) := by
  intro nn_
  induction nn_ with
  | zero => exact fun _ _ _ _ _ _ h_ => absurd h_ (Nat.not_lt_zero _)
  | succ nn_ ih_ =>
    rintro to_ pc_ S_ hI_ hF_ ⟨h0_, h1_, hD_, -⟩ hm_
    obtain ⟨s_, s9_, c_, xs, z8_, z1_, z2_, z3_, z4_, z5_, z6_, z7_⟩ := h1_
    refine sm_T_go 2 (c1 := (28, [some (.inr (.inr (some (1, 0)))), some (.inl m_), some (.inl f_), some (.inl dp_), some (.inl to_), some (.inl pc_), none, none, none, none], [.inl to_, .inl pc_], S_)) rfl ?_
    refine sm_T_br (a := 3) (z := 137) rfl (fun cx1_ => ?_) (fun cx1_ => ?_)
    · have cx1_ : to_ ≤ pc_ := of_decide_eq_true cx1_
      refine sm_T_rv rfl ⟨_, _, rfl, rfl, hI_, hF_, ?_⟩
      refine ⟨hD_, ?_⟩
      first | (have c0_ : c_ = [] := List.eq_nil_of_length_eq_zero (by omega); subst c0_; have es9_ : s_ = s9_ := Option.some.inj z1_; subst es9_; rw [z3_]; refine ⟨z6_, fun z9_ => ?_⟩; obtain ⟨cx_, cf_, -, cn_⟩ := z7_ z9_; refine ⟨⟨cx_.2.2.2.2.2.2.2.2.2, cx_.2.1, cx_.2.2.1, cx_.2.2.2.1, cx_.2.2.2.2.2.1, ?_, cx_.2.2.2.2.2.2.1.1⟩, cf_, by (have z8b : xs = xr := z8_; rw [← z8b]; exact cn_)⟩; have q9_ := cx_.2.2.2.2.2.2.2.1.1; rw [z2_] at q9_; exact q9_) | (have nok : 1000 < s_.1.1.length := (by by_cases z9_ : s_.1.1.length ≤ 1000; (exact absurd ((cgl_f z6_).1.mpr z9_) (by omega)); omega); have le9_ := ec_le (fun d9_ q9_ e9_ x9_ => exm_le nf_ d9_ q9_ e9_ x9_) c_ s_ s9_ z1_; rw [z3_]; refine ⟨cgl_big z6_ nok (by show 1000 < s9_.1.1.length; omega), fun z9_ => absurd z9_ (by show ¬ s9_.1.1.length ≤ 1000; omega)⟩)
    · have cx1_ : ¬ (to_ ≤ pc_) := of_decide_eq_false cx1_
      have bx2_ : 0 ≤ S_.1 1 0 8 ∧ S_.1 1 0 8 ≤ 1 := hI_.1 1 0 8 rfl
      refine sm_T_go 2 (c1 := (35, [some (.inr (.inr (some (1, 0)))), some (.inl m_), some (.inl f_), some (.inl dp_), some (.inl to_), some (.inl pc_), none, none, none, none], [.inl (S_.1 1 0 8)], S_)) rfl ?_
      refine sm_T_b0 (a := 1) (z := 130) rfl (fun cx3_ => ?_) (fun cx3_ => ?_)
      · have cx3_ : (S_.1 1 0 8) ≠ 0 := of_decide_eq_true cx3_
        refine sm_T_rv rfl ⟨_, _, rfl, rfl, hI_, hF_, ?_⟩
        refine ⟨hD_, ?_⟩
        first | (have c0_ : c_ = [] := List.eq_nil_of_length_eq_zero (by omega); subst c0_; have es9_ : s_ = s9_ := Option.some.inj z1_; subst es9_; rw [z3_]; refine ⟨z6_, fun z9_ => ?_⟩; obtain ⟨cx_, cf_, -, cn_⟩ := z7_ z9_; refine ⟨⟨cx_.2.2.2.2.2.2.2.2.2, cx_.2.1, cx_.2.2.1, cx_.2.2.2.1, cx_.2.2.2.2.2.1, ?_, cx_.2.2.2.2.2.2.1.1⟩, cf_, by (have z8b : xs = xr := z8_; rw [← z8b]; exact cn_)⟩; have q9_ := cx_.2.2.2.2.2.2.2.1.1; rw [z2_] at q9_; exact q9_) | (have nok : 1000 < s_.1.1.length := (by by_cases z9_ : s_.1.1.length ≤ 1000; (exact absurd ((cgl_f z6_).1.mpr z9_) (by omega)); omega); have le9_ := ec_le (fun d9_ q9_ e9_ x9_ => exm_le nf_ d9_ q9_ e9_ x9_) c_ s_ s9_ z1_; rw [z3_]; refine ⟨cgl_big z6_ nok (by show 1000 < s9_.1.1.length; omega), fun z9_ => absurd z9_ (by show ¬ s9_.1.1.length ≤ 1000; omega)⟩)
      · have cx3_ : ¬ ((S_.1 1 0 8) ≠ 0) := of_decide_eq_false cx3_
        obtain ⟨w_, c_, rfl⟩ : ∃ w_ c1_, c_ = w_ :: c1_ := by cases c_ with | nil => (simp only [List.length_nil] at z4_; omega) | cons p9_ q9_ => exact ⟨p9_, q9_, rfl⟩
        have hw_ : S_.2.2.1 74 0 pc_.toNat = w_ := by rw [fr_arr (t := 74) (i := 0) hF_ rfl]; exact z5_ 0 w_ rfl
        have sok_ : s_.1.1.length ≤ 1000 := (cgl_f z6_).1.mp (by omega)
        obtain ⟨cx_, cf_, cl_, cn_⟩ := z7_ sok_
        obtain ⟨s1_, hew_, hec_⟩ : ∃ s1_, ew F_ I_ A_ (exm F_ I_ A_ C_ nf_) mm_ w_ s_ = some s1_ ∧ ec F_ I_ A_ (exm F_ I_ A_ C_ nf_) mm_ c_ s1_ = some s9_ := by rw [ec] at z1_; (split at z1_); (rename_i s1_ q1_; exact ⟨s1_, q1_, z1_⟩); (cases z1_)
        have z9c : ncd F_ I_ A_ (exm F_ I_ A_ C_ nf_) (nxm F_ I_ A_ C_ nf_) mm_ c_ s1_ (nw I_ A_ (nxm F_ I_ A_ C_ nf_) mm_ (S_.2.2.1 74 0 pc_.toNat) s_ xs) = xr := by rw [hw_]; exact (ncd_c hew_).symm.trans z8_
        rw [← hw_] at hew_
        have F13_ := (cgl_b z6_).2
        have R9_ := ec_R (exm_w nf_) c_ s1_ s9_ hec_
        have R8_ : 1 + I_ + s9_.1.2.1 ≤ F_ := by rw [z3_] at hRF_; exact hRF_
        have lw1_ : s1_.1.1.length ≤ 1000 → lwS F_ s1_ := fun q9_ => ew_w (exm_w nf_) hew_ (by omega) (by omega) cl_
        have z4b : pc_ + 1 + c_.length = to_ := by simp only [List.length_cons] at z4_; push_cast at z4_; omega
        have cx8_ := cx_.2.2.2.2.2.2.2.1
        have A40_ := (hA_.2 mm_ (Nat.le_refl _)).1
        have her1_ : ∀ k9_, k9_ ≤ mm_ → er1 tb_ tn_ A_ k9_ S_ := fun k9_ h9_ => er1_fr (her_ k9_ h9_) hF_ rfl rfl rfl rfl rfl
        refine sm_T_go 4 (c1 := (47, [some (.inr (.inr (some (1, 0)))), some (.inl m_), some (.inl f_), some (.inl dp_), some (.inl to_), some (.inl pc_), none, none, none, none], [.inl pc_, .inr (.inr (some (74, 0)))], S_)) rfl ?_
        refine sm_T_iald (n := 65536) rfl rfl (by omega) (by omega) ?_
        have bx4_ : 0 ≤ S_.2.2.1 74 0 pc_.toNat ∧ S_.2.2.1 74 0 pc_.toNat ≤ 2147483647 := hI_.2 74 0 _
        refine sm_T_go 3 (c1 := (54, [some (.inr (.inr (some (1, 0)))), some (.inl m_), some (.inl f_), some (.inl dp_), some (.inl to_), some (.inl pc_), some (.inl (S_.2.2.1 74 0 pc_.toNat)), none, none, none], [.inl 31, .inl (S_.2.2.1 74 0 pc_.toNat)], S_)) rfl ?_
        refine sm_T_bin (w := ((S_.2.2.1 74 0 pc_.toNat) % 32)) rfl (bi_msk (k := 5) (by decide)) ?_
        refine sm_T_go 3 (c1 := (60, [some (.inr (.inr (some (1, 0)))), some (.inl m_), some (.inl f_), some (.inl dp_), some (.inl to_), some (.inl pc_), some (.inl (S_.2.2.1 74 0 pc_.toNat)), some (.inl ((S_.2.2.1 74 0 pc_.toNat) % 32)), none, none], [.inl 5, .inl (S_.2.2.1 74 0 pc_.toNat)], S_)) rfl ?_
        refine sm_T_bin (w := ((S_.2.2.1 74 0 pc_.toNat) / 32)) rfl (bi_shr (k := 5) (by decide) (by omega) (by omega)) ?_
        refine sm_T_go 1 (c1 := (63, [some (.inr (.inr (some (1, 0)))), some (.inl m_), some (.inl f_), some (.inl dp_), some (.inl to_), some (.inl pc_), some (.inl (S_.2.2.1 74 0 pc_.toNat)), some (.inl ((S_.2.2.1 74 0 pc_.toNat) % 32)), none, none], [.inl 63, .inl ((S_.2.2.1 74 0 pc_.toNat) / 32)], S_)) rfl ?_
        refine sm_T_bin (w := (((S_.2.2.1 74 0 pc_.toNat) / 32) % 64)) rfl (bi_msk (k := 6) (by decide)) ?_
        refine sm_T_go 3 (c1 := (70, [some (.inr (.inr (some (1, 0)))), some (.inl m_), some (.inl f_), some (.inl dp_), some (.inl to_), some (.inl pc_), some (.inl (S_.2.2.1 74 0 pc_.toNat)), some (.inl ((S_.2.2.1 74 0 pc_.toNat) % 32)), some (.inl (((S_.2.2.1 74 0 pc_.toNat) / 32) % 64)), none], [.inl 11, .inl (S_.2.2.1 74 0 pc_.toNat)], S_)) rfl ?_
        refine sm_T_bin (w := ((S_.2.2.1 74 0 pc_.toNat) / 2048)) rfl (bi_shr (k := 11) (by decide) (by omega) (by omega)) ?_
        refine sm_T_go 3 (c1 := (77, [some (.inr (.inr (some (1, 0)))), some (.inl m_), some (.inl f_), some (.inl dp_), some (.inl to_), some (.inl pc_), some (.inl (S_.2.2.1 74 0 pc_.toNat)), some (.inl ((S_.2.2.1 74 0 pc_.toNat) % 32)), some (.inl (((S_.2.2.1 74 0 pc_.toNat) / 32) % 64)), some (.inl ((S_.2.2.1 74 0 pc_.toNat) / 2048))], [.inl 17, .inl ((S_.2.2.1 74 0 pc_.toNat) % 32)], S_)) rfl ?_
        refine sm_T_br (a := 1) (z := 32) rfl (fun cx5_ => ?_) (fun cx5_ => ?_)
        · have cx5_ : ((S_.2.2.1 74 0 pc_.toNat) % 32) ≠ 17 := of_decide_eq_true cx5_
          refine sm_T_go 2 (c1 := (113, [some (.inr (.inr (some (1, 0)))), some (.inl m_), some (.inl f_), some (.inl dp_), some (.inl to_), some (.inl pc_), some (.inl (S_.2.2.1 74 0 pc_.toNat)), some (.inl ((S_.2.2.1 74 0 pc_.toNat) % 32)), some (.inl (((S_.2.2.1 74 0 pc_.toNat) / 32) % 64)), some (.inl ((S_.2.2.1 74 0 pc_.toNat) / 2048))], [.inl 7, .inl ((S_.2.2.1 74 0 pc_.toNat) % 32)], S_)) rfl ?_
          refine sm_T_br (a := 4) (z := 12) rfl (fun cx6_ => ?_) (fun cx6_ => ?_)
          · have cx6_ : 7 < ((S_.2.2.1 74 0 pc_.toNat) % 32) := of_decide_eq_true cx6_
            refine sm_T_go 2 (c1 := (129, [some (.inr (.inr (some (1, 0)))), some (.inl m_), some (.inl f_), some (.inl dp_), some (.inl to_), some (.inl pc_), some (.inl (S_.2.2.1 74 0 pc_.toNat)), some (.inl ((S_.2.2.1 74 0 pc_.toNat) % 32)), some (.inl (((S_.2.2.1 74 0 pc_.toNat) / 32) % 64)), some (.inl ((S_.2.2.1 74 0 pc_.toNat) / 2048))], [.inl 11, .inl ((S_.2.2.1 74 0 pc_.toNat) % 32)], S_)) rfl ?_
            refine sm_T_br (a := 4) (z := 18) rfl (fun cx7_ => ?_) (fun cx7_ => ?_)
            · have cx7_ : 11 < ((S_.2.2.1 74 0 pc_.toNat) % 32) := of_decide_eq_true cx7_
              have ho_ := ew_s hew_ (by omega) (by omega)
              have hk16_ := e_st_k ho_
              refine sm_T_go 6 (c1 := (156, [some (.inr (.inr (some (1, 0)))), some (.inl m_), some (.inl f_), some (.inl dp_), some (.inl to_), some (.inl pc_), some (.inl (S_.2.2.1 74 0 pc_.toNat)), some (.inl ((S_.2.2.1 74 0 pc_.toNat) % 32)), some (.inl (((S_.2.2.1 74 0 pc_.toNat) / 32) % 64)), some (.inl ((S_.2.2.1 74 0 pc_.toNat) / 2048))], [.inl ((S_.2.2.1 74 0 pc_.toNat) / 2048), .inl (((S_.2.2.1 74 0 pc_.toNat) / 32) % 64), .inl f_, .inl m_, .inl ((S_.2.2.1 74 0 pc_.toNat) % 32), .inr (.inr (some (1, 0)))], S_)) rfl ?_
              refine sm_T_cal (d1 := 1) (Q1 := vq_38n ((S_.2.2.1 74 0 pc_.toNat) % 32) m_ f_ (((S_.2.2.1 74 0 pc_.toNat) / 32) % 64) ((S_.2.2.1 74 0 pc_.toNat) / 2048) tb_ tn_ A_ mm_ ff_ (S_.2.2.1 74 0 pc_.toNat / 32 % 64).toNat dd_ F_ I_ s_ s1_ q_.2.2 xs S_) rfl rfl (by omega) (vc_38n ((S_.2.2.1 74 0 pc_.toNat) % 32) m_ f_ (((S_.2.2.1 74 0 pc_.toNat) / 32) % 64) ((S_.2.2.1 74 0 pc_.toNat) / 2048) tb_ tn_ A_ mm_ ff_ (S_.2.2.1 74 0 pc_.toNat / 32 % 64).toNat dd_ F_ I_ s_ s1_ q_.2.2 xs S_ hI_ (by exact hI_) (by exact cgl_d z6_) (by omega) (by omega) (by exact hm1_) (by exact hf1_) (by omega) (by exact her1_) (by exact hA_) (by exact cx_) (by exact sok_) (by exact ho_) (by exact cl_) (by omega) (by exact cn_)) (fun u_ Sx8_ px11_ => ?_)
              obtain ⟨rfl, hIx9_, hFx10_, px11_⟩ := px11_
              have hFx12_ : ai_fr (sx_W vw_36n) S0_ Sx8_ := ai_fr_tr hF_ (fr_le hFx10_ rfl)
              obtain ⟨dx14_, px11_⟩ := px11_
              have hDx13_ : idf dd_ S0_ Sx8_ := idf_tr hD_ dx14_
              have ex15_ : Sx8_.1 1 0 8 = S_.1 1 0 8 := hFx10_.1 1 0 8 rfl
              have e156_ := px11_
              have new_ : cgl dd_ F_ s1_.1.1 Sx8_ ∧ (imq (s1_.1.1.length ≤ 1000) (cxs dd_ F_ I_ ff_ q_.2.2 s1_ Sx8_ ∧ fun_ ff_ q_.2.2 (S0_.2.2.1 26 0) (Sx8_.2.2.1 26 0) ∧ lwS F_ s1_ ∧ cxn dd_ s1_.1.2.1 (nw I_ A_ (nxm F_ I_ A_ C_ nf_) mm_ (S_.2.2.1 74 0 pc_.toNat) s_ xs) Sx8_)) := ⟨e156_.1.1, fun z9_ => ⟨e156_.1, fun_tr cf_ e156_.2.1, lw1_ z9_, by rw [nw_s (by omega) (by omega)]; exact e156_.2.2⟩⟩
              refine sm_T_inc (a := 5) (z := 1) (v := pc_) (w := pc_ + 1) rfl rfl (by omega) (by omega) (by omega) ?_
              refine sm_T_go 1 (c1 := (24, [some (.inr (.inr (some (1, 0)))), some (.inl m_), some (.inl f_), some (.inl dp_), some (.inl to_), some (.inl (pc_ + 1)), some (.inl (S_.2.2.1 74 0 pc_.toNat)), some (.inl ((S_.2.2.1 74 0 pc_.toNat) % 32)), some (.inl (((S_.2.2.1 74 0 pc_.toNat) / 32) % 64)), some (.inl ((S_.2.2.1 74 0 pc_.toNat) / 2048))], [], Sx8_)) rfl ?_
              refine sm_T_wk [some (.inr (.inr (some (1, 0)))), some (.inl m_), some (.inl f_), some (.inl dp_), some (.inl to_), some (.inl (pc_ + 1)), none, none, none, none] (by exact ⟨rfl, rfl, rfl, rfl, rfl, rfl, trivial⟩) ?_
              refine ih_ to_ (pc_ + 1) Sx8_ hIx9_ hFx12_ ⟨?_, ?_, ?_, trivial⟩ ?_
              · omega
              · exact ⟨s1_, s9_, c_, _, z9c, hec_, z2_, z3_, z4b, by rw [show (pc_ + 1).toNat = pc_.toNat + 1 by omega]; exact rwv_tl z5_, new_.1, new_.2⟩
              · exact hDx13_
              · omega
            · have cx7_ : ¬ (11 < ((S_.2.2.1 74 0 pc_.toNat) % 32)) := of_decide_eq_false cx7_
              obtain ⟨z_, ho_, es_⟩ := ew_l hew_ (by omega) (by omega) (by omega)
              refine sm_T_go 6 (c1 := (141, [some (.inr (.inr (some (1, 0)))), some (.inl m_), some (.inl f_), some (.inl dp_), some (.inl to_), some (.inl pc_), some (.inl (S_.2.2.1 74 0 pc_.toNat)), some (.inl ((S_.2.2.1 74 0 pc_.toNat) % 32)), some (.inl (((S_.2.2.1 74 0 pc_.toNat) / 32) % 64)), some (.inl ((S_.2.2.1 74 0 pc_.toNat) / 2048))], [.inl ((S_.2.2.1 74 0 pc_.toNat) / 2048), .inl (((S_.2.2.1 74 0 pc_.toNat) / 32) % 64), .inl f_, .inl m_, .inl ((S_.2.2.1 74 0 pc_.toNat) % 32), .inr (.inr (some (1, 0)))], S_)) rfl ?_
              refine sm_T_cal (d1 := 1) (Q1 := vq_37 ((S_.2.2.1 74 0 pc_.toNat) % 32) m_ f_ (((S_.2.2.1 74 0 pc_.toNat) / 32) % 64) ((S_.2.2.1 74 0 pc_.toNat) / 2048) tb_ tn_ A_ mm_ ff_ (S_.2.2.1 74 0 pc_.toNat / 32 % 64).toNat s_.1.1 s_.2.1 s_.2.2.1 s_.2.2.2 z_ q_.2.2 s_.1.2.2 S_) rfl rfl (by omega) (vc_37 ((S_.2.2.1 74 0 pc_.toNat) % 32) m_ f_ (((S_.2.2.1 74 0 pc_.toNat) / 32) % 64) ((S_.2.2.1 74 0 pc_.toNat) / 2048) tb_ tn_ A_ mm_ ff_ (S_.2.2.1 74 0 pc_.toNat / 32 % 64).toNat s_.1.1 s_.2.1 s_.2.2.1 s_.2.2.2 z_ q_.2.2 s_.1.2.2 S_ hI_ (by exact hI_) (by omega) (by omega) (by exact hm1_) (by (have c4_ := cx_.2.2.2.1); (have c5_ := cx_.2.2.2.2.1); (have c6_ := cx_.2.2.2.2.2.1); omega) (by omega) (by exact her1_) (by exact hA_) (by exact cx_.2.2.2.2.2.2.1) (by exact cx8_) (by exact sok_) (by exact ho_)) (fun u_ Sx16_ px19_ => ?_)
              obtain ⟨rfl, hIx17_, hFx18_, px19_⟩ := px19_
              have hFx20_ : ai_fr (sx_W vw_36n) S0_ Sx16_ := ai_fr_tr hF_ (fr_le hFx18_ rfl)
              have hDx21_ : idf dd_ S0_ Sx16_ := idf_tr hD_ (idf_fr hFx18_ (by decide) (by decide))
              have ex22_ : Sx16_.1 1 0 8 = S_.1 1 0 8 := hFx18_.1 1 0 8 rfl
              have e141_ := px19_
              have g141_ := cgl_fr z6_ hFx18_ rfl rfl rfl rfl rfl rfl rfl rfl
              have new_ : cgl dd_ F_ s1_.1.1 Sx16_ ∧ (imq (s1_.1.1.length ≤ 1000) (cxs dd_ F_ I_ ff_ q_.2.2 s1_ Sx16_ ∧ fun_ ff_ q_.2.2 (S0_.2.2.1 26 0) (Sx16_.2.2.1 26 0) ∧ lwS F_ s1_ ∧ cxn dd_ s1_.1.2.1 (nw I_ A_ (nxm F_ I_ A_ C_ nf_) mm_ (S_.2.2.1 74 0 pc_.toNat) s_ xs) Sx16_)) := by rw [es_]; refine ⟨g141_, fun z9_ => ⟨⟨g141_, (hFx18_.1 1 0 9 rfl).trans cx_.2.1, (hFx18_.1 1 0 3 rfl).trans cx_.2.2.1, cx_.2.2.2.1, cx_.2.2.2.2.1, cx_.2.2.2.2.2.1, by rw [fr_arr (t := 26) (i := 0) hFx18_ rfl]; exact cx_.2.2.2.2.2.2.1, e141_, cxe_fr cx_.2.2.2.2.2.2.2.2 hFx18_ rfl rfl rfl rfl⟩, by rw [fr_arr (t := 26) (i := 0) hFx18_ rfl]; exact cf_, by rw [← es_]; exact lw1_ (by rw [es_]; exact z9_), by rw [nw_o (by omega) (by omega)]; exact cxn_fr cn_ hFx18_⟩⟩
              refine sm_T_go 1 (c1 := (159, [some (.inr (.inr (some (1, 0)))), some (.inl m_), some (.inl f_), some (.inl dp_), some (.inl to_), some (.inl pc_), some (.inl (S_.2.2.1 74 0 pc_.toNat)), some (.inl ((S_.2.2.1 74 0 pc_.toNat) % 32)), some (.inl (((S_.2.2.1 74 0 pc_.toNat) / 32) % 64)), some (.inl ((S_.2.2.1 74 0 pc_.toNat) / 2048))], [], Sx16_)) rfl ?_
              refine sm_T_inc (a := 5) (z := 1) (v := pc_) (w := pc_ + 1) rfl rfl (by omega) (by omega) (by omega) ?_
              refine sm_T_go 1 (c1 := (24, [some (.inr (.inr (some (1, 0)))), some (.inl m_), some (.inl f_), some (.inl dp_), some (.inl to_), some (.inl (pc_ + 1)), some (.inl (S_.2.2.1 74 0 pc_.toNat)), some (.inl ((S_.2.2.1 74 0 pc_.toNat) % 32)), some (.inl (((S_.2.2.1 74 0 pc_.toNat) / 32) % 64)), some (.inl ((S_.2.2.1 74 0 pc_.toNat) / 2048))], [], Sx16_)) rfl ?_
              refine sm_T_wk [some (.inr (.inr (some (1, 0)))), some (.inl m_), some (.inl f_), some (.inl dp_), some (.inl to_), some (.inl (pc_ + 1)), none, none, none, none] (by exact ⟨rfl, rfl, rfl, rfl, rfl, rfl, trivial⟩) ?_
              refine ih_ to_ (pc_ + 1) Sx16_ hIx17_ hFx20_ ⟨?_, ?_, ?_, trivial⟩ ?_
              · omega
              · exact ⟨s1_, s9_, c_, _, z9c, hec_, z2_, z3_, z4b, by rw [show (pc_ + 1).toNat = pc_.toNat + 1 by omega]; exact rwv_tl z5_, new_.1, new_.2⟩
              · exact hDx21_
              · omega
          · have cx6_ : ¬ (7 < ((S_.2.2.1 74 0 pc_.toNat) % 32)) := of_decide_eq_false cx6_
            obtain ⟨z_, ho_, es_⟩ := ew_o hew_ (by omega) (by omega)
            refine sm_T_go 2 (c1 := (119, [some (.inr (.inr (some (1, 0)))), some (.inl m_), some (.inl f_), some (.inl dp_), some (.inl to_), some (.inl pc_), some (.inl (S_.2.2.1 74 0 pc_.toNat)), some (.inl ((S_.2.2.1 74 0 pc_.toNat) % 32)), some (.inl (((S_.2.2.1 74 0 pc_.toNat) / 32) % 64)), some (.inl ((S_.2.2.1 74 0 pc_.toNat) / 2048))], [.inl ((S_.2.2.1 74 0 pc_.toNat) % 32), .inr (.inr (some (1, 0)))], S_)) rfl ?_
            refine sm_T_cal (d1 := 4) (Q1 := vq_39 ((S_.2.2.1 74 0 pc_.toNat) % 32) dd_ F_ s_.1.1 s_.2.2.2 z_ S_) rfl rfl (by omega) (vc_39 ((S_.2.2.1 74 0 pc_.toNat) % 32) dd_ F_ s_.1.1 s_.2.2.2 z_ S_ hI_ (by exact hI_) (by exact cgl_d z6_) (by exact z6_) (by exact cx8_) (by exact ho_)) (fun u_ Sx23_ px26_ => ?_)
            obtain ⟨rfl, hIx24_, hFx25_, px26_⟩ := px26_
            have hFx27_ : ai_fr (sx_W vw_36n) S0_ Sx23_ := ai_fr_tr hF_ (fr_le hFx25_ rfl)
            obtain ⟨dx29_, px26_⟩ := px26_
            have hDx28_ : idf dd_ S0_ Sx23_ := idf_tr hD_ dx29_
            have e119_ := px26_
            have new_ : cgl dd_ F_ s1_.1.1 Sx23_ ∧ (imq (s1_.1.1.length ≤ 1000) (cxs dd_ F_ I_ ff_ q_.2.2 s1_ Sx23_ ∧ fun_ ff_ q_.2.2 (S0_.2.2.1 26 0) (Sx23_.2.2.1 26 0) ∧ lwS F_ s1_ ∧ cxn dd_ s1_.1.2.1 (nw I_ A_ (nxm F_ I_ A_ C_ nf_) mm_ (S_.2.2.1 74 0 pc_.toNat) s_ xs) Sx23_)) := by rw [es_]; refine ⟨e119_.1, fun z9_ => ⟨⟨e119_.1, (hFx25_.1 1 0 9 rfl).trans cx_.2.1, (hFx25_.1 1 0 3 rfl).trans cx_.2.2.1, cx_.2.2.2.1, cx_.2.2.2.2.1, cx_.2.2.2.2.2.1, by rw [fr_arr (t := 26) (i := 0) hFx25_ rfl]; exact cx_.2.2.2.2.2.2.1, e119_.2, ⟨(hFx25_.1 3 dd_ 1 rfl).trans cx_.2.2.2.2.2.2.2.2.1, by rw [hFx25_.1 3 dd_ 5 rfl]; exact cx_.2.2.2.2.2.2.2.2.2.1, nxb_up cx_.2.2.2.2.2.2.2.2.2.2 (fr_arr hFx25_ rfl) (by have n9_ := cgl_n z6_ sok_; have n8_ := cgl_n e119_.1 z9_; have n7_ := e_op_le ho_; omega)⟩⟩, by rw [fr_arr (t := 26) (i := 0) hFx25_ rfl]; exact cf_, by rw [← es_]; exact lw1_ (by rw [es_]; exact z9_), by rw [nw_o (by omega) (by omega)]; exact cxn_fr cn_ hFx25_⟩⟩
            refine sm_T_go 1 (c1 := (159, [some (.inr (.inr (some (1, 0)))), some (.inl m_), some (.inl f_), some (.inl dp_), some (.inl to_), some (.inl pc_), some (.inl (S_.2.2.1 74 0 pc_.toNat)), some (.inl ((S_.2.2.1 74 0 pc_.toNat) % 32)), some (.inl (((S_.2.2.1 74 0 pc_.toNat) / 32) % 64)), some (.inl ((S_.2.2.1 74 0 pc_.toNat) / 2048))], [], Sx23_)) rfl ?_
            refine sm_T_inc (a := 5) (z := 1) (v := pc_) (w := pc_ + 1) rfl rfl (by omega) (by omega) (by omega) ?_
            refine sm_T_go 1 (c1 := (24, [some (.inr (.inr (some (1, 0)))), some (.inl m_), some (.inl f_), some (.inl dp_), some (.inl to_), some (.inl (pc_ + 1)), some (.inl (S_.2.2.1 74 0 pc_.toNat)), some (.inl ((S_.2.2.1 74 0 pc_.toNat) % 32)), some (.inl (((S_.2.2.1 74 0 pc_.toNat) / 32) % 64)), some (.inl ((S_.2.2.1 74 0 pc_.toNat) / 2048))], [], Sx23_)) rfl ?_
            refine sm_T_wk [some (.inr (.inr (some (1, 0)))), some (.inl m_), some (.inl f_), some (.inl dp_), some (.inl to_), some (.inl (pc_ + 1)), none, none, none, none] (by exact ⟨rfl, rfl, rfl, rfl, rfl, rfl, trivial⟩) ?_
            refine ih_ to_ (pc_ + 1) Sx23_ hIx24_ hFx27_ ⟨?_, ?_, ?_, trivial⟩ ?_
            · omega
            · exact ⟨s1_, s9_, c_, _, z9c, hec_, z2_, z3_, z4b, by rw [show (pc_ + 1).toNat = pc_.toNat + 1 by omega]; exact rwv_tl z5_, new_.1, new_.2⟩
            · exact hDx28_
            · omega
        · have cx5_ : ¬ (((S_.2.2.1 74 0 pc_.toNat) % 32) ≠ 17) := of_decide_eq_false cx5_
          obtain ⟨o_, z_, hO_, hV_, aM_, d0_, dM_, hX_, es_⟩ := ew17 hew_ (by omega)
          obtain ⟨xE_, P_, xP_⟩ := id cx_.2.2.2.2.2.2.1
          have yP_ := xP_ (S_.2.2.1 74 0 pc_.toNat / 32 % 64).toNat (by omega) o_ hO_
          have y2_ := yP_.2.1
          have c201_ := cx_.2.2.2.1
          have ccl_ := cxs_cl cx_ hV_ (by omega) hO_ yP_.1
          have c6_ := cx_.2.2.2.2.2.1
          have c5_ := cx_.2.2.2.2.1
          refine sm_T_go 2 (c1 := (83, [some (.inr (.inr (some (1, 0)))), some (.inl m_), some (.inl f_), some (.inl dp_), some (.inl to_), some (.inl pc_), some (.inl (S_.2.2.1 74 0 pc_.toNat)), some (.inl ((S_.2.2.1 74 0 pc_.toNat) % 32)), some (.inl (((S_.2.2.1 74 0 pc_.toNat) / 32) % 64)), some (.inl ((S_.2.2.1 74 0 pc_.toNat) / 2048))], [.inl 16, .inl dp_], S_)) rfl ?_
          refine sm_T_br (a := 3) (z := 76) rfl (fun cx30_ => ?_) (fun cx30_ => ?_)
          · have cx30_ : 16 ≤ dp_ := of_decide_eq_true cx30_
            exfalso; omega
          · have cx30_ : ¬ (16 ≤ dp_) := of_decide_eq_false cx30_
            refine sm_T_go 6 (c1 := (96, [some (.inr (.inr (some (1, 0)))), some (.inl m_), some (.inl f_), some (.inl dp_), some (.inl to_), some (.inl pc_), some (.inl (S_.2.2.1 74 0 pc_.toNat)), some (.inl ((S_.2.2.1 74 0 pc_.toNat) % 32)), some (.inl (((S_.2.2.1 74 0 pc_.toNat) / 32) % 64)), some (.inl ((S_.2.2.1 74 0 pc_.toNat) / 2048))], [.inl (((S_.2.2.1 74 0 pc_.toNat) / 32) % 64), .inl f_, .inr (.inr (some (26, 0))), .inl ((S_.2.2.1 74 0 pc_.toNat) / 2048), .inr (.inr (some (1, 0)))], S_)) rfl ?_
            refine sm_T_cal (d1 := 0) (Q1 := vq_35 f_ (((S_.2.2.1 74 0 pc_.toNat) / 32) % 64) S_) rfl rfl (by omega) (vc_35 f_ (((S_.2.2.1 74 0 pc_.toNat) / 32) % 64) S_ hI_ (by omega) (by omega)) (fun u_ Sx31_ px34_ => ?_)
            obtain ⟨rfl, vx36_, rfl, px34_⟩ := px34_
            have e96_ := px34_
            have pt_ : S_.2.2.1 26 0 vx36_.toNat = (P_ (S_.2.2.1 74 0 pc_.toNat / 32 % 64).toNat : Int) := by rw [e96_, show (8 * (40 * f_ + S_.2.2.1 74 0 pc_.toNat / 32 % 64)).toNat = 8 * (40 * ff_ + (S_.2.2.1 74 0 pc_.toNat / 32 % 64).toNat) by omega]; exact yP_.1
            refine sm_T_iald (n := 64320) rfl rfl (by omega) (by omega) ?_
            have bx37_ : 0 ≤ S_.2.2.1 26 0 vx36_.toNat ∧ S_.2.2.1 26 0 vx36_.toNat ≤ 2025 := hI_.2 26 0 _
            refine sm_T_go 2 (c1 := (102, [some (.inr (.inr (some (1, 0)))), some (.inl m_), some (.inl f_), some (.inl dp_), some (.inl to_), some (.inl pc_), some (.inl (S_.2.2.1 74 0 pc_.toNat)), some (.inl ((S_.2.2.1 74 0 pc_.toNat) % 32)), some (.inl (((S_.2.2.1 74 0 pc_.toNat) / 32) % 64)), some (.inl ((S_.2.2.1 74 0 pc_.toNat) / 2048))], [.inl 1, .inl dp_, .inl (S_.2.2.1 26 0 vx36_.toNat), .inl ((S_.2.2.1 74 0 pc_.toNat) / 2048), .inr (.inr (some (1, 0)))], S_)) rfl ?_
            refine sm_T_bin (w := dp_ + 1) rfl (bi_add (by omega) (by omega) (by omega)) ?_
            refine sm_T_cal (d1 := (nf_ + 10)) (Q1 := vq_36n ((S_.2.2.1 74 0 pc_.toNat) / 2048) (S_.2.2.1 26 0 vx36_.toNat) (dp_ + 1) tb_ tn_ A_ C_ (S_.2.2.1 74 0 pc_.toNat / 2048).toNat (P_ (S_.2.2.1 74 0 pc_.toNat / 32 % 64).toNat) dd_ F_ I_ s_.1 o_ z_ xs (nxm F_ I_ A_ C_ nf_ (S_.2.2.1 74 0 pc_.toNat / 2048).toNat s_.1 o_ xs) nf_ S_) rfl rfl (by omega) (ihx_ ((S_.2.2.1 74 0 pc_.toNat) / 2048) (S_.2.2.1 26 0 vx36_.toNat) (dp_ + 1) tb_ tn_ A_ C_ (S_.2.2.1 74 0 pc_.toNat / 2048).toNat (P_ (S_.2.2.1 74 0 pc_.toNat / 32 % 64).toNat) dd_ F_ I_ s_.1 o_ z_ xs (nxm F_ I_ A_ C_ nf_ (S_.2.2.1 74 0 pc_.toNat / 2048).toNat s_.1 o_ xs) nf_ S_ hI_ (by exact hI_) (by exact cgl_d z6_) (by omega) (by exact pt_) (by omega) (by (intro k9_ h9_; exact her1_ k9_ (by omega))) (by exact a_ok_le hA_ (by omega)) (by exact ccd_fr hC_ (by omega) hF_ rfl rfl) (by exact ccl_.1) (by exact sok_) (by (have q9_ : s1_.1.2.1 = z_.1.2.1 := by rw [es_]); omega) (by exact cl_.1) (by exact cl_.2.2.1 _ o_ hO_) (by exact cn_) (by exact hX_) (by rfl)) (fun u_ Sx38_ px41_ => ?_)
            obtain ⟨rfl, hIx39_, hFx40_, px41_⟩ := px41_
            have hFx42_ : ai_fr (sx_W vw_36n) S0_ Sx38_ := ai_fr_tr hF_ (fr_le hFx40_ rfl)
            obtain ⟨dx44_, px41_⟩ := px41_
            have hDx43_ : idf dd_ S0_ Sx38_ := idf_tr hD_ dx44_
            have e103_ := px41_
            have new_ : cgl dd_ F_ s1_.1.1 Sx38_ ∧ (imq (s1_.1.1.length ≤ 1000) (cxs dd_ F_ I_ ff_ q_.2.2 s1_ Sx38_ ∧ fun_ ff_ q_.2.2 (S0_.2.2.1 26 0) (Sx38_.2.2.1 26 0) ∧ lwS F_ s1_ ∧ cxn dd_ s1_.1.2.1 (nw I_ A_ (nxm F_ I_ A_ C_ nf_) mm_ (S_.2.2.1 74 0 pc_.toNat) s_ xs) Sx38_)) := by rw [es_]; refine ⟨e103_.1, fun z9_ => ?_⟩; obtain ⟨o1_, o2_, o3_⟩ := e103_.2 z9_; exact ⟨cxs_ba cx_ (by omega) hO_ yP_.1 e103_.1 o1_ o2_ (hFx40_.1 3 dd_ 1 rfl), fun_tr cf_ (fun j_ q1_ q2_ => o2_ j_ (by omega) (by omega)), by rw [← es_]; exact lw1_ (by rw [es_]; exact z9_), by rw [nw_17 (by omega) hO_]; exact o3_⟩
            refine sm_T_go 1 (c1 := (159, [some (.inr (.inr (some (1, 0)))), some (.inl m_), some (.inl f_), some (.inl dp_), some (.inl to_), some (.inl pc_), some (.inl (S_.2.2.1 74 0 pc_.toNat)), some (.inl ((S_.2.2.1 74 0 pc_.toNat) % 32)), some (.inl (((S_.2.2.1 74 0 pc_.toNat) / 32) % 64)), some (.inl ((S_.2.2.1 74 0 pc_.toNat) / 2048))], [], Sx38_)) rfl ?_
            refine sm_T_inc (a := 5) (z := 1) (v := pc_) (w := pc_ + 1) rfl rfl (by omega) (by omega) (by omega) ?_
            refine sm_T_go 1 (c1 := (24, [some (.inr (.inr (some (1, 0)))), some (.inl m_), some (.inl f_), some (.inl dp_), some (.inl to_), some (.inl (pc_ + 1)), some (.inl (S_.2.2.1 74 0 pc_.toNat)), some (.inl ((S_.2.2.1 74 0 pc_.toNat) % 32)), some (.inl (((S_.2.2.1 74 0 pc_.toNat) / 32) % 64)), some (.inl ((S_.2.2.1 74 0 pc_.toNat) / 2048))], [], Sx38_)) rfl ?_
            refine sm_T_wk [some (.inr (.inr (some (1, 0)))), some (.inl m_), some (.inl f_), some (.inl dp_), some (.inl to_), some (.inl (pc_ + 1)), none, none, none, none] (by exact ⟨rfl, rfl, rfl, rfl, rfl, rfl, trivial⟩) ?_
            refine ih_ to_ (pc_ + 1) Sx38_ hIx39_ hFx42_ ⟨?_, ?_, ?_, trivial⟩ ?_
            · omega
            · exact ⟨s1_, s9_, c_, _, z9c, hec_, z2_, z3_, z4b, by rw [show (pc_ + 1).toNat = pc_.toNat + 1 by omega]; exact rwv_tl z5_, new_.1, new_.2⟩
            · exact hDx43_
            · omega
set_option maxHeartbeats 2000000 in
theorem vc_36n {sc_ : Nat × (Nat → Int)} (m_ : Int) (f_ : Int) (dp_ : Int) (tb_ : Nat → Int) (tn_ : Nat) (A_ : pA) (C_ : Nat → List Int) (mm_ : Nat) (ff_ : Nat) (dd_ : Nat) (F_ : Nat) (I_ : Nat) (q_ : gQ) (e_ : gE) (r_ : gQ × gE) (x0_ : gN) (xr : gN) (nf_ : Nat) (S0_ : sm_S) (hI_ : gi S0_) (hI0_ : gi S0_) (hd_ : S0_.2.1 1 0 1 = some dd_) (hm1_ : m_ = (mm_ : Int) ∧ mm_ ≤ 15) (hf1_ : f_ = (ff_ : Int)) (hdp_ : 0 ≤ dp_ ∧ dp_ + mm_ ≤ 15) (her_ : ∀ k9_, k9_ ≤ mm_ → er1 tb_ tn_ A_ k9_ S0_) (hA_ : a_ok tb_ tn_ A_ mm_) (hC_ : ccd C_ mm_ S0_) (hx_ : cxs dd_ F_ I_ ff_ q_.2.2 (q_, e_, fun _ => none, []) S0_) (hok_ : q_.1.length ≤ 1000) (hRF_ : 1 + I_ + r_.1.2.1 ≤ F_) (hG_ : gwf F_ q_.1) (hlw_ : ∀ a9_, lwl (F_ + q_.1.length) (e_ a9_)) (hn_ : cxn dd_ q_.2.1 x0_ S0_) (he_ : exm F_ I_ A_ C_ (nf_ + 1) mm_ q_ e_ = some r_) (hxr_ : nxm F_ I_ A_ C_ (nf_ + 1) mm_ q_ e_ x0_ = xr) (ihx_ : ∀ (m_ f_ dp_ : Int) (tb_ : Nat → Int) (tn_ : Nat) (A_ : pA) (C_ : Nat → List Int) (mm_ : Nat) (ff_ : Nat) (dd_ : Nat) (F_ : Nat) (I_ : Nat) (q_ : gQ) (e_ : gE) (r_ : gQ × gE) (x0_ : gN) (xr : gN) (nz : Nat) (S0_ : sm_S) (hI_ : gi S0_) (hI0_ : gi S0_) (hd_ : S0_.2.1 1 0 1 = some dd_) (hm1_ : m_ = (mm_ : Int) ∧ mm_ ≤ 15) (hf1_ : f_ = (ff_ : Int)) (hdp_ : 0 ≤ dp_ ∧ dp_ + mm_ ≤ 15) (her_ : ∀ k9_, k9_ ≤ mm_ → er1 tb_ tn_ A_ k9_ S0_) (hA_ : a_ok tb_ tn_ A_ mm_) (hC_ : ccd C_ mm_ S0_) (hx_ : cxs dd_ F_ I_ ff_ q_.2.2 (q_, e_, fun _ => none, []) S0_) (hok_ : q_.1.length ≤ 1000) (hRF_ : 1 + I_ + r_.1.2.1 ≤ F_) (hG_ : gwf F_ q_.1) (hlw_ : ∀ a9_, lwl (F_ + q_.1.length) (e_ a9_)) (hn_ : cxn dd_ q_.2.1 x0_ S0_) (he_ : exm F_ I_ A_ C_ nf_ mm_ q_ e_ = some r_) (hxr_ : nxm F_ I_ A_ C_ nf_ mm_ q_ e_ x0_ = xr), sm_T (mt_P sc_) (nf_ + 10) 36 (0, [some (.inr (.inr (some (1, 0)))), some (.inl m_), some (.inl f_), some (.inl dp_), none, none, none, none, none, none], [], S0_) (fun r9_ => ∃ u_ S1_, r9_ = (.inl u_, S1_, 0) ∧ vq_36n m_ f_ dp_ tb_ tn_ A_ C_ mm_ ff_ dd_ F_ I_ q_ e_ r_ x0_ xr nz S0_ u_ S1_)) : sm_T (mt_P sc_) (nf_ + 1 + 10) 36 (0, [some (.inr (.inr (some (1, 0)))), some (.inl m_), some (.inl f_), some (.inl dp_), none, none, none, none, none, none], [], S0_) (fun ro9_ => ∃ u_ S1_, ro9_ = (.inl u_, S1_, 0) ∧ vq_36n m_ f_ dp_ tb_ tn_ A_ C_ mm_ ff_ dd_ F_ I_ q_ e_ r_ x0_ xr nf_ S0_ u_ S1_) := by
  have hF_ : ai_fr (sx_W vw_36n) S0_ S0_ := ai_fr_rf
  have hD_ : idf dd_ S0_ S0_ := idf_rf
  obtain ⟨p0_, hp1_, hp2_, hp3_, hp4_⟩ := hC_ mm_ (Nat.le_refl _)
  have c0_ : S0_.2.2.1 76 0 m_.toNat = (p0_ : Int) := by rw [show m_.toNat = mm_ by omega]; exact hp1_
  have c1_ : S0_.2.2.1 76 0 (m_ + 1).toNat = ((p0_ + (C_ mm_).length : Nat) : Int) := by rw [show (m_ + 1).toNat = mm_ + 1 by omega]; exact hp2_
  obtain ⟨s9_, hec_, hs9_, hr9_⟩ : ∃ s9_, ec F_ I_ A_ (exm F_ I_ A_ C_ nf_) mm_ (C_ mm_) (q_, e_, fun _ => none, []) = some s9_ ∧ s9_.2.2.2 = [] ∧ r_ = (s9_.1, s9_.2.1) := by rw [exm] at he_; (split at he_); (rename_i s9_ q9_; (split at he_); (rename_i v9_; cases he_; exact ⟨s9_, q9_, v9_, rfl⟩); (cases he_)); (cases he_)
  refine sm_T_go 5 (c1 := (9, [some (.inr (.inr (some (1, 0)))), some (.inl m_), some (.inl f_), some (.inl dp_), none, none, none, none, none, none], [.inl 1, .inl m_, .inr (.inr (some (76, 0)))], S0_)) rfl ?_
  refine sm_T_bin (w := m_ + 1) rfl (bi_add (by omega) (by omega) (by omega)) ?_
  refine sm_T_iald (n := 17) rfl rfl (by omega) (by omega) ?_
  have bx1_ : 0 ≤ S0_.2.2.1 76 0 (m_ + 1).toNat ∧ S0_.2.2.1 76 0 (m_ + 1).toNat ≤ 65536 := hI_.2 76 0 _
  refine sm_T_go 5 (c1 := (21, [some (.inr (.inr (some (1, 0)))), some (.inl m_), some (.inl f_), some (.inl dp_), some (.inl (S0_.2.2.1 76 0 (m_ + 1).toNat)), none, none, none, none, none], [.inl m_, .inr (.inr (some (76, 0)))], S0_)) rfl ?_
  refine sm_T_iald (n := 17) rfl rfl (by omega) (by omega) ?_
  have bx2_ : 0 ≤ S0_.2.2.1 76 0 m_.toNat ∧ S0_.2.2.1 76 0 m_.toNat ≤ 65536 := hI_.2 76 0 _
  refine sm_T_go 1 (c1 := (24, [some (.inr (.inr (some (1, 0)))), some (.inl m_), some (.inl f_), some (.inl dp_), some (.inl (S0_.2.2.1 76 0 (m_ + 1).toNat)), some (.inl (S0_.2.2.1 76 0 m_.toNat)), none, none, none, none], [], S0_)) rfl ?_
  refine (vl_36n m_ f_ dp_ tb_ tn_ A_ C_ mm_ ff_ dd_ F_ I_ q_ e_ r_ x0_ xr nf_ S0_ hI0_ hd_ hm1_ hf1_ hdp_ her_ hA_ hC_ hx_ hok_ hRF_ hG_ hlw_ hn_ he_ hxr_ ihx_ _) (S0_.2.2.1 76 0 (m_ + 1).toNat) (S0_.2.2.1 76 0 m_.toNat) S0_ hI_ hF_ ⟨?_, ?_, ?_, trivial⟩ (Nat.lt_succ_self _)
  · omega
  · refine ⟨(q_, e_, fun _ => none, []), s9_, C_ mm_, x0_, hxr_, hec_, hs9_, hr9_, by omega, ?_, hx_.1, fun _ => ⟨hx_, fun j_ _ _ => rfl, ⟨hG_, hlw_, (fun a9_ o9_ h9_ => by cases h9_), (fun v9_ h9_ => by cases h9_)⟩, hn_⟩⟩
    rw [c0_]
    exact hp4_
  · exact hD_
theorem vc_36nx {sc_ : Nat × (Nat → Int)} : ∀ nf_ : Nat, ∀ (m_ f_ dp_ : Int) (tb_ : Nat → Int) (tn_ : Nat) (A_ : pA) (C_ : Nat → List Int) (mm_ : Nat) (ff_ : Nat) (dd_ : Nat) (F_ : Nat) (I_ : Nat) (q_ : gQ) (e_ : gE) (r_ : gQ × gE) (x0_ : gN) (xr : gN) (nz : Nat) (S0_ : sm_S) (hI_ : gi S0_) (hI0_ : gi S0_) (hd_ : S0_.2.1 1 0 1 = some dd_) (hm1_ : m_ = (mm_ : Int) ∧ mm_ ≤ 15) (hf1_ : f_ = (ff_ : Int)) (hdp_ : 0 ≤ dp_ ∧ dp_ + mm_ ≤ 15) (her_ : ∀ k9_, k9_ ≤ mm_ → er1 tb_ tn_ A_ k9_ S0_) (hA_ : a_ok tb_ tn_ A_ mm_) (hC_ : ccd C_ mm_ S0_) (hx_ : cxs dd_ F_ I_ ff_ q_.2.2 (q_, e_, fun _ => none, []) S0_) (hok_ : q_.1.length ≤ 1000) (hRF_ : 1 + I_ + r_.1.2.1 ≤ F_) (hG_ : gwf F_ q_.1) (hlw_ : ∀ a9_, lwl (F_ + q_.1.length) (e_ a9_)) (hn_ : cxn dd_ q_.2.1 x0_ S0_) (he_ : exm F_ I_ A_ C_ nf_ mm_ q_ e_ = some r_) (hxr_ : nxm F_ I_ A_ C_ nf_ mm_ q_ e_ x0_ = xr), sm_T (mt_P sc_) (nf_ + 10) 36 (0, [some (.inr (.inr (some (1, 0)))), some (.inl m_), some (.inl f_), some (.inl dp_), none, none, none, none, none, none], [], S0_) (fun r9_ => ∃ u_ S1_, r9_ = (.inl u_, S1_, 0) ∧ vq_36n m_ f_ dp_ tb_ tn_ A_ C_ mm_ ff_ dd_ F_ I_ q_ e_ r_ x0_ xr nz S0_ u_ S1_)
  | 0, m_, f_, dp_, tb_, tn_, A_, C_, mm_, ff_, dd_, F_, I_, q_, e_, r_, x0_, xr, nz, S0_, hI_, hI0_, hd_, hm1_, hf1_, hdp_, her_, hA_, hC_, hx_, hok_, hRF_, hG_, hlw_, hn_, he_, hxr_ => by cases he_
  | nf_ + 1, m_, f_, dp_, tb_, tn_, A_, C_, mm_, ff_, dd_, F_, I_, q_, e_, r_, x0_, xr, nz, S0_, hI_, hI0_, hd_, hm1_, hf1_, hdp_, her_, hA_, hC_, hx_, hok_, hRF_, hG_, hlw_, hn_, he_, hxr_ => vc_36n m_ f_ dp_ tb_ tn_ A_ C_ mm_ ff_ dd_ F_ I_ q_ e_ r_ x0_ xr nf_ S0_ hI_ hI0_ hd_ hm1_ hf1_ hdp_ her_ hA_ hC_ hx_ hok_ hRF_ hG_ hlw_ hn_ he_ hxr_ (vc_36nx nf_)
end
/-! 99.ztL -/
section
/-! next values and beginning: the reference; written by wip/p55/gen/vg -/

/-! next values and beginning: the_ reference -/
/-- the_ reference holds them -/
def rxn (R_ : Nat) (x_ : gN) (S_ : sm_S) : Prop := S_.1 13 0 52 = x_.2 ∧ ∀ i_, i_ < R_ → S_.2.2.1 151 0 i_ = x_.1 i_
theorem rxn_fr {w_ : sx_Wl} {R_ : Nat} {x_ : gN} {S_ S'_ : sm_S} (h_ : rxn R_ x_ S_) (g_ : ai_fr (sx_W w_) S_ S'_) (h2_ : (sx_W w_).1 13 52 = false := by rfl) (h4_ : (sx_W w_).2.1 151 = false := by rfl) : rxn R_ x_ S'_ := by
  unfold rxn
  rw [g_.1 13 0 52 h2_, fr_arr (t := 151) g_ h4_]
  exact h_
theorem nnx_t {p_ : Nat} {y_ : List Int} {N_ : Nat → Int} {k_ : Nat} (hk_ : k_ < y_.length) (i_ : Nat) : nnx p_ (y_.take (k_ + 1)) N_ i_ = if i_ = p_ + k_ then y_.getD k_ 0 else nnx p_ (y_.take k_) N_ i_ := by
  unfold nnx
  rw [List.length_take, List.length_take, Nat.min_eq_left (by omega), Nat.min_eq_left (by omega)]
  by_cases c_ : i_ = p_ + k_
  · subst c_
    rw [if_pos (by omega), if_pos rfl, show p_ + k_ - p_ = k_ by omega, List.getD_eq_getElem?_getD, List.getD_eq_getElem?_getD, List.getElem?_take, if_pos (by omega)]
  · rw [if_neg c_]
    by_cases d_ : p_ ≤ i_ ∧ i_ < p_ + k_
    · rw [if_pos (by omega), if_pos d_, List.getD_eq_getElem?_getD, List.getD_eq_getElem?_getD, List.getElem?_take, List.getElem?_take, if_pos (by omega), if_pos (by omega)]
    · rw [if_neg (by omega), if_neg d_]

/-! M_.makeRegister -/
def vw_344n : sx_Wl := ([(13, 9), (13, 52), (13, 53)], [144, 150, 151], [])
def vq_344n (nm_ : Int) (b_ : Nat → Int) (n_ : Nat) (T_ : Nat) (p_ : Nat) (uu_ : Nat) (f_ : Nat) (q_ : Nat) (A_ : pA) (M_ : Nat) (s_ : Nat) (fr_ : Nat) (wd_ : Nat) (R_ : Nat) (I_ : Nat) (det_ : Int) (x0_ : gN) (S0_ : sm_S) (u_ : Option sm_V) (S1_ : sm_S) : Prop := u_ = none ∧ gi S1_ ∧ ai_fr (sx_W vw_344n) S0_ S1_ ∧ (rg b_ n_ T_ (.inr q_) S1_ ∧ (S1_.1 13 0 53) = ((R_ + wd_ : Nat) : Int) ∧ (∀ j_, S1_.2.2.1 150 0 j_ = if j_ = 40 * fr_ + s_ then (R_ : Int) else S0_.2.2.1 150 0 j_) ∧ rwv (S1_.2.2.1 144 0) (8 * (40 * fr_ + s_)) (r_bt I_ R_ wd_) ∧ (∀ j_, j_ < 8 * (40 * fr_ + s_) ∨ 8 * (40 * fr_ + s_) + 8 ≤ j_ → S1_.2.2.1 144 0 j_ = S0_.2.2.1 144 0 j_) ∧ rnS S1_ ∧ rxn (R_ + wd_) (nho I_ R_ wd_ x0_.1, bho det_ R_ wd_ x0_.2) S1_)
set_option maxHeartbeats 1500000 in
theorem vl_344n {sc_ : Nat × (Nat → Int)} (nm_ : Int) (b_ : Nat → Int) (n_ : Nat) (T_ : Nat) (p_ : Nat) (uu_ : Nat) (f_ : Nat) (q_ : Nat) (A_ : pA) (M_ : Nat) (s_ : Nat) (fr_ : Nat) (wd_ : Nat) (R_ : Nat) (I_ : Nat) (det_ : Int) (x0_ : gN) (S0_ : sm_S) (ht_ : rtab b_ n_ T_ S0_) (hx_ : rg b_ n_ T_ (.inr p_) S0_) (hn_ : nxs b_ n_ 59 f_ p_ uu_) (hq_ : p_ad b_ n_ uu_ = .inr q_) (hf_ : (S0_.1 13 0 29) = (fr_ : Int) ∧ fr_ ≤ 15) (hn1_ : nm_ = (s_ : Int) ∧ s_ < A_.1 M_ ∧ A_.1 M_ ≤ 40 ∧ M_ ≤ 15) (hmd_ : (S0_.1 13 0 28) = (M_ : Int)) (hw_ : S0_.2.2.1 129 0 (40 * M_ + s_) = (wd_ : Int) ∧ 1 ≤ wd_ ∧ wd_ ≤ 8) (hR_ : (S0_.1 13 0 53) = (R_ : Int) ∧ R_ + wd_ ≤ 6) (hms_ : 1 ≤ (S0_.1 13 0 12) ∧ (S0_.1 13 0 12) ≤ 16) (hI1_ : S0_.2.2.1 132 0 ((S0_.1 13 0 12) - 1).toNat = (I_ : Int) ∧ I_ ≤ 12) (hrn_ : rnS S0_) (hnf_ : 1 + (I_ : Int) + R_ + wd_ ≤ (S0_.1 13 0 37)) (hdt_ : S0_.2.2.1 130 0 (40 * M_ + s_) = det_) (hx0_ : rxn R_ x0_ S0_) : ∀ nn_ : Nat, (∀ (kx_ : Int) (k_ : Int) (S_ : sm_S), gi S_ → ai_fr (sx_W vw_344n) S0_ S_ → (((0 ≤ k_ ∧ k_ ≤ (wd_ : Int)) ∧ kx_ = 40 * (M_ : Int) + s_ ∧ (S_.1 13 0 53) = (R_ : Int) + k_) ∧ (rg b_ n_ T_ (.inr p_) S_) ∧ (∀ j_, S_.2.2.1 150 0 j_ = if j_ = 40 * fr_ + s_ then (R_ : Int) else S0_.2.2.1 150 0 j_) ∧ (rwv (S_.2.2.1 144 0) (8 * (40 * fr_ + s_)) (r_bt I_ R_ k_.toNat)) ∧ (∀ j_, j_ < 8 * (40 * fr_ + s_) ∨ 8 * (40 * fr_ + s_) + 8 ≤ j_ → S_.2.2.1 144 0 j_ = S0_.2.2.1 144 0 j_) ∧ (rnS S_) ∧ (rxn (R_ + k_.toNat) (nho I_ R_ k_.toNat x0_.1, bho det_ R_ k_.toNat x0_.2) S_) ∧ True) → (((wd_ : Int) - k_).toNat) < nn_ → sm_T (mt_P sc_) 2 344 (30, [some (.inr (.inr (some (13, 0)))), some (.inl nm_), some (.inl kx_), some (.inl k_), none], [], S_) (fun ro9_ => ∃ u_ S1_, ro9_ = (.inl u_, S1_, 0) ∧ vq_344n nm_ b_ n_ T_ p_ uu_ f_ q_ A_ M_ s_ fr_ wd_ R_ I_ det_ x0_ S0_ u_ S1_)) := by
  intro nn_
  induction nn_ with
  | zero => exact fun _ _ _ _ _ _ h_ => absurd h_ (Nat.not_lt_zero _)
  | succ nn_ ih_ =>
    rintro kx_ k_ S_ hI_ hF_ ⟨h0_, h4_, h5_, h1_, h2_, h6_, h8_, -⟩ hm_
    have f1_ : S_.1 13 0 29 = (fr_ : Int) := (hF_.1 13 0 29 rfl).trans hf_.1
    have m1_ : S_.1 13 0 12 = S0_.1 13 0 12 := hF_.1 13 0 12 rfl
    have w1_ : S_.2.2.1 129 0 kx_.toNat = (wd_ : Int) := by rw [fr_arr (t := 129) (i := 0) hF_ rfl, show kx_.toNat = 40 * M_ + s_ by omega]; exact hw_.1
    have d1_ : S_.2.2.1 130 0 kx_.toNat = det_ := by rw [fr_arr (t := 130) (i := 0) hF_ rfl, show kx_.toNat = 40 * M_ + s_ by omega]; exact hdt_
    have i1_ : S_.2.2.1 132 0 (S_.1 13 0 12 - 1).toNat = (I_ : Int) := by rw [fr_arr (t := 132) (i := 0) hF_ rfl, m1_]; exact hI1_.1
    have ht1_ := rtab_fr ht_ hF_ rfl rfl rfl rfl rfl
    have hwb_ := hw_.2
    have hib_ := hI1_.2
    have n37_ : S_.1 13 0 37 = S0_.1 13 0 37 := hF_.1 13 0 37 rfl
    refine sm_T_go 4 (c1 := (36, [some (.inr (.inr (some (13, 0)))), some (.inl nm_), some (.inl kx_), some (.inl k_), none], [.inl kx_, .inr (.inr (some (129, 0))), .inl k_], S_)) rfl ?_
    refine sm_T_iald (n := 640) rfl rfl (by omega) (by omega) ?_
    have bx1_ : 0 ≤ S_.2.2.1 129 0 kx_.toNat ∧ S_.2.2.1 129 0 kx_.toNat ≤ 8 := hI_.2 129 0 _
    refine sm_T_br (a := 3) (z := 97) rfl (fun cx2_ => ?_) (fun cx2_ => ?_)
    · have cx2_ : (S_.2.2.1 129 0 kx_.toNat) ≤ k_ := of_decide_eq_true cx2_
      refine sm_T_go 2 (c1 := (137, [some (.inr (.inr (some (13, 0)))), some (.inl nm_), some (.inl kx_), some (.inl k_), none], [.inl 59, .inr (.inr (some (13, 0)))], S_)) rfl ?_
      refine sm_T_cal (d1 := 1) (Q1 := vq_343 59 b_ n_ T_ p_ uu_ f_ q_ S_) rfl rfl (by decide) (vc_343 59 b_ n_ T_ p_ uu_ f_ q_ S_ hI_ (by exact ht1_) (by exact h4_) (by exact hn_) (by exact hq_) (by decide)) (fun u_ Sx3_ px6_ => ?_)
      obtain ⟨rfl, hIx4_, hFx5_, px6_⟩ := px6_
      have hFx7_ : ai_fr (sx_W vw_344n) S0_ Sx3_ := ai_fr_tr hF_ (fr_le hFx5_ rfl)
      have e137_ := px6_
      have u137_ := hFx5_.1 13 0 53 rfl
      have a137_ := fr_arr (t := 150) (i := 0) hFx5_ rfl
      have b137_ := fr_arr (t := 144) (i := 0) hFx5_ rfl
      have c137_ := rnS_fr h6_ hFx5_ rfl rfl rfl rfl
      have x137_ := rxn_fr h8_ hFx5_
      refine sm_T_rv rfl ⟨_, _, rfl, rfl, hIx4_, hFx7_, ?_⟩
      refine ⟨e137_, by rw [u137_]; push_cast; omega, fun j_ => by rw [a137_]; exact h5_ j_, by rw [b137_, show wd_ = k_.toNat by omega]; exact h1_, fun j_ hj_ => by rw [b137_]; exact h2_ j_ hj_, c137_, by (rw [show k_.toNat = wd_ by omega] at x137_; exact x137_)⟩
    · have cx2_ : ¬ ((S_.2.2.1 129 0 kx_.toNat) ≤ k_) := of_decide_eq_false cx2_
      have bx8_ : 0 ≤ S_.1 13 0 12 ∧ S_.1 13 0 12 ≤ 16 := hI_.1 13 0 12 rfl
      refine sm_T_go 7 (c1 := (51, [some (.inr (.inr (some (13, 0)))), some (.inl nm_), some (.inl kx_), some (.inl k_), none], [.inl 1, .inl (S_.1 13 0 12), .inr (.inr (some (132, 0))), .inl 1, .inl 2], S_)) rfl ?_
      refine sm_T_bin (w := (S_.1 13 0 12) - 1) rfl (bi_sub (by omega) (by omega) (by omega)) ?_
      refine sm_T_iald (n := 16) rfl rfl (by omega) (by omega) ?_
      have bx9_ : 0 ≤ S_.2.2.1 132 0 ((S_.1 13 0 12) - 1).toNat ∧ S_.2.2.1 132 0 ((S_.1 13 0 12) - 1).toNat ≤ 320 := hI_.2 132 0 _
      refine sm_T_bin (w := (S_.2.2.1 132 0 ((S_.1 13 0 12) - 1).toNat) + 1) rfl (bi_add (by omega) (by omega) (by omega)) ?_
      have bx10_ : 0 ≤ S_.1 13 0 53 ∧ S_.1 13 0 53 ≤ 6 := hI_.1 13 0 53 rfl
      refine sm_T_go 2 (c1 := (58, [some (.inr (.inr (some (13, 0)))), some (.inl nm_), some (.inl kx_), some (.inl k_), none], [.inl (S_.1 13 0 53), .inl ((S_.2.2.1 132 0 ((S_.1 13 0 12) - 1).toNat) + 1), .inl 2], S_)) rfl ?_
      refine sm_T_bin (w := (S_.2.2.1 132 0 ((S_.1 13 0 12) - 1).toNat) + (S_.1 13 0 53) + 1) rfl (bi_add (by omega) (by omega) (by omega)) ?_
      refine sm_T_bin (w := 2 * (S_.2.2.1 132 0 ((S_.1 13 0 12) - 1).toNat) + 2 * (S_.1 13 0 53) + 2) rfl (bi_mul (by omega) (by omega) (by omega)) ?_
      have bx11_ : 0 ≤ S_.1 13 0 29 ∧ S_.1 13 0 29 ≤ 16 := hI_.1 13 0 29 rfl
      refine sm_T_go 7 (c1 := (74, [some (.inr (.inr (some (13, 0)))), some (.inl nm_), some (.inl kx_), some (.inl k_), some (.inl (2 * (S_.2.2.1 132 0 ((S_.1 13 0 12) - 1).toNat) + 2 * (S_.1 13 0 53) + 2))], [.inl (S_.1 13 0 29), .inl 40, .inl 8, .inr (.inr (some (144, 0)))], S_)) rfl ?_
      refine sm_T_bin (w := 40 * (S_.1 13 0 29)) rfl (bi_mul (by omega) (by omega) (by omega)) ?_
      refine sm_T_go 1 (c1 := (76, [some (.inr (.inr (some (13, 0)))), some (.inl nm_), some (.inl kx_), some (.inl k_), some (.inl (2 * (S_.2.2.1 132 0 ((S_.1 13 0 12) - 1).toNat) + 2 * (S_.1 13 0 53) + 2))], [.inl nm_, .inl (40 * (S_.1 13 0 29)), .inl 8, .inr (.inr (some (144, 0)))], S_)) rfl ?_
      refine sm_T_bin (w := 40 * (S_.1 13 0 29) + nm_) rfl (bi_add (by omega) (by omega) (by omega)) ?_
      refine sm_T_bin (w := 320 * (S_.1 13 0 29) + 8 * nm_) rfl (bi_mul (by omega) (by omega) (by omega)) ?_
      refine sm_T_go 1 (c1 := (79, [some (.inr (.inr (some (13, 0)))), some (.inl nm_), some (.inl kx_), some (.inl k_), some (.inl (2 * (S_.2.2.1 132 0 ((S_.1 13 0 12) - 1).toNat) + 2 * (S_.1 13 0 53) + 2))], [.inl k_, .inl (320 * (S_.1 13 0 29) + 8 * nm_), .inr (.inr (some (144, 0)))], S_)) rfl ?_
      refine sm_T_bin (w := 320 * (S_.1 13 0 29) + 8 * nm_ + k_) rfl (bi_add (by omega) (by omega) (by omega)) ?_
      refine sm_T_go 1 (c1 := (82, [some (.inr (.inr (some (13, 0)))), some (.inl nm_), some (.inl kx_), some (.inl k_), some (.inl (2 * (S_.2.2.1 132 0 ((S_.1 13 0 12) - 1).toNat) + 2 * (S_.1 13 0 53) + 2))], [.inl (2 * (S_.2.2.1 132 0 ((S_.1 13 0 12) - 1).toNat) + 2 * (S_.1 13 0 53) + 2), .inl (320 * (S_.1 13 0 29) + 8 * nm_ + k_), .inr (.inr (some (144, 0)))], S_)) rfl ?_
      refine sm_T_iast (n := 5120) rfl rfl (by omega) (by omega) ?_
      have hIx12_ : gi (sm_aI S_ 144 0 (320 * (S_.1 13 0 29) + 8 * nm_ + k_).toNat (2 * (S_.2.2.1 132 0 ((S_.1 13 0 12) - 1).toNat) + 2 * (S_.1 13 0 53) + 2)) := gi_aI hI_ (show 0 ≤ 2 * (S_.2.2.1 132 0 ((S_.1 13 0 12) - 1).toNat) + 2 * (S_.1 13 0 53) + 2 ∧ 2 * (S_.2.2.1 132 0 ((S_.1 13 0 12) - 1).toNat) + 2 * (S_.1 13 0 53) + 2 ≤ 2047 from ⟨by omega, by omega⟩)
      have hFx13_ : ai_fr (sx_W vw_344n) S0_ (sm_aI S_ 144 0 (320 * (S_.1 13 0 29) + 8 * nm_ + k_).toNat (2 * (S_.2.2.1 132 0 ((S_.1 13 0 12) - 1).toNat) + 2 * (S_.1 13 0 53) + 2)) := ai_fr_tr hF_ (ai_fr_aI rfl)
      refine sm_T_go 5 (c1 := (93, [some (.inr (.inr (some (13, 0)))), some (.inl nm_), some (.inl kx_), some (.inl k_), some (.inl (2 * (S_.2.2.1 132 0 ((S_.1 13 0 12) - 1).toNat) + 2 * (S_.1 13 0 53) + 2))], [.inl (2 * (S_.2.2.1 132 0 ((S_.1 13 0 12) - 1).toNat) + 2 * (S_.1 13 0 53) + 2), .inl (S_.1 13 0 53), .inr (.inr (some (151, 0)))], sm_aI S_ 144 0 (320 * (S_.1 13 0 29) + 8 * nm_ + k_).toNat (2 * (S_.2.2.1 132 0 ((S_.1 13 0 12) - 1).toNat) + 2 * (S_.1 13 0 53) + 2))) rfl ?_
      refine sm_T_iast (n := 1024) rfl rfl (by omega) (by omega) ?_
      have hIx14_ : gi (sm_aI (sm_aI S_ 144 0 (320 * (S_.1 13 0 29) + 8 * nm_ + k_).toNat (2 * (S_.2.2.1 132 0 ((S_.1 13 0 12) - 1).toNat) + 2 * (S_.1 13 0 53) + 2)) 151 0 (S_.1 13 0 53).toNat (2 * (S_.2.2.1 132 0 ((S_.1 13 0 12) - 1).toNat) + 2 * (S_.1 13 0 53) + 2)) := gi_aI hIx12_ (show 0 ≤ 2 * (S_.2.2.1 132 0 ((S_.1 13 0 12) - 1).toNat) + 2 * (S_.1 13 0 53) + 2 ∧ 2 * (S_.2.2.1 132 0 ((S_.1 13 0 12) - 1).toNat) + 2 * (S_.1 13 0 53) + 2 ≤ 2047 from ⟨by omega, by omega⟩)
      have hFx15_ : ai_fr (sx_W vw_344n) S0_ (sm_aI (sm_aI S_ 144 0 (320 * (S_.1 13 0 29) + 8 * nm_ + k_).toNat (2 * (S_.2.2.1 132 0 ((S_.1 13 0 12) - 1).toNat) + 2 * (S_.1 13 0 53) + 2)) 151 0 (S_.1 13 0 53).toNat (2 * (S_.2.2.1 132 0 ((S_.1 13 0 12) - 1).toNat) + 2 * (S_.1 13 0 53) + 2)) := ai_fr_tr hFx13_ (ai_fr_aI rfl)
      have bx16_ : 0 ≤ S_.1 13 0 52 ∧ S_.1 13 0 52 ≤ 63 := hI_.1 13 0 52 rfl
      refine sm_T_go 6 (c1 := (104, [some (.inr (.inr (some (13, 0)))), some (.inl nm_), some (.inl kx_), some (.inl k_), some (.inl (2 * (S_.2.2.1 132 0 ((S_.1 13 0 12) - 1).toNat) + 2 * (S_.1 13 0 53) + 2))], [.inl kx_, .inr (.inr (some (130, 0))), .inl (S_.1 13 0 52), .inr (.inr (some (13, 0)))], sm_aI (sm_aI S_ 144 0 (320 * (S_.1 13 0 29) + 8 * nm_ + k_).toNat (2 * (S_.2.2.1 132 0 ((S_.1 13 0 12) - 1).toNat) + 2 * (S_.1 13 0 53) + 2)) 151 0 (S_.1 13 0 53).toNat (2 * (S_.2.2.1 132 0 ((S_.1 13 0 12) - 1).toNat) + 2 * (S_.1 13 0 53) + 2))) rfl ?_
      refine sm_T_iald (n := 640) rfl rfl (by omega) (by omega) ?_
      have bx17_ : 0 ≤ S_.2.2.1 130 0 kx_.toNat ∧ S_.2.2.1 130 0 kx_.toNat ≤ 2147483647 := hI_.2 130 0 _
      refine sm_T_go 1 (c1 := (106, [some (.inr (.inr (some (13, 0)))), some (.inl nm_), some (.inl kx_), some (.inl k_), some (.inl (2 * (S_.2.2.1 132 0 ((S_.1 13 0 12) - 1).toNat) + 2 * (S_.1 13 0 53) + 2))], [.inl k_, .inl (S_.2.2.1 130 0 kx_.toNat), .inl (S_.1 13 0 52), .inr (.inr (some (13, 0)))], sm_aI (sm_aI S_ 144 0 (320 * (S_.1 13 0 29) + 8 * nm_ + k_).toNat (2 * (S_.2.2.1 132 0 ((S_.1 13 0 12) - 1).toNat) + 2 * (S_.1 13 0 53) + 2)) 151 0 (S_.1 13 0 53).toNat (2 * (S_.2.2.1 132 0 ((S_.1 13 0 12) - 1).toNat) + 2 * (S_.1 13 0 53) + 2))) rfl ?_
      refine sm_T_bin (w := (i_shr (S_.2.2.1 130 0 kx_.toNat) k_)) rfl rfl ?_
      refine sm_T_go 1 (c1 := (108, [some (.inr (.inr (some (13, 0)))), some (.inl nm_), some (.inl kx_), some (.inl k_), some (.inl (2 * (S_.2.2.1 132 0 ((S_.1 13 0 12) - 1).toNat) + 2 * (S_.1 13 0 53) + 2))], [.inl 1, .inl (i_shr (S_.2.2.1 130 0 kx_.toNat) k_), .inl (S_.1 13 0 52), .inr (.inr (some (13, 0)))], sm_aI (sm_aI S_ 144 0 (320 * (S_.1 13 0 29) + 8 * nm_ + k_).toNat (2 * (S_.2.2.1 132 0 ((S_.1 13 0 12) - 1).toNat) + 2 * (S_.1 13 0 53) + 2)) 151 0 (S_.1 13 0 53).toNat (2 * (S_.2.2.1 132 0 ((S_.1 13 0 12) - 1).toNat) + 2 * (S_.1 13 0 53) + 2))) rfl ?_
      refine sm_T_bin (w := ((i_shr (S_.2.2.1 130 0 kx_.toNat) k_) % 2)) rfl (bi_msk (k := 1) (by decide)) ?_
      refine sm_T_go 2 (c1 := (113, [some (.inr (.inr (some (13, 0)))), some (.inl nm_), some (.inl kx_), some (.inl k_), some (.inl (2 * (S_.2.2.1 132 0 ((S_.1 13 0 12) - 1).toNat) + 2 * (S_.1 13 0 53) + 2))], [.inl (S_.1 13 0 53), .inl ((i_shr (S_.2.2.1 130 0 kx_.toNat) k_) % 2), .inl (S_.1 13 0 52), .inr (.inr (some (13, 0)))], sm_aI (sm_aI S_ 144 0 (320 * (S_.1 13 0 29) + 8 * nm_ + k_).toNat (2 * (S_.2.2.1 132 0 ((S_.1 13 0 12) - 1).toNat) + 2 * (S_.1 13 0 53) + 2)) 151 0 (S_.1 13 0 53).toNat (2 * (S_.2.2.1 132 0 ((S_.1 13 0 12) - 1).toNat) + 2 * (S_.1 13 0 53) + 2))) rfl ?_
      refine sm_T_bin (w := (i_shl ((i_shr (S_.2.2.1 130 0 kx_.toNat) k_) % 2) (S_.1 13 0 53))) rfl rfl ?_
      have bx18_ := i_shb (x_ := ((i_shr (S_.2.2.1 130 0 kx_.toNat) k_) % 2)) (y_ := (S_.1 13 0 53)) (by omega) (by omega)
      refine sm_T_bin (w := (i_or (S_.1 13 0 52) (i_shl ((i_shr (S_.2.2.1 130 0 kx_.toNat) k_) % 2) (S_.1 13 0 53)))) rfl rfl ?_
      have bx19_ := i_orb (x_ := (S_.1 13 0 52)) (y_ := (i_shl ((i_shr (S_.2.2.1 130 0 kx_.toNat) k_) % 2) (S_.1 13 0 53))) (by omega) (by omega)
      have hIx20_ : gi (sm_pI (sm_aI (sm_aI S_ 144 0 (320 * (S_.1 13 0 29) + 8 * nm_ + k_).toNat (2 * (S_.2.2.1 132 0 ((S_.1 13 0 12) - 1).toNat) + 2 * (S_.1 13 0 53) + 2)) 151 0 (S_.1 13 0 53).toNat (2 * (S_.2.2.1 132 0 ((S_.1 13 0 12) - 1).toNat) + 2 * (S_.1 13 0 53) + 2)) 13 0 52 (i_or (S_.1 13 0 52) (i_shl ((i_shr (S_.2.2.1 130 0 kx_.toNat) k_) % 2) (S_.1 13 0 53)))) := gi_pI hIx14_ (show 0 ≤ (i_or (S_.1 13 0 52) (i_shl ((i_shr (S_.2.2.1 130 0 kx_.toNat) k_) % 2) (S_.1 13 0 53))) ∧ (i_or (S_.1 13 0 52) (i_shl ((i_shr (S_.2.2.1 130 0 kx_.toNat) k_) % 2) (S_.1 13 0 53))) ≤ 63 from ⟨by omega, by omega⟩)
      have hFx21_ : ai_fr (sx_W vw_344n) S0_ (sm_pI (sm_aI (sm_aI S_ 144 0 (320 * (S_.1 13 0 29) + 8 * nm_ + k_).toNat (2 * (S_.2.2.1 132 0 ((S_.1 13 0 12) - 1).toNat) + 2 * (S_.1 13 0 53) + 2)) 151 0 (S_.1 13 0 53).toNat (2 * (S_.2.2.1 132 0 ((S_.1 13 0 12) - 1).toNat) + 2 * (S_.1 13 0 53) + 2)) 13 0 52 (i_or (S_.1 13 0 52) (i_shl ((i_shr (S_.2.2.1 130 0 kx_.toNat) k_) % 2) (S_.1 13 0 53)))) := ai_fr_tr hFx15_ (ai_fr_pI rfl)
      refine sm_T_go 5 (c1 := (124, [some (.inr (.inr (some (13, 0)))), some (.inl nm_), some (.inl kx_), some (.inl k_), some (.inl (2 * (S_.2.2.1 132 0 ((S_.1 13 0 12) - 1).toNat) + 2 * (S_.1 13 0 53) + 2))], [.inl 1, .inl (S_.1 13 0 53), .inr (.inr (some (13, 0)))], sm_pI (sm_aI (sm_aI S_ 144 0 (320 * (S_.1 13 0 29) + 8 * nm_ + k_).toNat (2 * (S_.2.2.1 132 0 ((S_.1 13 0 12) - 1).toNat) + 2 * (S_.1 13 0 53) + 2)) 151 0 (S_.1 13 0 53).toNat (2 * (S_.2.2.1 132 0 ((S_.1 13 0 12) - 1).toNat) + 2 * (S_.1 13 0 53) + 2)) 13 0 52 (i_or (S_.1 13 0 52) (i_shl ((i_shr (S_.2.2.1 130 0 kx_.toNat) k_) % 2) (S_.1 13 0 53))))) rfl ?_
      refine sm_T_bin (w := (S_.1 13 0 53) + 1) rfl (bi_add (by omega) (by omega) (by omega)) ?_
      have hIx22_ : gi (sm_pI (sm_pI (sm_aI (sm_aI S_ 144 0 (320 * (S_.1 13 0 29) + 8 * nm_ + k_).toNat (2 * (S_.2.2.1 132 0 ((S_.1 13 0 12) - 1).toNat) + 2 * (S_.1 13 0 53) + 2)) 151 0 (S_.1 13 0 53).toNat (2 * (S_.2.2.1 132 0 ((S_.1 13 0 12) - 1).toNat) + 2 * (S_.1 13 0 53) + 2)) 13 0 52 (i_or (S_.1 13 0 52) (i_shl ((i_shr (S_.2.2.1 130 0 kx_.toNat) k_) % 2) (S_.1 13 0 53)))) 13 0 53 ((S_.1 13 0 53) + 1)) := gi_pI hIx20_ (show 0 ≤ (S_.1 13 0 53) + 1 ∧ (S_.1 13 0 53) + 1 ≤ 6 from ⟨by omega, by omega⟩)
      have hFx23_ : ai_fr (sx_W vw_344n) S0_ (sm_pI (sm_pI (sm_aI (sm_aI S_ 144 0 (320 * (S_.1 13 0 29) + 8 * nm_ + k_).toNat (2 * (S_.2.2.1 132 0 ((S_.1 13 0 12) - 1).toNat) + 2 * (S_.1 13 0 53) + 2)) 151 0 (S_.1 13 0 53).toNat (2 * (S_.2.2.1 132 0 ((S_.1 13 0 12) - 1).toNat) + 2 * (S_.1 13 0 53) + 2)) 13 0 52 (i_or (S_.1 13 0 52) (i_shl ((i_shr (S_.2.2.1 130 0 kx_.toNat) k_) % 2) (S_.1 13 0 53)))) 13 0 53 ((S_.1 13 0 53) + 1)) := ai_fr_tr hFx21_ (ai_fr_pI rfl)
      refine sm_T_go 1 (c1 := (128, [some (.inr (.inr (some (13, 0)))), some (.inl nm_), some (.inl kx_), some (.inl k_), some (.inl (2 * (S_.2.2.1 132 0 ((S_.1 13 0 12) - 1).toNat) + 2 * (S_.1 13 0 53) + 2))], [], sm_pI (sm_pI (sm_aI (sm_aI S_ 144 0 (320 * (S_.1 13 0 29) + 8 * nm_ + k_).toNat (2 * (S_.2.2.1 132 0 ((S_.1 13 0 12) - 1).toNat) + 2 * (S_.1 13 0 53) + 2)) 151 0 (S_.1 13 0 53).toNat (2 * (S_.2.2.1 132 0 ((S_.1 13 0 12) - 1).toNat) + 2 * (S_.1 13 0 53) + 2)) 13 0 52 (i_or (S_.1 13 0 52) (i_shl ((i_shr (S_.2.2.1 130 0 kx_.toNat) k_) % 2) (S_.1 13 0 53)))) 13 0 53 ((S_.1 13 0 53) + 1))) rfl ?_
      refine sm_T_inc (a := 3) (z := 1) (v := k_) (w := k_ + 1) rfl rfl (by omega) (by omega) (by omega) ?_
      refine sm_T_go 1 (c1 := (30, [some (.inr (.inr (some (13, 0)))), some (.inl nm_), some (.inl kx_), some (.inl (k_ + 1)), some (.inl (2 * (S_.2.2.1 132 0 ((S_.1 13 0 12) - 1).toNat) + 2 * (S_.1 13 0 53) + 2))], [], sm_pI (sm_pI (sm_aI (sm_aI S_ 144 0 (320 * (S_.1 13 0 29) + 8 * nm_ + k_).toNat (2 * (S_.2.2.1 132 0 ((S_.1 13 0 12) - 1).toNat) + 2 * (S_.1 13 0 53) + 2)) 151 0 (S_.1 13 0 53).toNat (2 * (S_.2.2.1 132 0 ((S_.1 13 0 12) - 1).toNat) + 2 * (S_.1 13 0 53) + 2)) 13 0 52 (i_or (S_.1 13 0 52) (i_shl ((i_shr (S_.2.2.1 130 0 kx_.toNat) k_) % 2) (S_.1 13 0 53)))) 13 0 53 ((S_.1 13 0 53) + 1))) rfl ?_
      refine sm_T_wk [some (.inr (.inr (some (13, 0)))), some (.inl nm_), some (.inl kx_), some (.inl (k_ + 1)), none] (by exact ⟨rfl, rfl, rfl, rfl, trivial⟩) ?_
      refine ih_ kx_ (k_ + 1) (sm_pI (sm_pI (sm_aI (sm_aI S_ 144 0 (320 * (S_.1 13 0 29) + 8 * nm_ + k_).toNat (2 * (S_.2.2.1 132 0 ((S_.1 13 0 12) - 1).toNat) + 2 * (S_.1 13 0 53) + 2)) 151 0 (S_.1 13 0 53).toNat (2 * (S_.2.2.1 132 0 ((S_.1 13 0 12) - 1).toNat) + 2 * (S_.1 13 0 53) + 2)) 13 0 52 (i_or (S_.1 13 0 52) (i_shl ((i_shr (S_.2.2.1 130 0 kx_.toNat) k_) % 2) (S_.1 13 0 53)))) 13 0 53 ((S_.1 13 0 53) + 1)) hIx22_ hFx23_ ⟨?_, ?_, ?_, ?_, ?_, ?_, ?_, trivial⟩ ?_
      · (try simp only [rd_eq, rd_ne, rf_eq, rf_nk, rf_nt, rd_fa, rd_af, rd_fl, rd_al, rd_lf, rd_la, rd_leq, rd_lne, rd_fr, rd_ar, ne_eq, Nat.reduceEqDiff, not_false_eq_true]); omega
      · exact h4_
      · (intro j_; (try simp only [rd_eq, rd_ne, rf_eq, rf_nk, rf_nt, rd_fa, rd_af, rd_fl, rd_al, rd_lf, rd_la, rd_leq, rd_lne, rd_fr, rd_ar, ne_eq, Nat.reduceEqDiff, not_false_eq_true]); exact h5_ j_)
      · rw [show (k_ + 1).toNat = k_.toNat + 1 by omega, r_bt_s]
        refine rwv_ap (q_ := 8 * (40 * fr_ + s_) + k_.toNat) h1_ (by rw [r_bt_l]) (fun j9_ => ?_)
        (try simp only [rd_eq, rd_ne, rf_eq, rf_nk, rf_nt, rd_fa, rd_af, rd_fl, rd_al, rd_lf, rd_la, rd_leq, rd_lne, rd_fr, rd_ar, ne_eq, Nat.reduceEqDiff, not_false_eq_true])
        have ec : (320 * S_.1 13 0 29 + 8 * nm_ + k_).toNat = 8 * (40 * fr_ + s_) + k_.toNat := by omega
        rw [ec]
        by_cases q9_ : j9_ = 8 * (40 * fr_ + s_) + k_.toNat
        · rw [if_pos q9_, if_pos q9_]; push_cast; omega
        · rw [if_neg q9_, if_neg q9_]
      · intro j_ hj_
        (try simp only [rd_eq, rd_ne, rf_eq, rf_nk, rf_nt, rd_fa, rd_af, rd_fl, rd_al, rd_lf, rd_la, rd_leq, rd_lne, rd_fr, rd_ar, ne_eq, Nat.reduceEqDiff, not_false_eq_true])
        rw [if_neg (by omega)]
        exact h2_ j_ hj_
      · obtain ⟨u9_, hu9_⟩ : ∃ u9_ : Nat, S_.1 13 0 53 = (u9_ : Int) := ⟨R_ + k_.toNat, by omega⟩
        have a6_ := h6_.1
        have c6_ := h6_.2
        rw [hu9_, Int.toNat_natCast] at a6_
        refine ⟨?_, fun k9_ hk9_ => ?_⟩
        · (try simp only [rd_eq, rd_ne, rf_eq, rf_nk, rf_nt, rd_fa, rd_af, rd_fl, rd_al, rd_lf, rd_la, rd_leq, rd_lne, rd_fr, rd_ar, ne_eq, Nat.reduceEqDiff, not_false_eq_true]); rw [hu9_, show ((u9_ : Int) + 1).toNat = u9_ + 1 by omega]; exact bg_up a6_.1 a6_.2 (by omega) (by omega)
        · (try simp only [rd_eq, rd_ne, rf_eq, rf_nk, rf_nt, rd_fa, rd_af, rd_fl, rd_al, rd_lf, rd_la, rd_leq, rd_lne, rd_fr, rd_ar, ne_eq, Nat.reduceEqDiff, not_false_eq_true]); simp only [rf_eq, rf_nk, rd_fa, ne_eq, Nat.reduceEqDiff, not_false_eq_true] at hk9_; by_cases q9_ : k9_ = (S_.1 13 0 53).toNat; (rw [if_pos q9_]; omega); (rw [if_neg q9_]; exact c6_ k9_ (by omega))
      · have r9_ : (S_.1 13 0 53) = ((R_ + k_.toNat : Nat) : Int) := by omega
        have d8_ : S_.1 13 0 52 = bho det_ R_ k_.toNat x0_.2 := h8_.1
        refine ⟨?_, fun i9_ hi9_ => ?_⟩
        · rw [show (k_ + 1).toNat = k_.toNat + 1 by omega]; show _ = bho det_ R_ (k_.toNat + 1) x0_.2; rw [bho_s, show ((k_.toNat : Nat) : Int) = k_ by omega]; (try simp only [rd_eq, rd_ne, rf_eq, rf_nk, rf_nt, rd_fa, rd_af, rd_fl, rd_al, rd_lf, rd_la, rd_leq, rd_lne, rd_fr, rd_ar, ne_eq, Nat.reduceEqDiff, not_false_eq_true]); rw [r9_, d1_, d8_]
        · have q8_ := h8_.2 i9_; show _ = nho I_ R_ (k_ + 1).toNat x0_.1 i9_; rw [show (k_ + 1).toNat = k_.toNat + 1 by omega]; (try simp only [rd_eq, rd_ne, rf_eq, rf_nk, rf_nt, rd_fa, rd_af, rd_fl, rd_al, rd_lf, rd_la, rd_leq, rd_lne, rd_fr, rd_ar, ne_eq, Nat.reduceEqDiff, not_false_eq_true]); by_cases q9_ : i9_ = (S_.1 13 0 53).toNat; (rw [if_pos q9_]; unfold nho; rw [if_pos (by omega)]; push_cast; omega); (rw [if_neg q9_]; refine (q8_ (by omega)).trans ?_; show nho I_ R_ k_.toNat x0_.1 i9_ = _; unfold nho; by_cases q7_ : R_ ≤ i9_ ∧ i9_ < R_ + k_.toNat; (rw [if_pos q7_, if_pos (by omega)]); (rw [if_neg q7_, if_neg (by omega)]))
      · omega
set_option maxHeartbeats 1500000 in
theorem vc_344n {sc_ : Nat × (Nat → Int)} (nm_ : Int) (b_ : Nat → Int) (n_ : Nat) (T_ : Nat) (p_ : Nat) (uu_ : Nat) (f_ : Nat) (q_ : Nat) (A_ : pA) (M_ : Nat) (s_ : Nat) (fr_ : Nat) (wd_ : Nat) (R_ : Nat) (I_ : Nat) (det_ : Int) (x0_ : gN) (S0_ : sm_S) (hI_ : gi S0_) (ht_ : rtab b_ n_ T_ S0_) (hx_ : rg b_ n_ T_ (.inr p_) S0_) (hn_ : nxs b_ n_ 59 f_ p_ uu_) (hq_ : p_ad b_ n_ uu_ = .inr q_) (hf_ : (S0_.1 13 0 29) = (fr_ : Int) ∧ fr_ ≤ 15) (hn1_ : nm_ = (s_ : Int) ∧ s_ < A_.1 M_ ∧ A_.1 M_ ≤ 40 ∧ M_ ≤ 15) (hmd_ : (S0_.1 13 0 28) = (M_ : Int)) (hw_ : S0_.2.2.1 129 0 (40 * M_ + s_) = (wd_ : Int) ∧ 1 ≤ wd_ ∧ wd_ ≤ 8) (hR_ : (S0_.1 13 0 53) = (R_ : Int) ∧ R_ + wd_ ≤ 6) (hms_ : 1 ≤ (S0_.1 13 0 12) ∧ (S0_.1 13 0 12) ≤ 16) (hI1_ : S0_.2.2.1 132 0 ((S0_.1 13 0 12) - 1).toNat = (I_ : Int) ∧ I_ ≤ 12) (hrn_ : rnS S0_) (hnf_ : 1 + (I_ : Int) + R_ + wd_ ≤ (S0_.1 13 0 37)) (hdt_ : S0_.2.2.1 130 0 (40 * M_ + s_) = det_) (hx0_ : rxn R_ x0_ S0_) : sm_T (mt_P sc_) 2 344 (0, [some (.inr (.inr (some (13, 0)))), some (.inl nm_), none, none, none], [], S0_) (fun ro9_ => ∃ u_ S1_, ro9_ = (.inl u_, S1_, 0) ∧ vq_344n nm_ b_ n_ T_ p_ uu_ f_ q_ A_ M_ s_ fr_ wd_ R_ I_ det_ x0_ S0_ u_ S1_) := by
  have hF_ : ai_fr (sx_W vw_344n) S0_ S0_ := ai_fr_rf
  have bx1_ : 0 ≤ S0_.1 13 0 28 ∧ S0_.1 13 0 28 ≤ 15 := hI_.1 13 0 28 rfl
  refine sm_T_go 3 (c1 := (6, [some (.inr (.inr (some (13, 0)))), some (.inl nm_), none, none, none], [.inl (S0_.1 13 0 28), .inl 40], S0_)) rfl ?_
  refine sm_T_bin (w := 40 * (S0_.1 13 0 28)) rfl (bi_mul (by omega) (by omega) (by omega)) ?_
  refine sm_T_go 1 (c1 := (8, [some (.inr (.inr (some (13, 0)))), some (.inl nm_), none, none, none], [.inl nm_, .inl (40 * (S0_.1 13 0 28))], S0_)) rfl ?_
  refine sm_T_bin (w := 40 * (S0_.1 13 0 28) + nm_) rfl (bi_add (by omega) (by omega) (by omega)) ?_
  have bx2_ : 0 ≤ S0_.1 13 0 29 ∧ S0_.1 13 0 29 ≤ 16 := hI_.1 13 0 29 rfl
  refine sm_T_go 6 (c1 := (20, [some (.inr (.inr (some (13, 0)))), some (.inl nm_), some (.inl (40 * (S0_.1 13 0 28) + nm_)), none, none], [.inl (S0_.1 13 0 29), .inl 40, .inr (.inr (some (150, 0)))], S0_)) rfl ?_
  refine sm_T_bin (w := 40 * (S0_.1 13 0 29)) rfl (bi_mul (by omega) (by omega) (by omega)) ?_
  refine sm_T_go 1 (c1 := (22, [some (.inr (.inr (some (13, 0)))), some (.inl nm_), some (.inl (40 * (S0_.1 13 0 28) + nm_)), none, none], [.inl nm_, .inl (40 * (S0_.1 13 0 29)), .inr (.inr (some (150, 0)))], S0_)) rfl ?_
  refine sm_T_bin (w := 40 * (S0_.1 13 0 29) + nm_) rfl (bi_add (by omega) (by omega) (by omega)) ?_
  have bx3_ : 0 ≤ S0_.1 13 0 53 ∧ S0_.1 13 0 53 ≤ 6 := hI_.1 13 0 53 rfl
  refine sm_T_go 2 (c1 := (27, [some (.inr (.inr (some (13, 0)))), some (.inl nm_), some (.inl (40 * (S0_.1 13 0 28) + nm_)), none, none], [.inl (S0_.1 13 0 53), .inl (40 * (S0_.1 13 0 29) + nm_), .inr (.inr (some (150, 0)))], S0_)) rfl ?_
  refine sm_T_iast (n := 640) rfl rfl (by omega) (by omega) ?_
  have hIx4_ : gi (sm_aI S0_ 150 0 (40 * (S0_.1 13 0 29) + nm_).toNat (S0_.1 13 0 53)) := gi_aI hI_ (show 0 ≤ (S0_.1 13 0 53) ∧ (S0_.1 13 0 53) ≤ 6 from ⟨by omega, by omega⟩)
  have hFx5_ : ai_fr (sx_W vw_344n) S0_ (sm_aI S0_ 150 0 (40 * (S0_.1 13 0 29) + nm_).toNat (S0_.1 13 0 53)) := ai_fr_tr hF_ (ai_fr_aI rfl)
  refine sm_T_go 2 (c1 := (30, [some (.inr (.inr (some (13, 0)))), some (.inl nm_), some (.inl (40 * (S0_.1 13 0 28) + nm_)), some (.inl 0), none], [], sm_aI S0_ 150 0 (40 * (S0_.1 13 0 29) + nm_).toNat (S0_.1 13 0 53))) rfl ?_
  refine (vl_344n nm_ b_ n_ T_ p_ uu_ f_ q_ A_ M_ s_ fr_ wd_ R_ I_ det_ x0_ S0_ ht_ hx_ hn_ hq_ hf_ hn1_ hmd_ hw_ hR_ hms_ hI1_ hrn_ hnf_ hdt_ hx0_ _) (40 * (S0_.1 13 0 28) + nm_) 0 (sm_aI S0_ 150 0 (40 * (S0_.1 13 0 29) + nm_).toNat (S0_.1 13 0 53)) hIx4_ hFx5_ ⟨?_, ?_, ?_, ?_, ?_, ?_, ?_, trivial⟩ (Nat.lt_succ_self _)
  · (try simp only [rd_eq, rd_ne, rf_eq, rf_nk, rf_nt, rd_fa, rd_af, rd_fl, rd_al, rd_lf, rd_la, rd_leq, rd_lne, rd_fr, rd_ar, ne_eq, Nat.reduceEqDiff, not_false_eq_true]); omega
  · exact hx_
  · (intro j_; (try simp only [rd_eq, rd_ne, rf_eq, rf_nk, rf_nt, rd_fa, rd_af, rd_fl, rd_al, rd_lf, rd_la, rd_leq, rd_lne, rd_fr, rd_ar, ne_eq, Nat.reduceEqDiff, not_false_eq_true]); rw [hR_.1, show (40 * S0_.1 13 0 29 + nm_).toNat = 40 * fr_ + s_ by omega])
  · (intro k9_ z9_ e9_; simp [r_bt] at e9_)
  · (intro j_ hj_; exact rd_ne (by decide))
  · exact rnS_fr (w_ := ([], [150], [])) hrn_ (ai_fr_aI rfl) rfl rfl rfl rfl
  · refine ⟨hx0_.1, fun i9_ hi9_ => ?_⟩
    rw [rd_ne (by decide)]
    show S0_.2.2.1 151 0 i9_ = nho I_ R_ 0 x0_.1 i9_
    unfold nho
    rw [if_neg (by omega)]
    exact hx0_.2 i9_ (by omega)
/-! M_.makeNext -/
def vw_347n : sx_Wl := ([(13, 9), (13, 10), (13, 11), (13, 32), (13, 33), (13, 34), (13, 37)], [136, 137, 138, 139, 140, 141, 142, 143, 151], [])
def vq_347n (b_ : Nat → Int) (n_ : Nat) (T_ : Nat) (F_ : Nat) (I_ : Nat) (A_ : pA) (B_ : pA) (X_ : Nat → gQ → gE → Option (gQ × gE)) (M_ : Nat) (fr_ : Nat) (q0_ : gQ) (E_ : gE) (O_ : gO) (p_ : Nat) (s_ : Nat) (p1_ : Nat) (p2_ : Nat) (xr : pR) (y_ : Nat) (rb : Nat) (R_ : Nat) (x0_ : gN) (S0_ : sm_S) (u_ : Option sm_V) (S1_ : sm_S) : Prop := u_ = none ∧ gi S1_ ∧ ai_fr (sx_W vw_347n) S0_ S1_ ∧ ((rg b_ n_ T_ (.inr y_) S1_ ∧ ∃ G_ v9_, ev F_ I_ B_ X_ M_ (q0_, E_, O_, []) xr.2.2 = some ((G_, q0_.2), E_, O_, [v9_]) ∧ h_tp xr.2.1 = (v9_.length : Int) ∧ (1 ≤ v9_.length ∧ v9_.length ≤ 8) ∧ rgl F_ G_ S1_ ∧ imq (S1_.1 13 0 37 - S1_.1 13 0 38 ≤ 1000) (rxn R_ (nnx rb v9_ x0_.1, x0_.2) S1_)) ∧ imq (S1_.1 13 0 37 - S1_.1 13 0 38 ≤ 1000) (rnS S1_))
set_option maxHeartbeats 1500000 in
theorem vl_347n {sc_ : Nat × (Nat → Int)} (b_ : Nat → Int) (n_ : Nat) (T_ : Nat) (F_ : Nat) (I_ : Nat) (A_ : pA) (B_ : pA) (X_ : Nat → gQ → gE → Option (gQ × gE)) (M_ : Nat) (fr_ : Nat) (q0_ : gQ) (E_ : gE) (O_ : gO) (p_ : Nat) (s_ : Nat) (p1_ : Nat) (p2_ : Nat) (xr : pR) (y_ : Nat) (rb : Nat) (R_ : Nat) (x0_ : gN) (S0_ : sm_S) (ht_ : rtab b_ n_ T_ S0_) (hx_ : rg b_ n_ T_ (.inr p_) S0_) (hm1_ : (S0_.1 13 0 27) = 1) (hen_ : r_e1 b_ n_ T_ B_ M_ fr_ S0_) (hA_ : a_ok b_ n_ A_ M_) (hxx_ : a_ex A_ B_ M_) (hX_ : ∀ d_ q_ e_ z_, X_ d_ q_ e_ = some z_ → q_.1.length ≤ z_.1.1.length) (hte_ : ten B_ M_ (A_.1 M_) E_ O_) (hev_ : rev fr_ (A_.1 M_) E_ O_ (q0_.1.length ≤ 1001) S0_) (hg_ : rgl F_ q0_.1 S0_) (hk_ : lx_kd b_ n_ p_ = 1) (hfn_ : p_fn b_ n_ A_ M_ p_ = (s_ : Int)) (ha1_ : p_ad b_ n_ p_ = .inr p1_) (hk256_ : lx_kd b_ n_ p1_ = 256) (ha2_ : p_ad b_ n_ p1_ = .inr p2_) (hxr_ : p_ex b_ n_ false (p_pd b_ n_ A_ M_) [] p2_ = .inr xr) (h59_ : p_nd b_ n_ 59 xr.1 = .inr y_) (hrb_ : S0_.2.2.1 150 0 (40 * fr_ + s_) = (rb : Int)) (hrn_ : rnS S0_) (hlw_ : lwS F_ (q0_, E_, O_, [])) (hXw_ : lwX F_ I_ X_) (hRF_ : 1 + I_ + q0_.2.1 ≤ F_) (hwd_ : h_tp xr.2.1 = B_.2.2.2.1 (40 * M_ + s_)) (hx0_ : rxn R_ x0_ S0_) : ∀ nn_ : Nat, (∀ (nv_ : Int) (kx_ : Int) (k_ : Int) (S_ : sm_S), gi S_ → ai_fr (sx_W vw_347n) S0_ S_ → ((0 ≤ k_ ∧ nv_ = (s_ : Int) ∧ kx_ = 40 * (M_ : Int) + s_ ∧ s_ < 40) ∧ (rg b_ n_ T_ (.inr xr.1) S_) ∧ (∃ G_ v9_, ev F_ I_ B_ X_ M_ (q0_, E_, O_, []) xr.2.2 = some ((G_, q0_.2), E_, O_, [v9_]) ∧ h_tp xr.2.1 = (v9_.length : Int) ∧ (1 ≤ v9_.length ∧ v9_.length ≤ 8) ∧ rgl F_ G_ S_ ∧ imq (S_.1 13 0 37 - S_.1 13 0 38 ≤ 1000) (rxn R_ (nnx rb (v9_.take k_.toNat) x0_.1, x0_.2) S_ ∧ rwv (S_.2.2.1 139 0) 0 v9_)) ∧ (imq (S_.1 13 0 37 - S_.1 13 0 38 ≤ 1000) (rnS S_ ∧ ∀ j9_ : Nat, (j9_ : Int) < B_.2.2.2.1 (40 * M_ + s_) → 0 ≤ S_.2.2.1 139 0 j9_ ∧ S_.2.2.1 139 0 j9_ < 2 * S_.1 13 0 37)) ∧ True) → ((9 - k_).toNat) < nn_ → sm_T (mt_P sc_) 9 347 (39, [some (.inr (.inr (some (13, 0)))), some (.inl nv_), some (.inl kx_), some (.inl k_)], [], S_) (fun ro9_ => ∃ u_ S1_, ro9_ = (.inl u_, S1_, 0) ∧ vq_347n b_ n_ T_ F_ I_ A_ B_ X_ M_ fr_ q0_ E_ O_ p_ s_ p1_ p2_ xr y_ rb R_ x0_ S0_ u_ S1_)) := by
  intro nn_
  induction nn_ with
  | zero => exact fun _ _ _ _ _ _ _ h_ => absurd h_ (Nat.not_lt_zero _)
  | succ nn_ ih_ =>
    rintro nv_ kx_ k_ S_ hI_ hF_ ⟨h0_, h1_, h2_, h3_, -⟩ hm_
    obtain ⟨G_, v9_, z1_, z2_, z3_, z4_, z5_⟩ := h2_
    have rb1_ : S_.2.2.1 150 0 (40 * fr_ + s_) = (rb : Int) := by rw [fr_arr (t := 150) (i := 0) hF_ rfl]; exact hrb_
    have wE_ : S_.2.2.1 129 0 kx_.toNat = B_.2.2.2.1 (40 * M_ + s_) := by have f1_ := fn_ex (p_ := p_) hxx_ (Nat.le_refl M_) hfn_; have sB_ : s_ < B_.1 M_ := Nat.lt_of_lt_of_le f1_.2 hxx_.1; rw [fr_arr (t := 129) (i := 0) hF_ rfl, show kx_.toNat = 40 * M_ + s_ by omega, ((hen_.2.2.2 M_ (Nat.le_refl _)).2 s_ sB_).2.2.1]
    have ht1_ := rtab_fr ht_ hF_ rfl rfl rfl rfl rfl
    have M15_ := hA_.1
    have wB_ : S_.2.2.1 129 0 kx_.toNat ≤ 8 := by have f1_ := fn_ex (p_ := p_) hxx_ (Nat.le_refl M_) hfn_; have sB_ : s_ < B_.1 M_ := Nat.lt_of_lt_of_le f1_.2 hxx_.1; rw [fr_arr (t := 129) (i := 0) hF_ rfl, show kx_.toNat = 40 * M_ + s_ by omega, ((hen_.2.2.2 M_ (Nat.le_refl _)).2 s_ sB_).2.2.1]; exact ((hen_.1.2 M_ (Nat.le_refl _)).2 s_ sB_).2.2.1.2
    have f9_ : S_.1 13 0 29 = (fr_ : Int) := (hF_.1 13 0 29 rfl).trans hen_.2.2.1.1
    have fb_ := hen_.2.2.1.2
    refine sm_T_go 4 (c1 := (45, [some (.inr (.inr (some (13, 0)))), some (.inl nv_), some (.inl kx_), some (.inl k_)], [.inl kx_, .inr (.inr (some (129, 0))), .inl k_], S_)) rfl ?_
    refine sm_T_iald (n := 640) rfl rfl (by omega) (by omega) ?_
    have bx1_ : 0 ≤ S_.2.2.1 129 0 kx_.toNat ∧ S_.2.2.1 129 0 kx_.toNat ≤ 8 := hI_.2 129 0 _
    refine sm_T_br (a := 3) (z := 36) rfl (fun cx2_ => ?_) (fun cx2_ => ?_)
    · have cx2_ : (S_.2.2.1 129 0 kx_.toNat) ≤ k_ := of_decide_eq_true cx2_
      refine sm_T_go 2 (c1 := (85, [some (.inr (.inr (some (13, 0)))), some (.inl nv_), some (.inl kx_), some (.inl k_)], [.inl 59, .inr (.inr (some (13, 0)))], S_)) rfl ?_
      refine sm_T_cal (d1 := 3) (Q1 := vq_300 59 b_ n_ T_ (.inr xr.1) S_) rfl rfl (by decide) (vc_300 59 b_ n_ T_ (.inr xr.1) S_ hI_ (by exact ht1_) (by exact h1_) (by decide)) (fun u_ Sx3_ px6_ => ?_)
      obtain ⟨rfl, hIx4_, hFx5_, px6_⟩ := px6_
      have hFx7_ : ai_fr (sx_W vw_347n) S0_ Sx3_ := ai_fr_tr hF_ (fr_le hFx5_ rfl)
      have g85_ := px6_
      rw [pb_r rfl, h59_] at g85_
      have r85_ := rgl_fr z4_ hFx5_ rfl rfl rfl rfl rfl rfl
      have w85_ : imq (Sx3_.1 13 0 37 - Sx3_.1 13 0 38 ≤ 1000) (rxn R_ (nnx rb v9_ x0_.1, x0_.2) Sx3_) := fun q9_ => by (have y9_ := (z5_ (by rw [hFx5_.1 13 0 37 rfl, hFx5_.1 13 0 38 rfl] at q9_; exact q9_)).1; rw [List.take_of_length_le (by omega)] at y9_; exact rxn_fr y9_ hFx5_)
      have n85_ : imq (Sx3_.1 13 0 37 - Sx3_.1 13 0 38 ≤ 1000) (rnS Sx3_) := fun q9_ => rnS_fr (h3_ (by rw [hFx5_.1 13 0 37 rfl, hFx5_.1 13 0 38 rfl] at q9_; exact q9_)).1 hFx5_ rfl rfl rfl rfl
      refine sm_T_rv rfl ⟨_, _, rfl, rfl, hIx4_, hFx7_, ?_⟩
      exact ⟨⟨g85_, G_, v9_, z1_, z2_, z3_, r85_, w85_⟩, n85_⟩
    · have cx2_ : ¬ ((S_.2.2.1 129 0 kx_.toNat) ≤ k_) := of_decide_eq_false cx2_
      have bx8_ : 0 ≤ S_.1 13 0 29 ∧ S_.1 13 0 29 ≤ 16 := hI_.1 13 0 29 rfl
      refine sm_T_go 7 (c1 := (63, [some (.inr (.inr (some (13, 0)))), some (.inl nv_), some (.inl kx_), some (.inl k_)], [.inl (S_.1 13 0 29), .inl 40, .inr (.inr (some (150, 0))), .inr (.inr (some (151, 0)))], S_)) rfl ?_
      refine sm_T_bin (w := 40 * (S_.1 13 0 29)) rfl (bi_mul (by omega) (by omega) (by omega)) ?_
      refine sm_T_go 1 (c1 := (65, [some (.inr (.inr (some (13, 0)))), some (.inl nv_), some (.inl kx_), some (.inl k_)], [.inl nv_, .inl (40 * (S_.1 13 0 29)), .inr (.inr (some (150, 0))), .inr (.inr (some (151, 0)))], S_)) rfl ?_
      refine sm_T_bin (w := 40 * (S_.1 13 0 29) + nv_) rfl (bi_add (by omega) (by omega) (by omega)) ?_
      refine sm_T_iald (n := 640) rfl rfl (by omega) (by omega) ?_
      have bx9_ : 0 ≤ S_.2.2.1 150 0 (40 * (S_.1 13 0 29) + nv_).toNat ∧ S_.2.2.1 150 0 (40 * (S_.1 13 0 29) + nv_).toNat ≤ 6 := hI_.2 150 0 _
      refine sm_T_go 1 (c1 := (68, [some (.inr (.inr (some (13, 0)))), some (.inl nv_), some (.inl kx_), some (.inl k_)], [.inl k_, .inl (S_.2.2.1 150 0 (40 * (S_.1 13 0 29) + nv_).toNat), .inr (.inr (some (151, 0)))], S_)) rfl ?_
      refine sm_T_bin (w := (S_.2.2.1 150 0 (40 * (S_.1 13 0 29) + nv_).toNat) + k_) rfl (bi_add (by omega) (by omega) (by omega)) ?_
      refine sm_T_go 3 (c1 := (74, [some (.inr (.inr (some (13, 0)))), some (.inl nv_), some (.inl kx_), some (.inl k_)], [.inl k_, .inr (.inr (some (139, 0))), .inl ((S_.2.2.1 150 0 (40 * (S_.1 13 0 29) + nv_).toNat) + k_), .inr (.inr (some (151, 0)))], S_)) rfl ?_
      refine sm_T_iald (n := 8192) rfl rfl (by omega) (by omega) ?_
      have bx10_ : 0 ≤ S_.2.2.1 139 0 k_.toNat ∧ S_.2.2.1 139 0 k_.toNat ≤ 2047 := hI_.2 139 0 _
      refine sm_T_iast (n := 1024) rfl rfl (by omega) (by omega) ?_
      have hIx11_ : gi (sm_aI S_ 151 0 ((S_.2.2.1 150 0 (40 * (S_.1 13 0 29) + nv_).toNat) + k_).toNat (S_.2.2.1 139 0 k_.toNat)) := gi_aI hI_ (show 0 ≤ (S_.2.2.1 139 0 k_.toNat) ∧ (S_.2.2.1 139 0 k_.toNat) ≤ 2047 from ⟨by omega, by omega⟩)
      have hFx12_ : ai_fr (sx_W vw_347n) S0_ (sm_aI S_ 151 0 ((S_.2.2.1 150 0 (40 * (S_.1 13 0 29) + nv_).toNat) + k_).toNat (S_.2.2.1 139 0 k_.toNat)) := ai_fr_tr hF_ (ai_fr_aI rfl)
      refine sm_T_inc (a := 3) (z := 1) (v := k_) (w := k_ + 1) rfl rfl (by omega) (by omega) (by omega) ?_
      refine sm_T_go 1 (c1 := (39, [some (.inr (.inr (some (13, 0)))), some (.inl nv_), some (.inl kx_), some (.inl (k_ + 1))], [], sm_aI S_ 151 0 ((S_.2.2.1 150 0 (40 * (S_.1 13 0 29) + nv_).toNat) + k_).toNat (S_.2.2.1 139 0 k_.toNat))) rfl ?_
      refine ih_ nv_ kx_ (k_ + 1) (sm_aI S_ 151 0 ((S_.2.2.1 150 0 (40 * (S_.1 13 0 29) + nv_).toNat) + k_).toNat (S_.2.2.1 139 0 k_.toNat)) hIx11_ hFx12_ ⟨?_, ?_, ?_, ?_, trivial⟩ ?_
      · omega
      · exact h1_
      · refine ⟨G_, v9_, z1_, z2_, z3_, rgl_fr (w_ := ([], [151], [])) z4_ (ai_fr_aI rfl) rfl rfl rfl rfl rfl rfl, fun q9_ => ?_⟩
        obtain ⟨y1_, y2_⟩ := z5_ q9_
        have rb2_ : S_.2.2.1 150 0 (40 * S_.1 13 0 29 + nv_).toNat = (rb : Int) := by rw [show (40 * S_.1 13 0 29 + nv_).toNat = 40 * fr_ + s_ by omega]; exact rb1_
        have kl_ : k_.toNat < v9_.length := by omega
        have e9_ := y2_ k_.toNat v9_[k_.toNat] (List.getElem?_eq_getElem kl_)
        rw [Nat.zero_add] at e9_
        refine ⟨⟨y1_.1, fun i9_ hi9_ => ?_⟩, fun a9_ b9_ c9_ => by rw [rd_ne (by decide)]; exact y2_ a9_ b9_ c9_⟩
        have y8_ := y1_.2 i9_ hi9_
        show _ = nnx rb (v9_.take (k_ + 1).toNat) x0_.1 i9_
        rw [show (k_ + 1).toNat = k_.toNat + 1 by omega, nnx_t kl_, rd_eq, show (_ : Int).toNat = rb + k_.toNat from by omega]
        by_cases q7_ : i9_ = rb + k_.toNat
        · rw [if_pos q7_, if_pos q7_, e9_, List.getD_eq_getElem?_getD, List.getElem?_eq_getElem kl_]; rfl
        · rw [if_neg q7_, if_neg q7_]; exact y8_
      · intro q9_
        obtain ⟨y1_, y2_⟩ := h3_ q9_
        refine ⟨⟨y1_.1, fun k9_ hk9_ => ?_⟩, fun j9_ hj9_ => ?_⟩
        · rw [rd_eq]; split; (exact y2_ k_.toNat (by omega)); exact y1_.2 k9_ hk9_
        · rw [rd_ne (by decide)]; exact y2_ j9_ hj9_
      · omega
set_option maxHeartbeats 1500000 in
theorem vc_347n {sc_ : Nat × (Nat → Int)} (b_ : Nat → Int) (n_ : Nat) (T_ : Nat) (F_ : Nat) (I_ : Nat) (A_ : pA) (B_ : pA) (X_ : Nat → gQ → gE → Option (gQ × gE)) (M_ : Nat) (fr_ : Nat) (q0_ : gQ) (E_ : gE) (O_ : gO) (p_ : Nat) (s_ : Nat) (p1_ : Nat) (p2_ : Nat) (xr : pR) (y_ : Nat) (rb : Nat) (R_ : Nat) (x0_ : gN) (S0_ : sm_S) (hI_ : gi S0_) (ht_ : rtab b_ n_ T_ S0_) (hx_ : rg b_ n_ T_ (.inr p_) S0_) (hm1_ : (S0_.1 13 0 27) = 1) (hen_ : r_e1 b_ n_ T_ B_ M_ fr_ S0_) (hA_ : a_ok b_ n_ A_ M_) (hxx_ : a_ex A_ B_ M_) (hX_ : ∀ d_ q_ e_ z_, X_ d_ q_ e_ = some z_ → q_.1.length ≤ z_.1.1.length) (hte_ : ten B_ M_ (A_.1 M_) E_ O_) (hev_ : rev fr_ (A_.1 M_) E_ O_ (q0_.1.length ≤ 1001) S0_) (hg_ : rgl F_ q0_.1 S0_) (hk_ : lx_kd b_ n_ p_ = 1) (hfn_ : p_fn b_ n_ A_ M_ p_ = (s_ : Int)) (ha1_ : p_ad b_ n_ p_ = .inr p1_) (hk256_ : lx_kd b_ n_ p1_ = 256) (ha2_ : p_ad b_ n_ p1_ = .inr p2_) (hxr_ : p_ex b_ n_ false (p_pd b_ n_ A_ M_) [] p2_ = .inr xr) (h59_ : p_nd b_ n_ 59 xr.1 = .inr y_) (hrb_ : S0_.2.2.1 150 0 (40 * fr_ + s_) = (rb : Int)) (hrn_ : rnS S0_) (hlw_ : lwS F_ (q0_, E_, O_, [])) (hXw_ : lwX F_ I_ X_) (hRF_ : 1 + I_ + q0_.2.1 ≤ F_) (hwd_ : h_tp xr.2.1 = B_.2.2.2.1 (40 * M_ + s_)) (hx0_ : rxn R_ x0_ S0_) : sm_T (mt_P sc_) 9 347 (0, [some (.inr (.inr (some (13, 0)))), none, none, none], [], S0_) (fun ro9_ => ∃ u_ S1_, ro9_ = (.inl u_, S1_, 0) ∧ vq_347n b_ n_ T_ F_ I_ A_ B_ X_ M_ fr_ q0_ E_ O_ p_ s_ p1_ p2_ xr y_ rb R_ x0_ S0_ u_ S1_) := by
  have hF_ : ai_fr (sx_W vw_347n) S0_ S0_ := ai_fr_rf
  obtain ⟨i_, hi_⟩ := id hx_.2
  have hi9_ := hi_.2.1
  have hT_ := ht_.2.1
  have rt1_ := rp_rtk ht_ hi_.2 hk_
  have f1_ := fn_ex (p_ := p_) hxx_ (Nat.le_refl M_) hfn_
  have M15_ := hA_.1
  have A40_ := (hA_.2 M_ (Nat.le_refl _)).1
  have bx1_ : 0 ≤ S0_.1 13 0 28 ∧ S0_.1 13 0 28 ≤ 15 := hI_.1 13 0 28 rfl
  have bx2_ : 0 ≤ S0_.1 13 0 9 ∧ S0_.1 13 0 9 ≤ 1280 := hI_.1 13 0 9 rfl
  refine sm_T_go 5 (c1 := (9, [some (.inr (.inr (some (13, 0)))), none, none, none], [.inl (S0_.1 13 0 9), .inl (S0_.1 13 0 28), .inr (.inr (some (13, 0)))], S0_)) rfl ?_
  refine sm_T_cal (d1 := 1) (Q1 := vq_302 (S0_.1 13 0 28) (S0_.1 13 0 9) b_ n_ T_ B_ M_ p_ S0_) rfl rfl (by decide) (vc_302 (S0_.1 13 0 28) (S0_.1 13 0 9) b_ n_ T_ B_ M_ p_ S0_ hI_ (by exact ht_) (by exact ⟨hen_.2.1, hen_.1.1⟩) (by exact hen_.2.2.2 M_ (Nat.le_refl _)) (by exact (hen_.1.2 M_ (Nat.le_refl _)).1) (by rw [hi_.1]; exact rt1_.1)) (fun u_ Sx3_ px6_ => ?_)
  obtain ⟨rfl, vx8_, rfl, px6_⟩ := px6_
  have e9_ := px6_.trans f1_.1
  have kx0_ : (40 * S0_.1 13 0 28 + vx8_).toNat = 40 * M_ + s_ := by have q9_ := hen_.2.1; omega
  have rp := rg_p2 (x_ := S0_.1 13 0 9 + 2) ht_ hx_ (by omega) ha1_ (by omega) ha2_ rfl
  have rp2_ := rp.2
  have t33_ : rtab b_ n_ T_ (sm_pI S0_ 13 0 9 (S0_.1 13 0 9 + 2)) := rtab_fr (w_ := ([(13, 9)], [], [])) ht_ (ai_fr_pI rfl) rfl rfl rfl rfl rfl
  refine sm_T_go 4 (c1 := (19, [some (.inr (.inr (some (13, 0)))), some (.inl vx8_), none, none], [.inl (S0_.1 13 0 28), .inl 40], S0_)) rfl ?_
  refine sm_T_bin (w := 40 * (S0_.1 13 0 28)) rfl (bi_mul (by omega) (by omega) (by omega)) ?_
  refine sm_T_go 1 (c1 := (21, [some (.inr (.inr (some (13, 0)))), some (.inl vx8_), none, none], [.inl vx8_, .inl (40 * (S0_.1 13 0 28))], S0_)) rfl ?_
  refine sm_T_bin (w := 40 * (S0_.1 13 0 28) + vx8_) rfl (bi_add (by omega) (by omega) (by omega)) ?_
  refine sm_T_go 5 (c1 := (29, [some (.inr (.inr (some (13, 0)))), some (.inl vx8_), some (.inl (40 * (S0_.1 13 0 28) + vx8_)), none], [.inl 2, .inl (S0_.1 13 0 9), .inr (.inr (some (13, 0)))], S0_)) rfl ?_
  refine sm_T_bin (w := (S0_.1 13 0 9) + 2) rfl (bi_add (by omega) (by omega) (by omega)) ?_
  have hIx9_ : gi (sm_pI S0_ 13 0 9 ((S0_.1 13 0 9) + 2)) := gi_pI hI_ (show 0 ≤ (S0_.1 13 0 9) + 2 ∧ (S0_.1 13 0 9) + 2 ≤ 1280 from ⟨by omega, by omega⟩)
  have hFx10_ : ai_fr (sx_W vw_347n) S0_ (sm_pI S0_ 13 0 9 ((S0_.1 13 0 9) + 2)) := ai_fr_tr hF_ (ai_fr_pI rfl)
  refine sm_T_go 2 (c1 := (34, [some (.inr (.inr (some (13, 0)))), some (.inl vx8_), some (.inl (40 * (S0_.1 13 0 28) + vx8_)), none], [.inr (.inr (some (13, 0)))], sm_pI S0_ 13 0 9 ((S0_.1 13 0 9) + 2))) rfl ?_
  refine sm_T_cal (d1 := 8) (Q1 := vq_321g b_ n_ T_ F_ I_ B_ X_ M_ (q0_, E_, O_, []) (p_pd b_ n_ A_ M_) (A_.1 M_) fr_ p2_ xr (sm_pI S0_ 13 0 9 ((S0_.1 13 0 9) + 2))) rfl rfl (by decide) (vc_321g b_ n_ T_ F_ I_ B_ X_ M_ (q0_, E_, O_, []) (p_pd b_ n_ A_ M_) (A_.1 M_) fr_ p2_ xr (sm_pI S0_ 13 0 9 ((S0_.1 13 0 9) + 2)) hIx9_ (by exact t33_) (by exact pd_ok hA_) (by (intro p9_ r9_ h9_; exact pd_ex hA_ hxx_ h9_)) (by exact hX_) (by exact hen_) (by exact hte_) (by exact hev_) (by exact rp.1) (by exact hm1_) (by exact ⟨rfl, rgl_fr (w_ := ([(13, 9)], [], [])) hg_ (ai_fr_pI rfl) rfl rfl rfl rfl rfl rfl⟩) (by exact hxr_)) (fun u_ Sx11_ px14_ => ?_)
  obtain ⟨rfl, hIx12_, hFx13_, px14_⟩ := px14_
  have hFx15_ : ai_fr (sx_W vw_347n) S0_ Sx11_ := ai_fr_tr hFx10_ (fr_le hFx13_ rfl)
  obtain ⟨g34_, G1_, v1_, x1_, x2_, x3_, x4_, x5_, x6_⟩ := px14_
  have gl34_ : q0_.1.length ≤ G1_.length := ev_le hX_ x1_
  have F34_ := hFx13_
  have rb34_ := rgl_b x5_
  have H3_ : imq (Sx11_.1 13 0 37 - Sx11_.1 13 0 38 ≤ 1000) (rnS Sx11_ ∧ ∀ j9_ : Nat, (j9_ : Int) < B_.2.2.2.1 (40 * M_ + s_) → 0 ≤ Sx11_.2.2.1 139 0 j9_ ∧ Sx11_.2.2.1 139 0 j9_ < 2 * Sx11_.1 13 0 37) := by (intro q9_; have l9_ : G1_.length ≤ 1000 := rb34_.2.2.2.2.mp q9_; have n9_ := rgl_n x5_ (by omega); have m9_ := rgl_n hg_ (by omega); have W9_ := ev_w hXw_ x1_ (by show F_ + G1_.length ≤ 1023; omega) hRF_ hlw_; refine ⟨rnS_up hrn_ (hFx13_.1 13 0 52 rfl) (hFx13_.1 13 0 53 rfl) ((fr_arr (t := 151) hFx13_ rfl).trans rfl) (by omega), fun j9_ h9_ => ?_⟩; have e9_ := rwv_lz (x6_ (by omega)) (lwV_c.mp W9_.2.2.2).1 (k_ := j9_) (by omega); rw [Nat.zero_add] at e9_; rw [n9_]; exact e9_)
  refine sm_T_go 2 (c1 := (39, [some (.inr (.inr (some (13, 0)))), some (.inl vx8_), some (.inl (40 * (S0_.1 13 0 28) + vx8_)), some (.inl 0)], [], Sx11_)) rfl ?_
  refine (vl_347n b_ n_ T_ F_ I_ A_ B_ X_ M_ fr_ q0_ E_ O_ p_ s_ p1_ p2_ xr y_ rb R_ x0_ S0_ ht_ hx_ hm1_ hen_ hA_ hxx_ hX_ hte_ hev_ hg_ hk_ hfn_ ha1_ hk256_ ha2_ hxr_ h59_ hrb_ hrn_ hlw_ hXw_ hRF_ hwd_ hx0_ _) vx8_ (40 * (S0_.1 13 0 28) + vx8_) 0 Sx11_ hIx12_ hFx15_ ⟨?_, ?_, ?_, ?_, trivial⟩ (Nat.lt_succ_self _)
  · (have q9_ := hen_.2.1); omega
  · exact g34_
  · refine ⟨G1_, v1_, x1_, x2_, x3_, x5_, fun q9_ => ⟨?_, x6_ (by have l9_ : G1_.length ≤ 1000 := rb34_.2.2.2.2.mp q9_; omega)⟩⟩
    refine ⟨(F34_.1 13 0 52 rfl).trans hx0_.1, fun i9_ hi9_ => ?_⟩
    refine (congrFun (fr_arr (t := 151) (i := 0) F34_ rfl) i9_).trans ((hx0_.2 i9_ hi9_).trans ?_)
    show x0_.1 i9_ = nnx rb [] x0_.1 i9_
    unfold nnx
    rw [if_neg (by simp only [List.length_nil]; omega)]
  · exact H3_
end
/-! 99.ztM -/
section
/-! code that leaves next values and beginning alone; written by wip/p55/gen/vg -/

/-! code that leaves next values and beginning alone -/
def wpl (c_ : List Int) : Prop := ∀ w_, w_ ∈ c_ → w_ % 32 ≠ 13 ∧ w_ % 32 ≠ 14 ∧ w_ % 32 ≠ 17
theorem nw_pl {I_ m_ : Nat} {A_ : pA} {Y_ : Nat → gQ → gE → gN → gN} {w_ : Int} {s_ : gS} {x_ : gN} (h_ : w_ % 32 ≠ 13 ∧ w_ % 32 ≠ 14 ∧ w_ % 32 ≠ 17) : nw I_ A_ Y_ m_ w_ s_ x_ = x_ := by
  by_cases c_ : w_ % 32 ≤ 11
  · exact nw_o h_.2.2 c_
  · rw [nw_s h_.2.2 c_]
    exact nst_o h_.1 h_.2.1
theorem ncd_pl {F_ I_ m_ : Nat} {A_ : pA} {X_ : Nat → gQ → gE → Option (gQ × gE)} {Y_ : Nat → gQ → gE → gN → gN} : ∀ (c_ : List Int) (s_ : gS) (x_ : gN), wpl c_ → ncd F_ I_ A_ X_ Y_ m_ c_ s_ x_ = x_
  | [], s_, x_, _ => rfl
  | w_ :: c_, s_, x_, h_ => by
    cases e_ : ew F_ I_ A_ X_ m_ w_ s_ with
    | none =>
      show (match ew F_ I_ A_ X_ m_ w_ s_ with
        | some s1_ => ncd F_ I_ A_ X_ Y_ m_ c_ s1_ (nw I_ A_ Y_ m_ w_ s_ x_)
        | none => x_) = x_
      rw [e_]
    | some s1_ =>
      rw [ncd_c e_, nw_pl (h_ w_ (List.mem_cons_self ..))]
      exact ncd_pl c_ s1_ x_ (fun v_ hv_ => h_ v_ (List.mem_cons_of_mem _ hv_))
theorem ncd_ap {F_ I_ m_ : Nat} {A_ : pA} {X_ : Nat → gQ → gE → Option (gQ × gE)} {Y_ : Nat → gQ → gE → gN → gN} {c2_ : List Int} {s1_ : gS} : ∀ (c_ : List Int) (s_ : gS) (x_ : gN), ec F_ I_ A_ X_ m_ c_ s_ = some s1_ → ncd F_ I_ A_ X_ Y_ m_ (c_ ++ c2_) s_ x_ = ncd F_ I_ A_ X_ Y_ m_ c2_ s1_ (ncd F_ I_ A_ X_ Y_ m_ c_ s_ x_)
  | [], s_, x_, h_ => by
    have h_ : some s_ = some s1_ := h_
    cases h_
    rfl
  | w_ :: c_, s_, x_, h_ => by
    cases e_ : ew F_ I_ A_ X_ m_ w_ s_ with
    | none =>
      have h_ : (match ew F_ I_ A_ X_ m_ w_ s_ with
        | some s2_ => ec F_ I_ A_ X_ m_ c_ s2_
        | none => none) = some s1_ := h_
      rw [e_] at h_
      cases h_
    | some s2_ =>
      have h_ : (match ew F_ I_ A_ X_ m_ w_ s_ with
        | some s2_ => ec F_ I_ A_ X_ m_ c_ s2_
        | none => none) = some s1_ := h_
      rw [e_] at h_
      rw [List.cons_append, ncd_c e_, ncd_c e_]
      exact ncd_ap c_ s2_ _ h_
theorem ew_pl {F_ I_ J_ m_ : Nat} {A_ : pA} {X_ Z_ : Nat → gQ → gE → Option (gQ × gE)} {w_ : Int} {s_ : gS} (h_ : w_ % 32 ≠ 13 ∧ w_ % 32 ≠ 14 ∧ w_ % 32 ≠ 17) : ew F_ I_ A_ X_ m_ w_ s_ = ew F_ J_ A_ Z_ m_ w_ s_ := by
  obtain ⟨h3_, h4_, h7_⟩ := h_
  unfold ew e_st
  first | simp only [h3_, h4_, h7_, ↓reduceIte] | simp only [h3_, h4_, h7_, if_false] | simp [h3_, h4_, h7_]
theorem wpl_of {F_ m_ : Nat} {A_ : pA} : ∀ (c_ : List Int) (s_ : gS), 7 ≤ s_.1.2.1 → (∀ I_ : Nat, ∃ s'_, ec F_ I_ A_ (fun _ _ _ => none) m_ c_ s_ = some s'_) → wpl c_
  | [], s_, _, _ => fun v_ hv_ => by cases hv_
  | w_ :: c_, s_, h7_, h_ => by
    have g_ : ∀ I_ : Nat, ∃ s1_ s'_, ew F_ I_ A_ (fun _ _ _ => none) m_ w_ s_ = some s1_ ∧ ec F_ I_ A_ (fun _ _ _ => none) m_ c_ s1_ = some s'_ := by
      intro I_
      obtain ⟨s'_, hs_⟩ := h_ I_
      have hs_ : (match ew F_ I_ A_ (fun _ _ _ => none) m_ w_ s_ with
        | some s1_ => ec F_ I_ A_ (fun _ _ _ => none) m_ c_ s1_
        | none => none) = some s'_ := hs_
      cases e_ : ew F_ I_ A_ (fun _ _ _ => none) m_ w_ s_ with
      | none => rw [e_] at hs_; cases hs_
      | some s1_ => rw [e_] at hs_; exact ⟨s1_, s'_, rfl, hs_⟩
    have g17_ : w_ % 32 ≠ 17 := by
      intro e_
      obtain ⟨s1_, s'_, g1_, g2_⟩ := g_ 0
      obtain ⟨o_, z_, w1_, w2_, w3_, w4_, w5_, w6_, w7_⟩ := ew17 g1_ e_
      cases w6_
    have g13_ : w_ % 32 ≠ 13 := by
      intro e_
      obtain ⟨s1_, s'_, g1_, g2_⟩ := g_ 0
      have g3_ := ew_s g1_ g17_ (by omega)
      rw [e_] at g3_
      have g4_ := e_st13 g3_
      have g5_ := g4_.2.2.2.2.1
      omega
    have g14_ : w_ % 32 ≠ 14 := by
      intro e_
      obtain ⟨s1_, s'_, g1_, g2_⟩ := g_ ((s_.2.1 (w_ / 32 % 64).toNat).headD 0).toNat
      have g3_ := ew_s g1_ g17_ (by omega)
      rw [e_] at g3_
      obtain ⟨-, x_, l_, hx_, q_⟩ := e_stp g3_ (by decide) (by decide)
      rcases q_ with q_ | ⟨-, z_, y_, hz_, hz2_, -, -⟩ | q_
      · exact absurd q_.1 (by decide)
      · rw [hz_] at hz2_
        have hz3_ : 2 * (1 + (z_.toNat : Int)) ≤ z_ := hz2_
        omega
      · exact absurd q_.1 (by decide)
    obtain ⟨s1_, s'_, g1_, g2_⟩ := g_ 0
    have R1_ : s_.1.2.1 ≤ s1_.1.2.1 := ew_R (fun d_ q_ e_ z_ hz_ => by cases hz_) g1_
    have T_ := wpl_of c_ s1_ (by omega) (fun I_ => by
      obtain ⟨s2_, s3_, k1_, k2_⟩ := g_ I_
      rw [ew_pl (J_ := 0) (Z_ := fun _ _ _ => none) ⟨g13_, g14_, g17_⟩, g1_] at k1_
      cases k1_
      exact ⟨s3_, k2_⟩)
    intro v_ hv_
    rcases List.mem_cons.mp hv_ with rfl | hv_
    · exact ⟨g13_, g14_, g17_⟩
    · exact T_ v_ hv_
theorem ex_pl {b_ : Nat → Int} {n_ m_ p_ : Nat} {A_ B_ : pA} {E_ : gE} {O_ : gO} {r_ : pR} (hn_ : n_ ≤ 1280) (hA_ : a_ok b_ n_ A_ m_) (hB_ : a_ok b_ n_ B_ m_) (hx_ : a_ex A_ B_ m_) (ht_ : ten B_ m_ (A_.1 m_) E_ O_) (hp_ : p_ ≤ n_) (hk_ : lx_kd b_ n_ p_ ≠ -1) (e_ : p_ex b_ n_ false (p_pd b_ n_ A_ m_) [] p_ = .inr r_) : wpl r_.2.2 := by
  intro w_ hw_
  refine wpl_of (F_ := 1) (A_ := B_) (m_ := m_) r_.2.2.reverse (([], 7, 0), E_, O_, []) (Nat.le_refl 7) (fun I_ => ?_) w_ (List.mem_reverse.mpr hw_)
  obtain ⟨G_, v_, h1_, -⟩ := ex_tot (F_ := 1) (I_ := I_) (A_ := B_) (X_ := fun _ _ _ => none) (m_ := m_) (s0_ := (([], 7, 0), E_, O_, [])) hn_ (pd_ok hA_) (pd_ev hA_ hB_ hx_ ht_) hp_ hk_ rfl e_
  exact ⟨_, h1_⟩
theorem wpl_ap {c_ d_ : List Int} (h_ : wpl c_) (g_ : wpl d_) : wpl (c_ ++ d_) := fun w_ hw_ => (List.mem_append.mp hw_).elim (h_ w_) (g_ w_)
theorem wpl_c {w_ : Int} {c_ : List Int} (h_ : w_ % 32 ≠ 13 ∧ w_ % 32 ≠ 14 ∧ w_ % 32 ≠ 17) (g_ : wpl c_) : wpl (w_ :: c_) := fun v_ hv_ => by
  rcases List.mem_cons.mp hv_ with rfl | hv_
  · exact h_
  · exact g_ v_ hv_
theorem wpl_n : wpl [] := fun v_ hv_ => by cases hv_
theorem wpl_r {c_ : List Int} (h_ : wpl c_) : wpl c_.reverse := fun v_ hv_ => h_ v_ (List.mem_reverse.mp hv_)
theorem ach_pl {b_ : Nat → Int} {n_ m_ d_ K_ : Nat} {A_ B_ : pA} {E_ : gE} {O_ : gO} (hn_ : n_ ≤ 1280) (hA_ : a_ok b_ n_ A_ m_) (hB_ : a_ok b_ n_ B_ m_) (hx_ : a_ex A_ B_ m_) (ht_ : ten B_ m_ (A_.1 m_) E_ O_) : ∀ (l_ : List (pR × Nat)) (k_ p_ pe_ : Nat) (c_ : List Int), ach b_ n_ A_ m_ d_ l_ k_ p_ pe_ → p_ ≤ n_ → lx_kd b_ n_ p_ ≠ -1 → wpl c_ → wpl (acd K_ l_ c_)
  | [], _, _, _, _, h_, _, _, _ => h_.elim
  | xi_ :: l_, k_, p_, pe_, c_, h_, hp_, hk_, hc_ => by
    obtain ⟨h1_, h2_, h3_, h4_⟩ := h_
    have w1_ : wpl (cw 16 (K_ : Int) (xi_.2 : Int) :: (xi_.1.2.2 ++ c_)) := wpl_c (by unfold cw; omega) (wpl_ap (ex_pl hn_ hA_ hB_ hx_ ht_ hp_ hk_ h2_) hc_)
    show wpl (acd K_ l_ (cw 16 (K_ : Int) (xi_.2 : Int) :: (xi_.1.2.2 ++ c_)))
    rcases h4_ with ⟨rfl, -⟩ | ⟨-, k44_, p1_, hp1_, hl_⟩
    · exact w1_
    · have xk_ := pex_ok hn_ (pd_ok hA_) hp_ hk_ (Nat.zero_le _) h2_
      obtain ⟨-, -, a1_, a2_⟩ := p_ad_ok xk_.2.1 (by omega) hp1_
      exact ach_pl hn_ hA_ hB_ hx_ ht_ l_ (xi_.2 + 1) p1_ pe_ _ hl_ a1_ a2_ w1_
end
/-! 99.ztN -/
section
/-! next values and beginning: fuel; written by wip/p55/gen/vg -/

/-! next values and beginning: more fuel changes nothing -/
theorem nw_mo {F_ I_ m_ : Nat} {A_ : pA} {X_ : Nat → gQ → gE → Option (gQ × gE)} {Y_ Y2_ : Nat → gQ → gE → gN → gN} {w_ : Int} {s_ r_ : gS} (hY_ : ∀ d_ q_ e_ z_, X_ d_ q_ e_ = some z_ → ∀ x_, Y2_ d_ q_ e_ x_ = Y_ d_ q_ e_ x_) (h_ : ew F_ I_ A_ X_ m_ w_ s_ = some r_) (x_ : gN) : nw I_ A_ Y2_ m_ w_ s_ x_ = nw I_ A_ Y_ m_ w_ s_ x_ := by
  by_cases c_ : w_ % 32 = 17
  · obtain ⟨o_, z_, w1_, w2_, w3_, w4_, w5_, w6_, w7_⟩ := ew17 h_ c_
    rw [nw_17 c_ w1_, nw_17 c_ w1_]
    exact hY_ _ _ _ _ w6_ x_
  · by_cases d_ : w_ % 32 ≤ 11
    · rw [nw_o c_ d_, nw_o c_ d_]
    · rw [nw_s c_ d_, nw_s c_ d_]
theorem ncd_mo {F_ I_ m_ : Nat} {A_ : pA} {X_ X2_ : Nat → gQ → gE → Option (gQ × gE)} {Y_ Y2_ : Nat → gQ → gE → gN → gN} (hX_ : ∀ d_ q_ e_ z_, X_ d_ q_ e_ = some z_ → X2_ d_ q_ e_ = some z_) (hY_ : ∀ d_ q_ e_ z_, X_ d_ q_ e_ = some z_ → ∀ x_, Y2_ d_ q_ e_ x_ = Y_ d_ q_ e_ x_) : ∀ (c_ : List Int) (s_ r_ : gS) (x_ : gN), ec F_ I_ A_ X_ m_ c_ s_ = some r_ → ncd F_ I_ A_ X2_ Y2_ m_ c_ s_ x_ = ncd F_ I_ A_ X_ Y_ m_ c_ s_ x_
  | [], s_, r_, x_, _ => rfl
  | w_ :: c_, s_, r_, x_, h_ => by
    cases e_ : ew F_ I_ A_ X_ m_ w_ s_ with
    | none =>
      have h_ : (match ew F_ I_ A_ X_ m_ w_ s_ with
        | some s2_ => ec F_ I_ A_ X_ m_ c_ s2_
        | none => none) = some r_ := h_
      rw [e_] at h_
      cases h_
    | some s2_ =>
      have h_ : (match ew F_ I_ A_ X_ m_ w_ s_ with
        | some s2_ => ec F_ I_ A_ X_ m_ c_ s2_
        | none => none) = some r_ := h_
      rw [e_] at h_
      rw [ncd_c e_, ncd_c (ew_mo hX_ e_), nw_mo hY_ e_]
      exact ncd_mo hX_ hY_ c_ s2_ r_ _ h_
theorem exm_ec {F_ I_ d_ f_ : Nat} {A_ : pA} {C_ : Nat → List Int} {q_ : gQ} {e_ : gE} {z_ : gQ × gE} (h_ : exm F_ I_ A_ C_ (f_ + 1) d_ q_ e_ = some z_) : ∃ r_, ec F_ I_ A_ (exm F_ I_ A_ C_ f_) d_ (C_ d_) (q_, e_, fun _ => none, []) = some r_ := by
  rw [exm] at h_
  cases hs_ : ec F_ I_ A_ (exm F_ I_ A_ C_ f_) d_ (C_ d_) (q_, e_, fun _ => none, []) with
  | none => rw [hs_] at h_; cases h_
  | some s_ => exact ⟨s_, rfl⟩
theorem nxm_mo {F_ I_ : Nat} {A_ : pA} {C_ : Nat → List Int} : ∀ (f_ d_ : Nat) (q_ : gQ) (e_ : gE) (z_ : gQ × gE), exm F_ I_ A_ C_ f_ d_ q_ e_ = some z_ → ∀ x_, nxm F_ I_ A_ C_ (f_ + 1) d_ q_ e_ x_ = nxm F_ I_ A_ C_ f_ d_ q_ e_ x_
  | 0, d_, q_, e_, z_, h_, x_ => by cases h_
  | f_ + 1, d_, q_, e_, z_, h_, x_ => by
    obtain ⟨r_, hr_⟩ := exm_ec h_
    show ncd F_ I_ A_ (exm F_ I_ A_ C_ (f_ + 1)) (nxm F_ I_ A_ C_ (f_ + 1)) d_ (C_ d_) (q_, e_, fun _ => none, []) x_ = ncd F_ I_ A_ (exm F_ I_ A_ C_ f_) (nxm F_ I_ A_ C_ f_) d_ (C_ d_) (q_, e_, fun _ => none, []) x_
    exact ncd_mo (fun d_ q_ e_ z_ => exm_mo f_ d_ q_ e_ z_) (fun d_ q_ e_ z_ hz_ y_ => nxm_mo f_ d_ q_ e_ z_ hz_ y_) (C_ d_) _ r_ x_ hr_
/-- what the_ fold over a_ module's code comes to_, with as_ much fuel as_ the_ modules in it_ have -/
theorem nxm_ev {F_ I_ d_ f_ : Nat} {A_ : pA} {C_ : Nat → List Int} {q_ : gQ} {e_ : gE} {z_ : gQ × gE} {x_ : gN} (h_ : exm F_ I_ A_ C_ (f_ + 1) d_ q_ e_ = some z_) : nxm F_ I_ A_ C_ (f_ + 1) d_ q_ e_ x_ = ncd F_ I_ A_ (exm F_ I_ A_ C_ (f_ + 1)) (nxm F_ I_ A_ C_ (f_ + 1)) d_ (C_ d_) (q_, e_, fun _ => none, []) x_ := by
  obtain ⟨r_, hr_⟩ := exm_ec h_
  show ncd F_ I_ A_ (exm F_ I_ A_ C_ f_) (nxm F_ I_ A_ C_ f_) d_ (C_ d_) (q_, e_, fun _ => none, []) x_ = _
  exact (ncd_mo (fun d_ q_ e_ z_ => exm_mo f_ d_ q_ e_ z_) (fun d_ q_ e_ z_ hz_ y_ => nxm_mo f_ d_ q_ e_ z_ hz_ y_) (C_ d_) _ r_ x_ hr_).symm
end
/-! 99.ztO -/
section
/-! next values and beginning: the frames of the reference; written by wip/p55/gen/vg -/

/-! where a_ frame's registers stand -/
def rbt (B_ : pA) (I_ M_ fr_ K_ : Nat) (E_ : gE) (S_ : sm_S) : Prop := ∀ s_ : Nat, s_ < K_ → B_.2.2.1 (40 * M_ + s_) = 3 ∨ B_.2.2.1 (40 * M_ + s_) = 4 → ∃ (r_ : Nat) (y_ : List Int), E_ s_ = 2 * ((1 + I_ + r_ : Nat) : Int) :: y_ ∧ S_.2.2.1 150 0 (40 * fr_ + s_) = (r_ : Int)
theorem rbt_0 {B_ : pA} {I_ M_ fr_ : Nat} {E_ : gE} {S_ : sm_S} : rbt B_ I_ M_ fr_ 0 E_ S_ := fun s_ hs_ => absurd hs_ (Nat.not_lt_zero _)
theorem rbt_cg {B_ : pA} {I_ M_ fr_ K_ : Nat} {E_ : gE} {S_ S'_ : sm_S} (h_ : rbt B_ I_ M_ fr_ K_ E_ S_) (hK_ : K_ ≤ 40) (e_ : ∀ j_, j_ < 40 * (fr_ + 1) → S'_.2.2.1 150 0 j_ = S_.2.2.1 150 0 j_) : rbt B_ I_ M_ fr_ K_ E_ S'_ := by
  intro s_ hs_ q_
  obtain ⟨r_, y_, h1_, h2_⟩ := h_ s_ hs_ q_
  exact ⟨r_, y_, h1_, (e_ _ (by omega)).trans h2_⟩
theorem rbt_eq {B_ : pA} {I_ M_ fr_ K_ : Nat} {E_ : gE} {S_ S'_ : sm_S} (h_ : rbt B_ I_ M_ fr_ K_ E_ S_) (e_ : S'_.2.2.1 150 0 = S_.2.2.1 150 0) : rbt B_ I_ M_ fr_ K_ E_ S'_ := by
  intro s_ hs_ q_
  obtain ⟨r_, y_, h1_, h2_⟩ := h_ s_ hs_ q_
  exact ⟨r_, y_, h1_, (congrFun e_ _).trans h2_⟩
theorem rbt_i {B_ : pA} {I_ M_ fr_ K_ : Nat} {E_ E'_ : gE} {S_ S'_ : sm_S} (h_ : rbt B_ I_ M_ fr_ K_ E_ S_) (hs_ : B_.2.2.1 (40 * M_ + K_) ≠ 3 ∧ B_.2.2.1 (40 * M_ + K_) ≠ 4) (e_ : S'_.2.2.1 150 0 = S_.2.2.1 150 0) (hE_ : ∀ s_, s_ < K_ → E'_ s_ = E_ s_) : rbt B_ I_ M_ fr_ (K_ + 1) E'_ S'_ := by
  intro s_ hk_ q_
  by_cases c_ : s_ = K_
  · rw [c_] at q_
    rcases q_ with q_ | q_
    · exact absurd q_ hs_.1
    · exact absurd q_ hs_.2
  · obtain ⟨r_, y_, h1_, h2_⟩ := h_ s_ (by omega) q_
    exact ⟨r_, y_, (hE_ s_ (by omega)).trans h1_, (congrFun e_ _).trans h2_⟩
theorem rbt_k {B_ : pA} {I_ M_ fr_ K_ wd_ R_ : Nat} {E_ : gE} {S_ S'_ : sm_S} (h_ : rbt B_ I_ M_ fr_ K_ E_ S_) (hw_ : 1 ≤ wd_) (e_ : ∀ j_, S'_.2.2.1 150 0 j_ = if j_ = 40 * fr_ + K_ then (R_ : Int) else S_.2.2.1 150 0 j_) : rbt B_ I_ M_ fr_ (K_ + 1) (up1 E_ K_ (r_bt I_ R_ wd_)) S'_ := by
  intro s_ hk_ q_
  by_cases c_ : s_ = K_
  · obtain ⟨y_, hy_⟩ := r_bt_c (I_ := I_) (R_ := R_) hw_
    refine ⟨R_, y_, ?_, ?_⟩
    · show (if s_ = K_ then r_bt I_ R_ wd_ else E_ s_) = _
      rw [if_pos c_]
      exact hy_
    · rw [e_, if_pos (by omega)]
  · obtain ⟨r_, y_, h1_, h2_⟩ := h_ s_ (by omega) q_
    refine ⟨r_, y_, ?_, ?_⟩
    · show (if s_ = K_ then r_bt I_ R_ wd_ else E_ s_) = _
      rw [if_neg c_]
      exact h1_
    · rw [e_, if_neg (by omega)]
      exact h2_
theorem up1_o {E_ : gE} {K_ s_ : Nat} {v_ : List Int} (h_ : s_ ≠ K_) : (up1 E_ K_ v_) s_ = E_ s_ := if_neg h_
/-! the_ frames, with what they still do_ to_ next values and beginning -/
def beN (b_ : Nat → Int) (n_ T_ F_ I_ tp_ : Nat) (B_ : pA) (N_ : Nat → Nat) (X_ : Nat → gQ → gE → Option (gQ × gE)) (Y_ : Nat → gQ → gE → gN → gN) (S_ : sm_S) (z_ : gQ × gE) : Nat → Nat → gQ → gE → Nat → (gN → gN) → Prop
  | 0, _, q_, e_, w_, g_ => z_ = (q_, e_) ∧ w_ = 0 ∧ g_ = fun x_ => x_
  | fr_ + 1, d_, q_, e_, w_, g_ => ∃ (M_ f_ : Nat) (A_ : pA) (c_ : List Int) (p_ : Nat) (ce_ rest : List Int) (K_ : Nat) (E_ : gE) (O_ : gO) (i_ : Nat) (q'_ : gQ) (E'_ : gE) (O'_ : gO) (w'_ : Nat) (g'_ : gN → gN), (S_.2.2.1 146 0 fr_ = (M_ : Int) ∧ S_.2.2.1 148 0 (fr_ + 1) = (K_ : Int) ∧ S_.2.2.1 147 0 (fr_ + 1) = (i_ : Int) ∧ S_.2.2.1 149 0 fr_ = (K_ : Int) + 1) ∧ rp b_ n_ T_ i_ p_ ∧ mch b_ n_ B_ N_ M_ f_ A_ c_ p_ ce_ ∧ ce_ = rest ++ c_ ∧ (A_.1 M_ = K_ + 1 ∧ d_ < M_ ∧ fr_ + M_ ≤ tp_ ∧ K_ < B_.1 M_) ∧ (B_.2.2.1 (40 * M_ + K_) = 5 ∧ B_.2.2.2.2 (40 * M_ + K_) = (d_ : Int)) ∧ tst B_ I_ M_ K_ E_ O_ ∧ (∀ s_, s_ < 40 → (E_ s_).length ≤ 8) ∧ (∀ s_, B_.1 M_ ≤ s_ → E_ s_ = []) ∧ (∀ s_, K_ ≤ s_ → O_ s_ = none) ∧ (∀ s_ o_, O_ s_ = some o_ → ∀ o1_, o1_ < 40 → (o_ o1_).length ≤ 8) ∧ (rev fr_ K_ E_ O_ (q_.1.length ≤ 1001) S_ ∧ lwB F_ q_ E_ O_ ∧ rbt B_ I_ M_ fr_ K_ E_ S_) ∧ ev F_ I_ B_ X_ M_ (q_, E_, up1 O_ K_ (some e_), []) rest = some (q'_, E'_, O'_, []) ∧ (w_ = (1301 - p_) + w'_ ∧ g_ = fun x_ => g'_ (ncd F_ I_ B_ X_ Y_ M_ rest.reverse (q_, E_, up1 O_ K_ (some e_), []) x_)) ∧ beN b_ n_ T_ F_ I_ tp_ B_ N_ X_ Y_ S_ z_ fr_ M_ q'_ E'_ w'_ g'_
theorem beN_be {b_ : Nat → Int} {n_ T_ F_ I_ tp_ : Nat} {B_ : pA} {N_ : Nat → Nat} {X_ : Nat → gQ → gE → Option (gQ × gE)} {Y_ : Nat → gQ → gE → gN → gN} {S_ : sm_S} {z_ : gQ × gE} : ∀ (fr_ d_ : Nat) (q_ : gQ) (e_ : gE) (w_ : Nat) (g_ : gN → gN), beN b_ n_ T_ F_ I_ tp_ B_ N_ X_ Y_ S_ z_ fr_ d_ q_ e_ w_ g_ → bel b_ n_ T_ F_ I_ tp_ B_ N_ X_ S_ z_ fr_ d_ q_ e_ w_
  | 0, d_, q_, e_, w_, g_, h_ => ⟨h_.1, h_.2.1⟩
  | fr_ + 1, d_, q_, e_, w_, g_, h_ => by
    obtain ⟨M_, f_, A_, c_, p_, ce_, rest, K_, E_, O_, i_, q'_, E'_, O'_, w'_, g'_, h1_, h2_, h3_, h4_, h5_, h6_, h7_, h8_, h9_, h10_, h11_, h12_, h13_, h14_, h15_⟩ := h_
    exact ⟨M_, f_, A_, c_, p_, ce_, rest, K_, E_, O_, i_, q'_, E'_, O'_, w'_, h1_, h2_, h3_, h4_, h5_, h6_, h7_, h8_, h9_, h10_, h11_, ⟨h12_.1, h12_.2.1⟩, h13_, h14_.1, beN_be fr_ M_ q'_ E'_ w'_ g'_ h15_⟩
theorem beN_fr {b_ : Nat → Int} {n_ T_ F_ I_ tp_ : Nat} {B_ : pA} {N_ : Nat → Nat} {X_ : Nat → gQ → gE → Option (gQ × gE)} {Y_ : Nat → gQ → gE → gN → gN} {S_ S'_ : sm_S} {z_ : gQ × gE} : ∀ (fr_ d_ : Nat) (q_ : gQ) (e_ : gE) (w_ : Nat) (g_ : gN → gN), beN b_ n_ T_ F_ I_ tp_ B_ N_ X_ Y_ S_ z_ fr_ d_ q_ e_ w_ g_ → (∀ j_, j_ < fr_ → S'_.2.2.1 146 0 j_ = S_.2.2.1 146 0 j_ ∧ S'_.2.2.1 149 0 j_ = S_.2.2.1 149 0 j_) → (∀ j_, j_ ≤ fr_ → S'_.2.2.1 147 0 j_ = S_.2.2.1 147 0 j_ ∧ S'_.2.2.1 148 0 j_ = S_.2.2.1 148 0 j_) → (∀ j_, j_ < 8 * (40 * fr_) → S'_.2.2.1 144 0 j_ = S_.2.2.1 144 0 j_) → (∀ j_, j_ < 8 * (40 * (40 * fr_)) → S'_.2.2.1 145 0 j_ = S_.2.2.1 145 0 j_) → (∀ j_, j_ < 40 * fr_ → S'_.2.2.1 150 0 j_ = S_.2.2.1 150 0 j_) → beN b_ n_ T_ F_ I_ tp_ B_ N_ X_ Y_ S'_ z_ fr_ d_ q_ e_ w_ g_
  | 0, d_, q_, e_, w_, g_, h_, _, _, _, _, _ => h_
  | fr_ + 1, d_, q_, e_, w_, g_, h_, a1_, a2_, a3_, a4_, a5_ => by
    obtain ⟨M_, f_, A_, c_, p_, ce_, rest, K_, E_, O_, i_, q'_, E'_, O'_, w'_, g'_, h1_, h2_, h3_, h4_, h5_, h6_, h7_, h8_, h9_, h10_, h11_, h12_, h13_, h14_, h15_⟩ := h_
    have K40_ : K_ ≤ 40 := by
      have := (mch_ex h3_).1.2 M_ (Nat.le_refl _)
      omega
    refine ⟨M_, f_, A_, c_, p_, ce_, rest, K_, E_, O_, i_, q'_, E'_, O'_, w'_, g'_, ?_, h2_, h3_, h4_, h5_, h6_, h7_, h8_, h9_, h10_, h11_, ⟨rev_l2 h12_.1 K40_ id h8_ h11_ (fun j_ hj_ => a3_ j_ hj_) (fun j_ hj_ => a4_ j_ hj_), h12_.2.1, rbt_cg h12_.2.2 K40_ (fun j_ hj_ => a5_ j_ hj_)⟩, h13_, h14_, beN_fr fr_ M_ q'_ E'_ w'_ g'_ h15_ (fun j_ hj_ => a1_ j_ (by omega)) (fun j_ hj_ => a2_ j_ (by omega)) (fun j_ hj_ => a3_ j_ (by omega)) (fun j_ hj_ => a4_ j_ (by omega)) (fun j_ hj_ => a5_ j_ (by omega))⟩
    rw [(a1_ fr_ (by omega)).1, (a1_ fr_ (by omega)).2, (a2_ (fr_ + 1) (by omega)).1, (a2_ (fr_ + 1) (by omega)).2]
    exact h1_
/-- the_ state of_ the_ work, with what has_ been done to_ next values and beginning -/
def giN (b_ : Nat → Int) (n_ T_ F_ I_ tp_ : Nat) (B_ : pA) (N_ : Nat → Nat) (X_ : Nat → gQ → gE → Option (gQ × gE)) (Y_ : Nat → gQ → gE → gN → gN) (z_ : gQ × gE) (zx_ : gN) (mu_ fr_ M_ f_ : Nat) (A_ : pA) (c_ : List Int) (p_ : Nat) (ce_ rest : List Int) (E_ : gE) (O_ : gO) (q_ : gQ) (q'_ : gQ) (E'_ : gE) (O'_ : gO) (w_ : Nat) (g_ : gN → gN) (x_ : gN) (S_ : sm_S) : Prop := gin b_ n_ T_ F_ I_ tp_ B_ N_ X_ z_ mu_ fr_ M_ f_ A_ c_ p_ ce_ rest E_ O_ q_ q'_ E'_ O'_ w_ S_ ∧ beN b_ n_ T_ F_ I_ tp_ B_ N_ X_ Y_ S_ z_ fr_ M_ q'_ E'_ w_ g_ ∧ rbt B_ I_ M_ fr_ (A_.1 M_) E_ S_ ∧ g_ (ncd F_ I_ B_ X_ Y_ M_ rest.reverse (q_, E_, O_, []) x_) = zx_ ∧ imq (S_.1 13 0 37 - S_.1 13 0 38 ≤ 1000) (rxn q_.2.1 x_ S_)
def giM (b_ : Nat → Int) (n_ T_ F_ I_ tp_ : Nat) (B_ : pA) (N_ : Nat → Nat) (X_ : Nat → gQ → gE → Option (gQ × gE)) (Y_ : Nat → gQ → gE → gN → gN) (z_ : gQ × gE) (zx_ : gN) (mu_ : Nat) (S_ : sm_S) : Prop := ∃ fr_ M_ f_ A_ c_ p_ ce_ rest E_ O_ q_ q'_ E'_ O'_ w_ g_ x_, giN b_ n_ T_ F_ I_ tp_ B_ N_ X_ Y_ z_ zx_ mu_ fr_ M_ f_ A_ c_ p_ ce_ rest E_ O_ q_ q'_ E'_ O'_ w_ g_ x_ S_
/-- what an_ item leaves -/
def pNx (F_ I_ : Nat) (B_ : pA) (X_ : Nat → gQ → gE → Option (gQ × gE)) (Y_ : Nat → gQ → gE → gN → gN) (M_ fr_ K_ : Nat) (kk_ : List Int) (q0_ : gQ) (E_ : gE) (O_ : gO) (x0_ : gN) (q1_ : gQ) (E1_ : gE) (S0_ S1_ : sm_S) : Prop := rbt B_ I_ M_ fr_ K_ E1_ S1_ ∧ (∀ j_, j_ < 40 * fr_ → S1_.2.2.1 150 0 j_ = S0_.2.2.1 150 0 j_) ∧ imq (S1_.1 13 0 37 - S1_.1 13 0 38 ≤ 1000) (rxn q1_.2.1 (ncd F_ I_ B_ X_ Y_ M_ kk_.reverse (q0_, E_, O_, []) x0_) S1_)
def p8x (kk_ : List Int) (q0_ : gQ) (x0_ : gN) (S0_ S1_ : sm_S) : Prop := S1_.2.2.1 150 0 = S0_.2.2.1 150 0 ∧ wpl kk_.tail ∧ imq (S1_.1 13 0 37 - S1_.1 13 0 38 ≤ 1000) (rxn q0_.2.1 x0_ S1_)
theorem gin_r0 {b_ : Nat → Int} {n_ T_ F_ I_ tp_ : Nat} {B_ : pA} {N_ : Nat → Nat} {z_ : gQ × gE} {mu_ fr_ M_ f_ : Nat} {A_ : pA} {c_ : List Int} {p_ : Nat} {ce_ rest : List Int} {E_ : gE} {O_ : gO} {q_ q'_ : gQ} {E'_ : gE} {O'_ : gO} {w_ : Nat} {S_ : sm_S} {X_ : Nat → gQ → gE → Option (gQ × gE)} (h_ : gin b_ n_ T_ F_ I_ tp_ B_ N_ X_ z_ mu_ fr_ M_ f_ A_ c_ p_ ce_ rest E_ O_ q_ q'_ E'_ O'_ w_ S_) (hk_ : lx_kd b_ n_ p_ = 125) : rest = [] := by
  obtain ⟨h1_, h2_, h3_, h4_, -⟩ := h_
  cases f_ with
  | zero => exact h3_.elim
  | succ f1_ =>
    obtain ⟨⟨m1_, m2_, m3, m4_⟩, m5_⟩ := h3_
    rcases m5_ with ⟨z1_, z2_, z3_⟩ | ⟨rr_, z1_, z2_⟩
    · rw [z3_] at h4_
      have e_ := congrArg List.length h4_
      rw [List.length_append] at e_
      exact List.eq_nil_of_length_eq_zero (by omega)
    · exfalso
      unfold p_it at z1_
      rw [if_neg (by omega), if_neg (by omega), if_neg (by omega), if_neg (by omega), if_neg (by omega), if_neg (by omega)] at z1_
      cases z1_
section GN_
variable {b_ : Nat → Int} {n_ T_ F_ I_ tp_ : Nat} {B_ : pA} {N_ : Nat → Nat} {C_ : Nat → List Int} {z_ : gQ × gE} {zx_ : gN} {mu_ fr_ M_ f_ : Nat} {A_ : pA} {c_ : List Int} {p_ : Nat} {ce_ rest : List Int} {E_ : gE} {O_ : gO} {q_ q'_ : gQ} {E'_ : gE} {O'_ : gO} {w_ : Nat} {g_ : gN → gN} {x_ : gN} {S_ S1_ : sm_S}
theorem giN_it {X_ : Nat → gQ → gE → Option (gQ × gE)} {Y_ : Nat → gQ → gE → gN → gN} {rr_ : pT} {kk_ rest1 : List Int} {q1_ : gQ} {E1_ : gE} {O1_ : gO} {V1_ : gV} (h_ : giN b_ n_ T_ F_ I_ tp_ B_ N_ X_ Y_ z_ zx_ mu_ fr_ M_ f_ A_ c_ p_ ce_ rest E_ O_ q_ q'_ E'_ O'_ w_ g_ x_ S_) (i2_ : rr_.2.1 = kk_ ++ c_) (i6_ : ce_ = rest1 ++ rr_.2.1) (i4_ : ev F_ I_ B_ X_ M_ (q_, E_, O_, []) kk_ = some (q1_, E1_, O1_, V1_)) : g_ (ncd F_ I_ B_ X_ Y_ M_ rest1.reverse (q1_, E1_, O1_, V1_) (ncd F_ I_ B_ X_ Y_ M_ kk_.reverse (q_, E_, O_, []) x_)) = zx_ := by
  obtain ⟨G_, hb_, hr_, hg_, hx_⟩ := h_
  have h4_ := G_.2.2.2.1
  have r1_ : rest = rest1 ++ kk_ := by
    rw [h4_, i2_, ← List.append_assoc] at i6_
    exact List.append_cancel_right i6_
  have i5_ : ec F_ I_ B_ X_ M_ kk_.reverse (q_, E_, O_, []) = some (q1_, E1_, O1_, V1_) := i4_
  rw [r1_, List.reverse_append, ncd_ap kk_.reverse _ _ i5_] at hg_
  exact hg_
theorem giN_N {X_ : Nat → gQ → gE → Option (gQ × gE)} {Y_ : Nat → gQ → gE → gN → gN} {f1_ : Nat} {rr_ : pT} {kk_ rest1 : List Int} {q1_ : gQ} {E1_ : gE} {O1_ : gO} {V1_ : gV} (hn_ : n_ ≤ 1280) (h_ : giN b_ n_ T_ F_ I_ tp_ B_ N_ X_ Y_ z_ zx_ mu_ fr_ M_ f_ A_ c_ p_ ce_ rest E_ O_ q_ q'_ E'_ O'_ w_ g_ x_ S_) (hkk_ : rr_.2.1 = kk_ ++ c_) (hm_ : mch b_ n_ B_ N_ M_ f1_ rr_.1 rr_.2.1 rr_.2.2 ce_) (hc_ : ce_ = rest1 ++ rr_.2.1) (hv_ : ev F_ I_ B_ X_ M_ (q1_, E1_, O1_, V1_) rest1 = some (q'_, E'_, O'_, [])) (hp_ : p_ < rr_.2.2 ∧ rr_.2.2 ≤ n_) (hK_ : A_.1 M_ ≤ rr_.1.1 M_) (h45_ : S1_.2.2.1 145 0 = S_.2.2.1 145 0) (hXw_ : lwX F_ I_ X_) (hF13_ : F_ ≤ 13) (hek_ : ev F_ I_ B_ X_ M_ (q_, E_, O_, []) kk_ = some (q1_, E1_, O1_, V1_)) (hRF_ : 1 + I_ + q1_.2.1 ≤ F_) (hN_ : pN b_ n_ T_ F_ I_ B_ M_ fr_ (rr_.1.1 M_) q_.2.2 q1_ E1_ O_ O1_ V1_ rr_.2.2 S_ S1_) (hx_ : pNx F_ I_ B_ X_ Y_ M_ fr_ (rr_.1.1 M_) kk_ q_ E_ O_ x_ q1_ E1_ S_ S1_) : ∃ mu1_, mu1_ < mu_ ∧ giM b_ n_ T_ F_ I_ tp_ B_ N_ X_ Y_ z_ zx_ mu1_ S1_ := by
  have hz_ := giN_it h_ hkk_ hc_ hek_
  obtain ⟨G_, hb_, hr_, hg_, hx0_⟩ := h_
  obtain ⟨mu1_, l1_, G1_⟩ := gin_N hn_ G_ hm_ hc_ hv_ hp_ hK_ h45_ hXw_ hF13_ hek_ hRF_ hN_
  obtain ⟨k1_, k2_, k3_, k4_, k5_, k6_, k7_, k8_, k9_, ka_, kb_, kc_, kd_, ke_⟩ := hN_
  obtain ⟨x1_, x2_, x3_⟩ := hx_
  subst kd_
  refine ⟨mu1_, l1_, fr_, M_, f1_, rr_.1, rr_.2.1, rr_.2.2, ce_, rest1, E1_, O1_, q1_, q'_, E'_, O'_, w_, g_, ncd F_ I_ B_ X_ Y_ M_ kk_.reverse (q_, E_, O_, []) x_, G1_, ?_, x1_, hz_, x3_⟩
  refine beN_fr fr_ M_ q'_ E'_ w_ g_ hb_ (fun j_ hj_ => ⟨congrFun k7_.1 j_, ?_⟩) (fun j_ hj_ => ⟨congrFun k7_.2.1 j_, congrFun k7_.2.2 j_⟩) k9_ (fun j_ hj_ => congrFun h45_ j_) x2_
  rw [k8_, if_neg (by omega)]
theorem giN_8 {f1_ : Nat} {rr_ : pT} {kk_ rest1 : List Int} {q1_ : gQ} {E1_ : gE} {O1_ : gO} {V1_ : gV} (hn_ : n_ ≤ 1280) (hmo_ : ∀ m_, m_ ≤ tp_ → gmd b_ n_ T_ B_ N_ C_ m_ S_) (h_ : giN b_ n_ T_ F_ I_ tp_ B_ N_ (exm F_ I_ B_ C_ 16) (nxm F_ I_ B_ C_ 16) z_ zx_ mu_ fr_ M_ f_ A_ c_ p_ ce_ rest E_ O_ q_ q'_ E'_ O'_ w_ g_ x_ S_) (hkk_ : rr_.2.1 = kk_ ++ c_) (hm_ : mch b_ n_ B_ N_ M_ f1_ rr_.1 rr_.2.1 rr_.2.2 ce_) (hc_ : ce_ = rest1 ++ rr_.2.1) (he_ : ev F_ I_ B_ (exm F_ I_ B_ C_ 16) M_ (q_, E_, O_, []) kk_ = some (q1_, E1_, O1_, V1_)) (hv_ : ev F_ I_ B_ (exm F_ I_ B_ C_ 16) M_ (q1_, E1_, O1_, V1_) rest1 = some (q'_, E'_, O'_, [])) (hp_ : p_ < rr_.2.2 ∧ rr_.2.2 ≤ n_) (h45_ : S1_.2.2.1 145 0 = S_.2.2.1 145 0) (hF13_ : F_ ≤ 13) (hRz_ : 1 + I_ + z_.1.2.1 ≤ F_) (h8_ : p8 b_ n_ T_ F_ I_ B_ (exm F_ I_ B_ C_ 16) M_ fr_ (A_.1 M_) q_ E_ O_ kk_ (rr_.1.1 M_) rr_.2.2 S_ S1_) (hx8_ : p8x kk_ q_ x_ S_ S1_) : ∃ mu1_, mu1_ < mu_ ∧ giM b_ n_ T_ F_ I_ tp_ B_ N_ (exm F_ I_ B_ C_ 16) (nxm F_ I_ B_ C_ 16) z_ zx_ mu1_ S1_ := by
  have hz_ := giN_it h_ hkk_ hc_ he_
  obtain ⟨G0_, hb_, hr_, hg_, hx0_⟩ := h_
  obtain ⟨h1_, h2_, h3_, h4_, h5_, h6_, h7_, hEB_, h9_, h10_, h11_, h12_, h13_, h14_, h15_, h16_⟩ := G0_
  obtain ⟨d_, k8_, G_, o_, i9_, g1_, g2_, g3_, g4_, g5_, g6_, g7_, g8_, g9_, gz_, ga_, gb_, gc_, gd_, ge_, gf_, gg_⟩ := h8_
  obtain ⟨t1_, t2_, t3_⟩ := hx8_
  have A40_ := (hB_40 h3_)
  subst g1_
  rw [ev_c g7_] at he_
  obtain ⟨e1_, e2_, e3_⟩ := cw_d (k_ := 17) (a_ := (A_.1 M_ : Int)) (d_ := (d_ : Int)) (by omega) (by omega)
  obtain ⟨o'_, z2_, w1_, w2_, w3_, w4_, w5_, w6_, w7_⟩ := ew17 he_ e1_
  have g17_ : ∀ x9_ : gN, nw I_ B_ (nxm F_ I_ B_ C_ 16) M_ (cw 17 (A_.1 M_ : Int) (d_ : Int)) ((G_, q_.2.1, q_.2.2 + 1), E_, up1 O_ (A_.1 M_) (some o_), []) x9_ = nxm F_ I_ B_ C_ 16 d_ (G_, q_.2.1, q_.2.2 + 1) o'_ x9_ := by
    intro x9_
    rw [nw_17 e1_ w1_, e3_, Int.toNat_natCast]
  have n17_ : ncd F_ I_ B_ (exm F_ I_ B_ C_ 16) (nxm F_ I_ B_ C_ 16) M_ (cw 17 (A_.1 M_ : Int) (d_ : Int) :: k8_).reverse (q_, E_, O_, []) x_ = nxm F_ I_ B_ C_ 16 d_ (G_, q_.2.1, q_.2.2 + 1) o'_ x_ := by
    have c8_ : ec F_ I_ B_ (exm F_ I_ B_ C_ 16) M_ k8_.reverse (q_, E_, O_, []) = some ((G_, q_.2.1, q_.2.2 + 1), E_, up1 O_ (A_.1 M_) (some o_), []) := g7_
    rw [List.reverse_cons, ncd_ap k8_.reverse _ _ c8_, ncd_pl k8_.reverse _ _ (wpl_r t2_), ncd_c he_]
    exact g17_ x_
  rw [n17_] at hz_
  rw [e2_, Int.toNat_natCast] at w1_ w7_
  rw [e3_, Int.toNat_natCast] at w6_
  have oo_ : o'_ = o_ := by
    have w1_ : (if A_.1 M_ = A_.1 M_ then some o_ else O_ (A_.1 M_)) = some o'_ := w1_
    rw [if_pos rfl] at w1_
    exact (Option.some.inj w1_).symm
  subst oo_
  have w7_ : (q1_, E1_, O1_, V1_) = (z2_.1, E_, up1 (up1 O_ (A_.1 M_) (some o'_)) (A_.1 M_) (some z2_.2), []) := w7_
  rw [up1_2] at w7_
  rw [w7_] at hv_ hz_
  have w6_ : exm F_ I_ B_ C_ 16 d_ (G_, q_.2.1, q_.2.2 + 1) o'_ = some z2_ := w6_
  have w6n : nxm F_ I_ B_ C_ 16 d_ (G_, q_.2.1, q_.2.2 + 1) o'_ x_ = ncd F_ I_ B_ (exm F_ I_ B_ C_ 16) (nxm F_ I_ B_ C_ 16) d_ (C_ d_) ((G_, q_.2.1, q_.2.2 + 1), o'_, fun _ => none, []) x_ := nxm_ev (f_ := 15) w6_
  rw [w6n] at hz_
  obtain ⟨O2_, x1_⟩ := exm_ev w6_
  obtain ⟨f2_, A2_, c2_, u_, ce2_, i2_, y1_, y2_, y3_, y4_, y5_⟩ := hmo_ d_ (by omega)
  have l1_ : q_.1.length ≤ G_.length := ev_le exm_hX g7_
  have l2_ : G_.length ≤ z2_.1.1.length := exm_hX _ _ _ _ w6_
  obtain ⟨m1_, m2_, m3, m4_, m5_, m6_, m7_, m8_⟩ := gd_
  have XW_ := exm_w (F_ := F_) (I_ := I_) (A_ := B_) (C_ := C_) 16
  have r1_ : z2_.1.2.1 ≤ q'_.2.1 := ev_R XW_ hv_
  have r2_ : q'_.2.1 ≤ z_.1.2.1 := bel_R XW_ _ _ _ _ _ h15_
  have r3_ : q_.2.1 ≤ z2_.1.2.1 := (XW_ _ _ _ _ w6_).2.1
  have LS_ : G_.length ≤ 1001 → lwS F_ ((G_, q_.2.1, q_.2.2 + 1), E_, up1 O_ (A_.1 M_) (some o'_), []) := fun ok_ => ev_w XW_ g7_ (by show F_ + G_.length ≤ 1023; omega) (by show 1 + I_ + q_.2.1 ≤ F_; omega) (h11_.2 (Nat.le_trans l1_ ok_))
  have LW_ : lwG F_ (G_, q_.2.1, q_.2.2 + 1) o'_ (fun _ => none) := fun ok_ => ⟨(LS_ ok_).1, (LS_ ok_).2.2.1 (A_.1 M_) o'_ (if_pos rfl), (fun a_ o_ e_ => by cases e_), (fun v_ hv_ => by cases hv_)⟩
  have LB_ : lwB F_ z2_.1 E_ O_ := fun ok_ => ⟨fun s_ => lwl_up (by show F_ + q_.1.length ≤ F_ + z2_.1.1.length; omega) ((h11_.2 (by omega)).2.1 s_), fun s_ o_ e_ t_ => lwl_up (by show F_ + q_.1.length ≤ F_ + z2_.1.1.length; omega) ((h11_.2 (by omega)).2.2.1 s_ o_ e_ t_)⟩
  have ub_ := (mch_ex y1_).2.2.1
  have BN_ : beN b_ n_ T_ F_ I_ tp_ B_ N_ (exm F_ I_ B_ C_ 16) (nxm F_ I_ B_ C_ 16) S1_ z_ (fr_ + 1) d_ z2_.1 z2_.2 ((1301 - rr_.2.2) + w_) (fun x9_ => g_ (ncd F_ I_ B_ (exm F_ I_ B_ C_ 16) (nxm F_ I_ B_ C_ 16) M_ rest1.reverse (z2_.1, E_, up1 O_ (A_.1 M_) (some z2_.2), []) x9_)) := by
    refine ⟨M_, f1_, rr_.1, rr_.2.1, rr_.2.2, ce_, rest1, A_.1 M_, E_, O_, i9_, q'_, E'_, O'_, w_, g_, ⟨?_, ?_, ?_, ?_⟩, gc_, hm_, hc_, ⟨g4_, g2_, h5_, g3_⟩, ⟨g5_, g6_⟩, h6_, h7_, hEB_, h9_, h10_, ⟨rev_lo h11_.1 (fun z9_ => Nat.le_trans l1_ (Nat.le_trans l2_ z9_)) h7_ ge_ h45_, LB_, rbt_eq hr_ t1_⟩, hv_, ⟨rfl, rfl⟩, ?_⟩
    · rw [m1_, if_neg (by omega), rd_ne (by decide)]; exact h1_.2.2.2.1
    · rw [m3, if_pos rfl]
    · rw [m2_, if_pos rfl]
    · rw [m4_, if_neg (by omega), rd_eq, if_pos rfl]
    · refine beN_fr fr_ M_ q'_ E'_ w_ g_ hb_ (fun j_ hj_ => ⟨?_, ?_⟩) (fun j_ hj_ => ⟨?_, ?_⟩) (fun j_ hj_ => ge_ j_ (by omega)) (fun j_ hj_ => congrFun h45_ j_) (fun j_ hj_ => congrFun t1_ j_)
      · rw [m1_, if_neg (by omega), rd_ne (by decide)]
      · rw [m4_, if_neg (by omega), rd_eq, if_neg (by omega)]
      · rw [m2_, if_neg (by omega), rd_ne (by decide)]
      · rw [m3, if_neg (by omega), rd_ne (by decide)]
  refine ⟨(300 - (q_.2.2 + 1)) * 3000 + (1301 - u_) + ((1301 - rr_.2.2) + w_), by omega, fr_ + 1, d_, f2_, A2_, c2_, u_, ce2_, (C_ d_).reverse, o'_, fun _ => none, (G_, q_.2.1, q_.2.2 + 1), z2_.1, z2_.2, O2_, (1301 - rr_.2.2) + w_, _, x_, ⟨⟨?_, m5_, gg_.trans h1_.2.2.1, ?_, ?_⟩, ⟨m8_, i2_, ?_, y4_⟩, y1_, y3_, by omega, ?_, g9_, gz_, fun s_ _ => rfl, (fun s_ o9_ e9_ => by cases e9_), ?_, gb_, ?_, x1_, beN_be _ _ _ _ _ _ BN_, rfl⟩, BN_, ?_, ?_, t3_⟩
  · rw [m6_]; push_cast; rfl
  · rw [m1_, if_pos rfl]
  · rw [m4_, if_pos rfl, y2_]; rfl
  · rw [m7_, rd_ne (by decide)]; exact y5_
  · rw [y2_]; exact tst_0 g8_
  · rw [y2_]; exact ⟨gf_, LW_⟩
  · show q_.2.2 + 1 ≤ 201; omega
  · rw [y2_]; exact rbt_0
  · rw [List.reverse_reverse]; exact hz_
theorem giN_D {X_ : Nat → gQ → gE → Option (gQ × gE)} {Y_ : Nat → gQ → gE → gN → gN} (h_ : giN b_ n_ T_ F_ I_ tp_ B_ N_ X_ Y_ z_ zx_ mu_ 0 M_ f_ A_ c_ p_ ce_ rest E_ O_ q_ q'_ E'_ O'_ w_ g_ x_ S_) (hk_ : lx_kd b_ n_ p_ = 125) : zx_ = x_ := by
  obtain ⟨G_, hb_, hr_, hg_, hx0_⟩ := h_
  have hr0_ := gin_r0 G_ hk_
  obtain ⟨b1_, b2_, b3_⟩ := hb_
  rw [hr0_, b3_] at hg_
  exact hg_.symm
theorem giN_L {X_ : Nat → gQ → gE → Option (gQ × gE)} {Y_ : Nat → gQ → gE → gN → gN} {K_ : Nat} (hn_ : n_ ≤ 1280) (h_ : giN b_ n_ T_ F_ I_ tp_ B_ N_ X_ Y_ z_ zx_ mu_ (fr_ + 1) M_ f_ A_ c_ p_ ce_ rest E_ O_ q_ q'_ E'_ O'_ w_ g_ x_ S_) (hk_ : lx_kd b_ n_ p_ = 125) (hK_ : S_.2.2.1 148 0 (fr_ + 1) = (K_ : Int)) (p1_ : S1_.1 13 0 29 = (fr_ : Int)) (p2_ : ∀ o1_ k1_ : Nat, o1_ < B_.1 M_ → k1_ < 8 → S1_.2.2.1 145 0 (8 * (40 * (40 * fr_ + K_) + o1_) + k1_) = S_.2.2.1 144 0 (8 * (40 * (fr_ + 1) + o1_) + k1_)) (p3_ : ∀ j_, j_ < 8 * (40 * (40 * fr_ + K_)) ∨ 8 * (40 * (40 * fr_ + K_)) + 320 ≤ j_ → S1_.2.2.1 145 0 j_ = S_.2.2.1 145 0 j_) (p4_ : S1_.1 13 0 9 = S_.2.2.1 147 0 (fr_ + 1)) (p5_ : S1_.1 13 0 28 = S_.2.2.1 146 0 fr_) (f4_ : S1_.2.2.1 144 0 = S_.2.2.1 144 0) (f6_ : S1_.2.2.1 146 0 = S_.2.2.1 146 0) (f7_ : S1_.2.2.1 147 0 = S_.2.2.1 147 0) (f8 : S1_.2.2.1 148 0 = S_.2.2.1 148 0) (f9_ : S1_.2.2.1 149 0 = S_.2.2.1 149 0) (fu_ : S1_.1 13 0 53 = S_.1 13 0 53) (ff_ : S1_.1 13 0 10 = S_.1 13 0 10) (fg_ : rgl F_ q_.1 S_ → rgl F_ q_.1 S1_) (fa_ : S1_.2.2.1 150 0 = S_.2.2.1 150 0) (fb_ : imq (S1_.1 13 0 37 - S1_.1 13 0 38 ≤ 1000) (rxn q_.2.1 x_ S1_)) : ∃ mu1_, mu1_ < mu_ ∧ giM b_ n_ T_ F_ I_ tp_ B_ N_ X_ Y_ z_ zx_ mu1_ S1_ := by
  obtain ⟨G0_, hb_, hr_, hg_, hx0_⟩ := h_
  obtain ⟨e1_, e2_, e3_⟩ := gin_e G0_ hk_
  have hr0_ := gin_r0 G0_ hk_
  obtain ⟨h1_, h2_, h3_, h4_, h5_, h6_, h7_, h8_, h9_, h10_, h11_, h12_, h13_, h14_, h15_, h16_⟩ := G0_
  subst e2_
  subst e3_
  rw [hr0_] at hg_
  have hg_ : g_ x_ = zx_ := hg_
  obtain ⟨M0_, f0_, A0_, c0_, p0_, ce0_, rest0, K0_, E0_, O0_, i_, q2_, E2_, O2_, w'_, g'_, b1_, b2_, b3_, b4_, b5_, b6_, b7_, b8_, b9_, b10_, b11_, b12_, b13_, ⟨b14_, b14g⟩, b15_⟩ := hb_
  rw [b14g] at hg_
  have hg_ : g'_ (ncd F_ I_ B_ X_ Y_ M0_ rest0.reverse (q'_, E0_, up1 O0_ K0_ (some E'_), []) x_) = zx_ := hg_
  have kk_ : K0_ = K_ := by
    have := b1_.2.1
    omega
  subst kk_
  have k40_ := hB_40 b3_
  have pn_ := (mch_ex h3_).2.2.1
  have up_ : ∀ s_ o_, up1 O0_ K0_ (some E'_) s_ = some o_ → (s_ = K0_ ∧ o_ = E'_) ∨ (s_ ≠ K0_ ∧ O0_ s_ = some o_) := by
    intro s_ o_ e_
    have e_ : (if s_ = K0_ then some E'_ else O0_ s_) = some o_ := e_
    by_cases q9_ : s_ = K0_
    · rw [if_pos q9_] at e_
      exact Or.inl ⟨q9_, (Option.some.inj e_).symm⟩
    · rw [if_neg q9_] at e_
      exact Or.inr ⟨q9_, e_⟩
  have BN_ : beN b_ n_ T_ F_ I_ tp_ B_ N_ X_ Y_ S1_ z_ fr_ M0_ q2_ E2_ w'_ g'_ := beN_fr fr_ M0_ q2_ E2_ w'_ g'_ b15_ (fun j_ _ => ⟨congrFun f6_ j_, congrFun f9_ j_⟩) (fun j_ _ => ⟨congrFun f7_ j_, congrFun f8 j_⟩) (fun j_ _ => congrFun f4_ j_) (fun j_ hj_ => p3_ j_ (by omega)) (fun j_ _ => congrFun fa_ j_)
  have RB_ : rbt B_ I_ M0_ fr_ (A0_.1 M0_) E0_ S1_ := by
    rw [b5_.1]
    exact rbt_i b12_.2.2 ⟨by rw [b6_.1]; decide, by rw [b6_.1]; decide⟩ fa_ (fun s_ _ => rfl)
  refine ⟨(300 - q'_.2.2) * 3000 + (1301 - p0_) + w'_, by omega, fr_, M0_, f0_, A0_, c0_, p0_, ce0_, rest0, E0_, up1 O0_ K0_ (some E'_), q'_, q2_, E2_, O2_, w'_, g'_, x_, ⟨⟨p1_, p5_.trans b1_.1, fu_.trans h1_.2.2.1, ?_, ?_⟩, ⟨ff_.trans h2_.1, i_, p4_.trans b1_.2.2.1, b2_⟩, b3_, b4_, by omega, ?_, b8_, b9_, ?_, ?_, ?_, fg_ h12_, h13_, b13_, beN_be _ _ _ _ _ _ BN_, rfl⟩, BN_, RB_, hg_, fb_⟩
  · rw [f6_]; exact b1_.1
  · rw [f9_, b1_.2.2.2, b5_.1]; push_cast; rfl
  · rw [b5_.1]
    refine tst_us b7_ b5_.2.2.2 b6_.1 ?_
    rw [b6_.2, Int.toNat_natCast]
    intro o1_ ho1_ hs_
    exact (h6_.1.2 o1_ (by omega)).1 hs_
  · intro s_ hs_
    rw [b5_.1] at hs_
    show (if s_ = K0_ then some E'_ else O0_ s_) = none
    rw [if_neg (by omega)]
    exact b10_ s_ (by omega)
  · intro s_ o_ e_ o1_ ho1_
    rcases up_ s_ o_ e_ with ⟨u1_, u2_⟩ | ⟨u1_, u2_⟩
    · rw [u2_]; exact h7_ o1_ ho1_
    · exact b11_ s_ o_ u2_ o1_ ho1_
  · refine ⟨?_, fun ok_ => ⟨(h11_.2 ok_).1, (b12_.2.1 ok_).1, fun s_ o_ e_ t_ => ?_, fun v_ hv_ => by cases hv_⟩⟩
    rotate_left
    · rcases up_ s_ o_ e_ with ⟨u1_, u2_⟩ | ⟨u1_, u2_⟩
      · rw [u2_]; exact (h11_.2 ok_).2.1 t_
      · exact (b12_.2.1 ok_).2 s_ o_ u2_ t_
    intro ok_
    obtain ⟨v1_, v2_⟩ := b12_.1 ok_
    obtain ⟨v3_, -⟩ := h11_.1 ok_
    rw [b5_.1]
    refine ⟨fun s_ hs_ => by rw [f4_]; exact v1_ s_ hs_, fun s_ o_ hs_ e_ o1_ ho1_ => ?_⟩
    rcases up_ s_ o_ e_ with ⟨u1_, u2_⟩ | ⟨u1_, u2_⟩
    · rw [u1_, u2_]
      by_cases oB_ : o1_ < B_.1 M_
      · have l8_ := h7_ o1_ ho1_
        intro k9_ z9_ e9_
        have kl_ : k9_ < (E'_ o1_).length := by
          by_cases q9_ : k9_ < (E'_ o1_).length
          · exact q9_
          · rw [List.getElem?_eq_none (by omega)] at e9_
            cases e9_
        rw [p2_ o1_ k9_ oB_ (by omega)]
        exact v3_ o1_ ho1_ k9_ z9_ e9_
      · rw [h8_ o1_ (by omega)]
        intro k9_ z9_ e9_
        simp at e9_
    · have l8_ := b11_ s_ o_ u2_ o1_ ho1_
      exact rwv_cg (v2_ s_ o_ (by omega) u2_ o1_ ho1_) (fun k9_ hk9_ => p3_ _ (by omega))
end GN_
end
