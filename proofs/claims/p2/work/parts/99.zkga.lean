/-! wires: back to the tree; written by wip/p55/gen/vg -/

/-! a_ wire goes back to_ its_ tree -/
/-- steps are_ where owners are_ -/
def bst (bb_ : Nat) (S_ : sm_S) : Prop := ∀ p_ : Nat, p_ < 4712 → S_.2.2.1 23 (0 + bb_) p_ ≠ 0 → S_.2.2.1 22 (0 + bb_) p_ ≠ -1
/-- open nets own_ no_ point -/
def ropn (bb_ : Nat) (S_ : sm_S) : Prop := ∀ c_ : Nat, c_ < 162 → S_.2.2.1 24 (0 + bb_) c_ ≠ 0 → ∀ p_ : Nat, (p_ : Int) < 2 * S_.1 8 0 2 → S_.2.2.1 22 (0 + bb_) p_ ≠ (c_ : Int)
/-- what net_ t_ may_ do_ to_ the_ others -/
def rot (bb_ : Nat) (t_ : Int) (S_ S'_ : sm_S) : Prop := ∀ p_ : Nat, S'_.2.2.1 22 (0 + bb_) p_ = S_.2.2.1 22 (0 + bb_) p_ ∨ S'_.2.2.1 22 (0 + bb_) p_ = -1 ∨ S'_.2.2.1 22 (0 + bb_) p_ = t_
/-- the_ way_ so_ far_: distances f_ fall along it_ -/
def rwy (L_ : Int) (f_ w_ : Nat → Int) (n_ : Int) : Prop := ∀ i_ : Nat, (i_ : Int) < n_ → (0 ≤ w_ i_ ∧ w_ i_ < 2 * L_) ∧ 0 ≤ f_ (w_ i_).toNat ∧ ((i_ : Int) < n_ - 1 → f_ (w_ (i_ + 1)).toNat < f_ (w_ i_).toNat)
theorem rwy_d {L_ n_ : Int} {f_ w_ : Nat → Int} (h_ : rwy L_ f_ w_ n_) : ∀ (i_ d_ : Nat), ((i_ + d_ + 1 : Nat) : Int) < n_ → f_ (w_ (i_ + d_ + 1)).toNat < f_ (w_ i_).toNat
  | i_, 0, hd_ => (h_ i_ (by omega)).2.2 (by omega)
  | i_, d_ + 1, hd_ => by
    have a_ := rwy_d h_ i_ d_ (by omega)
    have b_ := (h_ (i_ + d_ + 1) (by omega)).2.2 (by omega)
    exact Int.lt_trans b_ a_
theorem rwy_i {L_ n_ : Int} {f_ w_ : Nat → Int} (h_ : rwy L_ f_ w_ n_) {i_ j_ : Nat} (hij_ : i_ < j_) (hj_ : (j_ : Int) < n_) : f_ (w_ j_).toNat < f_ (w_ i_).toNat ∧ (w_ j_).toNat ≠ (w_ i_).toNat := by
  have a_ := rwy_d h_ i_ (j_ - i_ - 1) (by omega)
  rw [show i_ + (j_ - i_ - 1) + 1 = j_ by omega] at a_
  exact ⟨a_, fun z_ => by rw [z_] at a_; omega⟩
theorem rwy_s {L_ n_ q_ : Int} {f_ w_ w'_ : Nat → Int} (h_ : rwy L_ f_ w_ n_) (hn_ : 1 ≤ n_) (hq_ : 0 ≤ q_ ∧ q_ < 2 * L_) (hf_ : 0 ≤ f_ q_.toNat) (hl_ : f_ q_.toNat < f_ (w_ (n_ - 1).toNat).toNat) (hw_ : ∀ i_, w'_ i_ = if i_ = n_.toNat then q_ else w_ i_) : rwy L_ f_ w'_ (n_ + 1) := by
  intro i_ hi_
  rw [hw_, hw_]
  by_cases z_ : i_ = n_.toNat
  · rw [if_pos z_]
    exact ⟨hq_, hf_, fun u_ => by omega⟩
  · rw [if_neg z_]
    have a_ := h_ i_ (by omega)
    refine ⟨a_.1, a_.2.1, fun u_ => ?_⟩
    by_cases y_ : i_ + 1 = n_.toNat
    · rw [if_pos y_, show i_ = (n_ - 1).toNat by omega]
      exact hl_
    · rw [if_neg y_]
      exact a_.2.2 (by omega)
theorem bst_ls {bb_ : Nat} {t_ : Int} {S_ S'_ : sm_S} (h_ : bst bb_ S_) (g_ : rls bb_ t_ S_ S'_) : bst bb_ S'_ := by
  intro p_ hp_ hn_
  rw [(g_ p_).2] at hn_
  rw [(g_ p_).1]
  by_cases y_ : (p_ : Int) < 2 * S_.1 8 0 2 ∧ S_.2.2.1 22 (0 + bb_) p_ = t_
  · rw [if_pos y_] at hn_
    exact absurd rfl hn_
  · rw [if_neg y_] at hn_ ⊢
    exact h_ p_ hp_ hn_
theorem ropn_ls {bb_ : Nat} {t_ : Int} {S_ S'_ : sm_S} (h_ : ropn bb_ S_) (g_ : rls bb_ t_ S_ S'_) (ht_ : 0 ≤ t_) (e_ : S'_.1 8 0 2 = S_.1 8 0 2) (o_ : ∀ c_, S'_.2.2.1 24 (0 + bb_) c_ = if c_ = t_.toNat then 1 else S_.2.2.1 24 (0 + bb_) c_) : ropn bb_ S'_ := by
  intro c_ hc_ hn_ p_ hp_
  rw [e_] at hp_
  rw [(g_ p_).1]
  by_cases y_ : (p_ : Int) < 2 * S_.1 8 0 2 ∧ S_.2.2.1 22 (0 + bb_) p_ = t_
  · rw [if_pos y_]; omega
  · rw [if_neg y_]
    rw [o_] at hn_
    by_cases z_ : c_ = t_.toNat
    · intro x_
      exact y_ ⟨hp_, by omega⟩
    · rw [if_neg z_] at hn_
      exact h_ c_ hc_ hn_ p_ hp_
theorem rot_ls {bb_ : Nat} {t_ u_ : Int} {S0_ S_ S'_ : sm_S} (h_ : rot bb_ u_ S0_ S_) (g_ : rls bb_ t_ S_ S'_) : rot bb_ u_ S0_ S'_ := by
  intro p_
  rw [(g_ p_).1]
  split
  · exact Or.inr (Or.inl rfl)
  · exact h_ p_
theorem own_ls {bb_ : Nat} {t_ u_ : Int} {S_ S'_ : sm_S} (g_ : rls bb_ t_ S_ S'_) (hu_ : 0 ≤ u_) (ht_ : t_ ≠ u_) (p_ : Nat) : (S'_.2.2.1 22 (0 + bb_) p_ = u_ ↔ S_.2.2.1 22 (0 + bb_) p_ = u_) := by
  rw [(g_ p_).1]
  split
  · rename_i y_
    constructor
    · intro z_; omega
    · intro z_; exact absurd (y_.2.symm.trans z_) ht_
  · exact Iff.rfl
theorem trt_add {bb_ : Nat} {t_ x_ : Int} {S_ S'_ : sm_S} (h_ : trt bb_ t_ S_) (hx_ : 0 ≤ x_ ∧ x_ < 2 * S_.1 8 0 2) (ho_ : S_.2.2.1 22 (0 + bb_) x_.toNat ≠ t_) (t0_ : 0 ≤ S_.1 8 0 11) (h1_ : ∀ j_, S'_.2.2.1 22 (0 + bb_) j_ = if j_ = x_.toNat then t_ else S_.2.2.1 22 (0 + bb_) j_) (h2_ : ∀ i_, S'_.2.2.1 90 0 i_ = if i_ = (S_.1 8 0 11).toNat then x_ else S_.2.2.1 90 0 i_) (h3_ : S'_.1 8 0 11 = S_.1 8 0 11 + 1) (h4_ : S'_.1 8 0 2 = S_.1 8 0 2) : trt bb_ t_ S'_ := by
  obtain ⟨A_, B_, C_⟩ := h_
  refine ⟨?_, fun i_ hi_ => ?_, fun p_ hp_ hq_ => ?_⟩
  · have u_ := cne_up (f := S_.2.2.1 22 (0 + bb_)) (g := S'_.2.2.1 22 (0 + bb_)) (c := t_) (j := x_.toNat) ho_ (by rw [h1_, if_pos rfl]) (fun k_ hk_ => by rw [h1_, if_neg hk_]) (n := (2 * S_.1 8 0 2).toNat) (by omega)
    rw [h3_, h4_, u_]
    push_cast
    omega
  · rw [h3_] at hi_
    rw [h2_, h4_]
    by_cases z_ : i_ = (S_.1 8 0 11).toNat
    · rw [if_pos z_]
      exact ⟨hx_, by rw [h1_, if_pos rfl]⟩
    · rw [if_neg z_]
      have b_ := B_ i_ (by omega)
      refine ⟨b_.1, ?_⟩
      rw [h1_]
      split
      · rfl
      · exact b_.2
  · rw [h4_] at hp_
    rw [h1_] at hq_
    by_cases z_ : p_ = x_.toNat
    · exact ⟨(S_.1 8 0 11).toNat, by omega, by rw [h2_, if_pos rfl]; omega⟩
    · rw [if_neg z_] at hq_
      obtain ⟨i_, hi_, e_⟩ := C_ p_ hp_ hq_
      exact ⟨i_, by omega, by rw [h2_, if_neg (by omega)]; exact e_⟩
theorem trt_b {bb_ : Nat} {t_ x_ : Int} {S_ : sm_S} (h_ : trt bb_ t_ S_) (hx_ : 0 ≤ x_ ∧ x_ < 2 * S_.1 8 0 2) (ho_ : S_.2.2.1 22 (0 + bb_) x_.toNat ≠ t_) : S_.1 8 0 11 < 2 * S_.1 8 0 2 := by
  have u_ := cne_lt (f := S_.2.2.1 22 (0 + bb_)) (c := t_) (j := x_.toNat) ho_ (n := (2 * S_.1 8 0 2).toNat) (by omega)
  have a_ := h_.1
  omega
theorem trt_cg {bb_ : Nat} {t_ : Int} {S_ S'_ : sm_S} (h_ : trt bb_ t_ S_) (e2_ : S'_.1 8 0 2 = S_.1 8 0 2) (e11 : S'_.1 8 0 11 = S_.1 8 0 11) (e90_ : S'_.2.2.1 90 0 = S_.2.2.1 90 0) (eo_ : ∀ p_ : Nat, (S'_.2.2.1 22 (0 + bb_) p_ = t_ ↔ S_.2.2.1 22 (0 + bb_) p_ = t_)) : trt bb_ t_ S'_ := by
  obtain ⟨A_, B_, C_⟩ := h_
  have q_ : ∀ n_ : Nat, cne (S'_.2.2.1 22 (0 + bb_)) t_ n_ = cne (S_.2.2.1 22 (0 + bb_)) t_ n_ := by
    intro n_
    induction n_ with
    | zero => rfl
    | succ n_ ih_ =>
      rw [cne_s, cne_s, ih_]
      by_cases z_ : S_.2.2.1 22 (0 + bb_) n_ = t_
      · rw [if_pos z_, if_pos ((eo_ n_).mpr z_)]
      · rw [if_neg z_, if_neg (fun y_ => z_ ((eo_ n_).mp y_))]
  refine ⟨?_, fun i_ hi_ => ?_, fun p_ hp_ hq_ => ?_⟩
  · rw [e11, e2_, q_]; exact A_
  · rw [e11] at hi_
    have b_ := B_ i_ hi_
    rw [e90_, e2_]
    exact ⟨b_.1, (eo_ _).mpr b_.2⟩
  · rw [e2_] at hp_
    obtain ⟨i_, hi_, e_⟩ := C_ p_ hp_ ((eo_ p_).mp hq_)
    exact ⟨i_, by rw [e11]; exact hi_, by rw [e90_]; exact e_⟩
/-! Router.walkBack -/
def vw_165 : sx_Wl := ([(8, 11)], [22, 23, 24, 89, 90], [])
def vq_165 (a1_ : Int) (a2_ : Int) (bb_ : Nat) (S0_ : sm_S) (u_ : Option sm_V) (S1_ : sm_S) : Prop := u_ = none ∧ gi S1_ ∧ ai_fr (sx_W vw_165) S0_ S1_ ∧ (cdf bb_ S0_ S1_ ∧ (trt bb_ a2_ S1_ ∧ bst bb_ S1_ ∧ ropn bb_ S1_ ∧ rot bb_ a2_ S0_ S1_ ∧ S1_.2.2.1 24 (0 + bb_) a2_.toNat = 0 ∧ S1_.2.2.1 22 (0 + bb_) a1_.toNat = a2_))
set_option maxHeartbeats 3000000 in
set_option maxRecDepth 20000 in
theorem vl_165 {sc_ : Nat × (Nat → Int)} (a1_ : Int) (a2_ : Int) (bb_ : Nat) (S0_ : sm_S) (hb_ : S0_.2.1 8 0 0 = some bb_) (hg_ : rgw S0_) (h1_ : 0 ≤ a1_ ∧ a1_ < 2 * S0_.1 8 0 2) (h2_ : 0 ≤ a2_ ∧ a2_ ≤ 161) (hr_ : rsp bb_ a2_ S0_) (ht_ : trt bb_ a2_ S0_) (hf_ : 0 < S0_.2.2.1 86 0 a1_.toNat) (hst_ : bst bb_ S0_) (hop_ : ropn bb_ S0_) (hz_ : S0_.2.2.1 24 (0 + bb_) a2_.toNat = 0) : ∀ nn_ : Nat, (∀ (ct : Int) (gd_ : Int) (S_ : sm_S), gi S_ → ai_fr (sx_W vw_165) S0_ S_ → ((1 ≤ ct ∧ ct = gd_ + 1 ∧ 0 ≤ gd_ ∧ gd_ ≤ 4712) ∧ (S_.2.2.1 22 (0 + bb_) = (S0_.2.2.1 22 (0 + bb_)) ∧ S_.2.2.1 23 (0 + bb_) = S0_.2.2.1 23 (0 + bb_) ∧ S_.2.2.1 24 (0 + bb_) = S0_.2.2.1 24 (0 + bb_) ∧ S_.2.2.1 90 0 = S0_.2.2.1 90 0 ∧ S_.1 8 0 11 = S0_.1 8 0 11) ∧ (rwy (S0_.1 8 0 2) (S0_.2.2.1 86 0) (S_.2.2.1 89 0) ct) ∧ ((cnd (S0_.2.2.1 86 0) ((S0_.2.2.1 86 0) (S_.2.2.1 89 0 (ct - 1).toNat).toNat) (2 * S0_.1 8 0 2).toNat : Int) + ct ≤ 2 * S0_.1 8 0 2) ∧ (S_.2.2.1 89 0 0 = a1_) ∧ (cdf bb_ S0_ S_) ∧ True) → ((30000 - gd_).toNat) < nn_ → sm_T (mt_P sc_) 2 165 (12, [some (.inr (.inr (some (8, 0)))), some (.inl a1_), some (.inl a2_), some (.inl ct), some (.inl gd_), none, none], [], S_) (fun ro9_ => ∃ u_ S1_, ro9_ = (.inl u_, S1_, 0) ∧ vq_165 a1_ a2_ bb_ S0_ u_ S1_)) ∧ (∀ (ct : Int) (k_ : Int) (S_ : sm_S), gi S_ → ai_fr (sx_W vw_165) S0_ S_ → ((0 ≤ k_ ∧ k_ ≤ ct) ∧ (2 ≤ ct ∧ ct ≤ 4712 ∧ (S0_.2.2.1 86 0) (S_.2.2.1 89 0 (ct - 1).toNat).toNat = 0) ∧ (rwy (S0_.1 8 0 2) (S0_.2.2.1 86 0) (S_.2.2.1 89 0) ct) ∧ (∀ p_ : Nat, (S_.2.2.1 22 (0 + bb_) p_ = a2_ ↔ (S0_.2.2.1 22 (0 + bb_)) p_ = a2_)) ∧ (bst bb_ S_) ∧ (ropn bb_ S_) ∧ (rot bb_ a2_ S0_ S_) ∧ (S_.2.2.1 90 0 = S0_.2.2.1 90 0 ∧ S_.1 8 0 11 = S0_.1 8 0 11) ∧ (S_.2.2.1 24 (0 + bb_) a2_.toNat = 0) ∧ (S_.2.2.1 89 0 0 = a1_) ∧ (cdf bb_ S0_ S_) ∧ True) → ((15000 - k_).toNat) < nn_ → sm_T (mt_P sc_) 2 165 (110, [some (.inr (.inr (some (8, 0)))), some (.inl a1_), some (.inl a2_), some (.inl ct), some (.inl k_), none, none], [], S_) (fun ro9_ => ∃ u_ S1_, ro9_ = (.inl u_, S1_, 0) ∧ vq_165 a1_ a2_ bb_ S0_ u_ S1_)) ∧ (∀ (ct : Int) (k_ : Int) (S_ : sm_S), gi S_ → ai_fr (sx_W vw_165) S0_ S_ → ((0 ≤ k_ ∧ k_ ≤ ct - 1) ∧ (2 ≤ ct ∧ ct ≤ 4712 ∧ (S0_.2.2.1 86 0) (S_.2.2.1 89 0 (ct - 1).toNat).toNat = 0) ∧ (rwy (S0_.1 8 0 2) (S0_.2.2.1 86 0) (S_.2.2.1 89 0) ct) ∧ (∀ j_ : Nat, k_ ≤ (j_ : Int) → (j_ : Int) < ct - 1 → S_.2.2.1 22 (0 + bb_) (S_.2.2.1 89 0 j_).toNat ≠ a2_) ∧ (S_.2.2.1 22 (0 + bb_) (S_.2.2.1 89 0 (ct - 1).toNat).toNat = a2_) ∧ (trt bb_ a2_ S_) ∧ (∀ p_ : Nat, p_ < 4712 → S_.2.2.1 23 (0 + bb_) p_ ≠ 0 → S_.2.2.1 22 (0 + bb_) p_ ≠ -1 ∨ p_ = (S_.2.2.1 89 0 k_.toNat).toNat) ∧ (ropn bb_ S_) ∧ (rot bb_ a2_ S0_ S_) ∧ (S_.2.2.1 24 (0 + bb_) a2_.toNat = 0) ∧ (S_.2.2.1 89 0 0 = a1_) ∧ (0 < k_ → S_.2.2.1 22 (0 + bb_) a1_.toNat = a2_) ∧ (cdf bb_ S0_ S_) ∧ True) → ((9000 - k_).toNat) < nn_ → sm_T (mt_P sc_) 2 165 (160, [some (.inr (.inr (some (8, 0)))), some (.inl a1_), some (.inl a2_), some (.inl ct), some (.inl k_), none, none], [], S_) (fun ro9_ => ∃ u_ S1_, ro9_ = (.inl u_, S1_, 0) ∧ vq_165 a1_ a2_ bb_ S0_ u_ S1_)) := by
  intro nn_
  induction nn_ with
  | zero => exact ⟨fun _ _ _ _ _ _ h_ => absurd h_ (Nat.not_lt_zero _), fun _ _ _ _ _ _ h_ => absurd h_ (Nat.not_lt_zero _), fun _ _ _ _ _ _ h_ => absurd h_ (Nat.not_lt_zero _)⟩
  | succ nn_ ih_ =>
    refine ⟨?_, ?_, ?_⟩
    · rintro ct gd_ S_ hI_ hF_ ⟨h0_, hk_, hy_, hq_, hw_, hC_, -⟩ hm_
      have e2_ : S_.1 8 0 2 = S0_.1 8 0 2 := hF_.1 8 0 2 rfl
      have e1_ : S_.1 8 0 1 = S0_.1 8 0 1 := hF_.1 8 0 1 rfl
      have e86_ : S_.2.2.1 86 0 = S0_.2.2.1 86 0 := fr_arr hF_ rfl
      have cL_ : 0 ≤ S_.1 8 0 2 ∧ S_.1 8 0 2 ≤ 2356 := hI_.1 8 0 2 rfl
      have bx1_ : 0 ≤ S_.1 8 0 2 ∧ S_.1 8 0 2 ≤ 2356 := hI_.1 8 0 2 rfl
      refine sm_T_go 4 (c1 := (19, [some (.inr (.inr (some (8, 0)))), some (.inl a1_), some (.inl a2_), some (.inl ct), some (.inl gd_), none, none], [.inl (S_.1 8 0 2), .inl 2, .inl gd_], S_)) rfl ?_
      refine sm_T_bin (w := 2 * (S_.1 8 0 2)) rfl (bi_mul (by omega) (by omega) (by omega)) ?_ -- pc_ 19
      refine sm_T_br (a := 3) (z := 87) rfl (fun cx2_ => ?_) (fun cx2_ => ?_)
      · have cx2_ : 2 * (S_.1 8 0 2) ≤ gd_ := of_decide_eq_true cx2_
        exfalso; omega
      · have cx2_ : ¬ (2 * (S_.1 8 0 2) ≤ gd_) := of_decide_eq_false cx2_
        have y9_ := hy_ (ct - 1).toNat (by omega)
        have y8_ : S_.2.2.1 86 0 (S_.2.2.1 89 0 (ct - 1).toNat).toNat = (S0_.2.2.1 86 0) (S_.2.2.1 89 0 (ct - 1).toNat).toNat := by rw [e86_]
        refine sm_T_go 6 (c1 := (33, [some (.inr (.inr (some (8, 0)))), some (.inl a1_), some (.inl a2_), some (.inl ct), some (.inl gd_), none, none], [.inl 1, .inl ct, .inr (.inr (some (89, 0))), .inr (.inr (some (86, 0)))], S_)) rfl ?_
        refine sm_T_bin (w := ct - 1) rfl (bi_sub (by omega) (by omega) (by omega)) ?_ -- pc_ 33
        refine sm_T_iald (n := 4712) rfl rfl (by omega) (by omega) ?_
        have bx3_ : 0 ≤ S_.2.2.1 89 0 (ct - 1).toNat ∧ S_.2.2.1 89 0 (ct - 1).toNat ≤ 4711 := hI_.2 89 0 _
        refine sm_T_iald (n := 4712) rfl rfl (by omega) (by omega) ?_
        have bx4_ : (-1) ≤ S_.2.2.1 86 0 (S_.2.2.1 89 0 (ct - 1).toNat).toNat ∧ S_.2.2.1 86 0 (S_.2.2.1 89 0 (ct - 1).toNat).toNat ≤ 100000 := hI_.2 86 0 _
        refine sm_T_b0 (a := 5) (z := 71) rfl (fun cx5_ => ?_) (fun cx5_ => ?_)
        · have cx5_ : (S_.2.2.1 86 0 (S_.2.2.1 89 0 (ct - 1).toNat).toNat) ≤ 0 := of_decide_eq_true cx5_
          refine sm_T_go 2 (c1 := (110, [some (.inr (.inr (some (8, 0)))), some (.inl a1_), some (.inl a2_), some (.inl ct), some (.inl 0), none, none], [], S_)) rfl ?_
          refine ih_.2.1 ct 0 S_ hI_ hF_ ⟨?_, ?_, ?_, ?_, ?_, ?_, ?_, ?_, ?_, ?_, ?_, trivial⟩ ?_
          · omega
          · have z9_ : ct ≠ 1 := by (intro u_; rw [show (ct - 1).toNat = 0 by omega, hw_] at *; omega)
            exact ⟨by omega, by omega, by omega⟩
          · exact hy_
          · (intro p_; rw [hk_.1])
          · (intro p_ u_ w_; rw [hk_.2.1] at w_; rw [hk_.1]; exact hst_ p_ u_ w_)
          · (intro c_ u_ w_ p_ v_; rw [hk_.2.2.1] at w_; rw [hk_.1]; rw [e2_] at v_; exact hop_ c_ u_ w_ p_ v_)
          · (intro p_; left; rw [hk_.1])
          · exact ⟨hk_.2.2.2.1, hk_.2.2.2.2⟩
          · (rw [hk_.2.2.1]; exact hz_)
          · exact hw_
          · exact hC_
          · omega
        · have cx5_ : ¬ ((S_.2.2.1 86 0 (S_.2.2.1 89 0 (ct - 1).toNat).toNat) ≤ 0) := of_decide_eq_false cx5_
          have b9_ := hr_.2.1 (S_.2.2.1 89 0 (ct - 1).toNat).toNat (by omega) (by omega)
          rw [show (((S_.2.2.1 89 0 (ct - 1).toNat).toNat : Nat) : Int) = (S_.2.2.1 89 0 (ct - 1).toNat) by omega] at b9_
          have b8_ := b9_.1
          refine sm_T_go 4 (c1 := (45, [some (.inr (.inr (some (8, 0)))), some (.inl a1_), some (.inl a2_), some (.inl ct), some (.inl gd_), none, none], [.inl 1, .inl ct, .inr (.inr (some (89, 0)))], S_)) rfl ?_
          refine sm_T_bin (w := ct - 1) rfl (bi_sub (by omega) (by omega) (by omega)) ?_ -- pc_ 45
          refine sm_T_iald (n := 4712) rfl rfl (by omega) (by omega) ?_
          refine sm_T_go 6 (c1 := (58, [some (.inr (.inr (some (8, 0)))), some (.inl a1_), some (.inl a2_), some (.inl ct), some (.inl gd_), some (.inl (S_.2.2.1 89 0 (ct - 1).toNat)), none], [.inl (S_.2.2.1 89 0 (ct - 1).toNat), .inr (.inr (some (86, 0))), .inl (S_.2.2.1 89 0 (ct - 1).toNat), .inr (.inr (some (8, 0)))], S_)) rfl ?_
          refine sm_T_iald (n := 4712) rfl rfl (by omega) (by omega) ?_
          refine sm_T_go 3 (c1 := (63, [some (.inr (.inr (some (8, 0)))), some (.inl a1_), some (.inl a2_), some (.inl ct), some (.inl gd_), some (.inl (S_.2.2.1 89 0 (ct - 1).toNat)), none], [.inl a2_, .inl (S_.2.2.1 89 0 (ct - 1).toNat), .inr (.inr (some (8, 0))), .inl (S_.2.2.1 86 0 (S_.2.2.1 89 0 (ct - 1).toNat).toNat), .inl (S_.2.2.1 89 0 (ct - 1).toNat), .inr (.inr (some (8, 0)))], S_)) rfl ?_
          refine sm_T_cal (d1 := 0) (Q1 := vq_160 (S_.2.2.1 89 0 (ct - 1).toNat) a2_ bb_ S_) rfl rfl (by decide) (vc_160 (S_.2.2.1 89 0 (ct - 1).toNat) a2_ bb_ S_ hI_ (by exact (hF_.2.1 8 0 0 rfl).trans hb_) (by omega)) (fun u_ Sx6_ px9_ => ?_)
          obtain ⟨rfl, vx11_, rfl, px9_⟩ := px9_
          have p9_ := px9_
          rw [hk_.1] at p9_
          have pp9_ := prc_p (S0_.2.2.1 22 (0 + bb_)) a2_ (S_.2.2.1 89 0 (ct - 1).toNat).toNat
          refine sm_T_bin (w := (S_.2.2.1 86 0 (S_.2.2.1 89 0 (ct - 1).toNat).toNat) - vx11_) rfl (bi_sub (by omega) (by omega) (by omega)) ?_ -- pc_ 66
          refine sm_T_cal (d1 := 1) (Q1 := vq_166 (S_.2.2.1 89 0 (ct - 1).toNat) ((S_.2.2.1 86 0 (S_.2.2.1 89 0 (ct - 1).toNat).toNat) - vx11_) S_) rfl rfl (by decide) (vc_166 (S_.2.2.1 89 0 (ct - 1).toNat) ((S_.2.2.1 86 0 (S_.2.2.1 89 0 (ct - 1).toNat).toNat) - vx11_) S_ hI_ (by exact rgw_fr hg_ hF_) (by omega)) (fun u_ Sx12_ px15_ => ?_)
          obtain ⟨rfl, vx17_, rfl, px15_⟩ := px15_
          have bf9_ := px15_
          rw [e1_, e2_, e86_] at bf9_
          have bq9_ : vx17_ ≠ -1 → (0 ≤ vx17_ ∧ vx17_ < 2 * S0_.1 8 0 2) ∧ 0 ≤ (S0_.2.2.1 86 0) (vx17_).toNat ∧ (S0_.2.2.1 86 0) (vx17_).toNat < (S0_.2.2.1 86 0) (S_.2.2.1 89 0 (ct - 1).toNat).toNat ∧ cnd (S0_.2.2.1 86 0) ((S0_.2.2.1 86 0) (vx17_).toNat) (2 * S0_.1 8 0 2).toNat < cnd (S0_.2.2.1 86 0) ((S0_.2.2.1 86 0) (S_.2.2.1 89 0 (ct - 1).toNat).toNat) (2 * S0_.1 8 0 2).toNat := by (intro n9_; rcases bf9_ with u9_ | u9_; (exact absurd u9_.1 n9_); (have v9_ := u9_.2; exact ⟨u9_.1, by omega, by omega, cnd_lt (j := (vx17_).toNat) (by omega) (by omega) (by omega) (by omega) (by omega)⟩))
          refine sm_T_go 3 (c1 := (75, [some (.inr (.inr (some (8, 0)))), some (.inl a1_), some (.inl a2_), some (.inl ct), some (.inl gd_), some (.inl (S_.2.2.1 89 0 (ct - 1).toNat)), some (.inl vx17_)], [.inl (-1), .inl vx17_], S_)) rfl ?_
          refine sm_T_br (a := 0) (z := 32) rfl (fun cx18_ => ?_) (fun cx18_ => ?_)
          · have cx18_ : vx17_ = (-1) := of_decide_eq_true cx18_
            exfalso; (rcases bf9_ with u9_ | u9_; (obtain ⟨d9_, z1_, z2_, z3_⟩ := b9_.2; rcases u9_.2 d9_ z1_.1 z1_.2 with y1_ | y1_; omega; exact y1_ (z3_.trans (by omega))); omega)
          · have cx18_ : ¬ (vx17_ = (-1)) := of_decide_eq_false cx18_
            have bq8_ := bq9_ (by omega)
            refine sm_T_go 4 (c1 := (84, [some (.inr (.inr (some (8, 0)))), some (.inl a1_), some (.inl a2_), some (.inl ct), some (.inl gd_), some (.inl (S_.2.2.1 89 0 (ct - 1).toNat)), some (.inl vx17_)], [.inl 4712, .inl ct], S_)) rfl ?_
            refine sm_T_br (a := 1) (z := 6) rfl (fun cx19_ => ?_) (fun cx19_ => ?_)
            · have cx19_ : ct ≠ 4712 := of_decide_eq_true cx19_
              refine sm_T_go 4 (c1 := (97, [some (.inr (.inr (some (8, 0)))), some (.inl a1_), some (.inl a2_), some (.inl ct), some (.inl gd_), some (.inl (S_.2.2.1 89 0 (ct - 1).toNat)), some (.inl vx17_)], [.inl vx17_, .inl ct, .inr (.inr (some (89, 0)))], S_)) rfl ?_
              refine sm_T_iast (n := 4712) rfl rfl (by omega) (by omega) ?_
              have hIx20_ : gi (sm_aI S_ 89 0 ct.toNat vx17_) := gi_aI hI_ (show 0 ≤ vx17_ ∧ vx17_ ≤ 4711 from ⟨by omega, by omega⟩)
              have hFx21_ : ai_fr (sx_W vw_165) S0_ (sm_aI S_ 89 0 ct.toNat vx17_) := ai_fr_tr hF_ (ai_fr_aI rfl)
              have hCx22_ : cdf bb_ S0_ (sm_aI S_ 89 0 ct.toNat vx17_) := cdf_aI hC_ (Or.inl rfl)
              refine sm_T_inc (a := 3) (z := 1) (v := ct) (w := ct + 1) rfl rfl (by omega) (by omega) (by omega) ?_ -- pc_ 98
              refine sm_T_inc (a := 4) (z := 1) (v := gd_) (w := gd_ + 1) rfl rfl (by omega) (by omega) (by omega) ?_ -- pc_ 101
              refine sm_T_go 1 (c1 := (12, [some (.inr (.inr (some (8, 0)))), some (.inl a1_), some (.inl a2_), some (.inl (ct + 1)), some (.inl (gd_ + 1)), some (.inl (S_.2.2.1 89 0 (ct - 1).toNat)), some (.inl vx17_)], [], sm_aI S_ 89 0 ct.toNat vx17_)) rfl ?_
              refine sm_T_wk [some (.inr (.inr (some (8, 0)))), some (.inl a1_), some (.inl a2_), some (.inl (ct + 1)), some (.inl (gd_ + 1)), none, none] (by exact ⟨rfl, rfl, rfl, rfl, rfl, trivial⟩) ?_
              refine ih_.1 (ct + 1) (gd_ + 1) (sm_aI S_ 89 0 ct.toNat vx17_) hIx20_ hFx21_ ⟨?_, ?_, ?_, ?_, ?_, ?_, trivial⟩ ?_
              · omega
              · (simp only [rd_ne_, ne_eq, Nat.reduceEqDiff, not_false_eq_true]; exact hk_)
              · exact rwy_s hy_ (by omega) bq8_.1 bq8_.2.1 (by omega) (fun i_ => rd_eq)
              · rw [rd_eq, if_pos (by omega)]
                have z_ := bq8_.2.2.2
                omega
              · (rw [rd_eq, if_neg (by omega)]; exact hw_)
              · exact hCx22_
              · omega
            · have cx19_ : ¬ (ct ≠ 4712) := of_decide_eq_false cx19_
              exfalso; omega
    · rintro ct k_ S_ hI_ hF_ ⟨h0_, hl_, hy_, hn0_, hst1_, hop1_, hro_, htr_, hz1_, hw_, hC_, -⟩ hm_
      have e2_ : S_.1 8 0 2 = S0_.1 8 0 2 := hF_.1 8 0 2 rfl
      have e1_ : S_.1 8 0 1 = S0_.1 8 0 1 := hF_.1 8 0 1 rfl
      have e86_ : S_.2.2.1 86 0 = S0_.2.2.1 86 0 := fr_arr hF_ rfl
      have cL_ : 0 ≤ S_.1 8 0 2 ∧ S_.1 8 0 2 ≤ 2356 := hI_.1 8 0 2 rfl
      refine sm_T_go 2 (c1 := (113, [some (.inr (.inr (some (8, 0)))), some (.inl a1_), some (.inl a2_), some (.inl ct), some (.inl k_), none, none], [.inl ct, .inl k_], S_)) rfl ?_
      refine sm_T_br (a := 3) (z := 44) rfl (fun cx1_ => ?_) (fun cx1_ => ?_)
      · have cx1_ : ct ≤ k_ := of_decide_eq_true cx1_
        refine sm_T_go 2 (c1 := (160, [some (.inr (.inr (some (8, 0)))), some (.inl a1_), some (.inl a2_), some (.inl ct), some (.inl 0), none, none], [], S_)) rfl ?_
        refine ih_.2.2 ct 0 S_ hI_ hF_ ⟨?_, ?_, ?_, ?_, ?_, ?_, ?_, ?_, ?_, ?_, ?_, ?_, ?_, trivial⟩ ?_
        · omega
        · exact hl_
        · exact hy_
        · intro j_ u_ w_ q_
          have z_ := (hn0_ _).mp q_
          have y_ := (hr_.1 _ (by have x_ := (hy_ j_ (by omega)).1; omega)).mpr z_
          have v_ := (rwy_i hy_ (show j_ < (ct - 1).toNat by omega) (by omega)).1
          have x2_ := hl_.2.2
          omega
        · exact (hn0_ _).mpr ((hr_.1 _ (by have x_ := (hy_ (ct - 1).toNat (by omega)).1; omega)).mp hl_.2.2)
        · exact trt_cg ht_ e2_ htr_.2 htr_.1 hn0_
        · (intro p_ u_ w_; exact Or.inl (hst1_ p_ u_ w_))
        · exact hop1_
        · exact hro_
        · exact hz1_
        · exact hw_
        · (intro u_; exfalso; omega)
        · exact hC_
        · omega
      · have cx1_ : ¬ (ct ≤ k_) := of_decide_eq_false cx1_
        have w9_ := hy_ k_.toNat (by omega)
        refine sm_T_go 1 (c1 := (117, [some (.inr (.inr (some (8, 0)))), some (.inl a1_), some (.inl a2_), some (.inl ct), some (.inl k_), none, none], [.inr (.inr (some (8, 0)))], S_)) rfl ?_
        refine sm_T_gr rfl rfl ((hF_.2.1 8 0 0 rfl).trans hb_) ?_
        refine sm_T_go 4 (c1 := (129, [some (.inr (.inr (some (8, 0)))), some (.inl a1_), some (.inl a2_), some (.inl ct), some (.inl k_), none, none], [.inl k_, .inr (.inr (some (89, 0))), .inr (.inr (some (22, (0 + bb_))))], S_)) rfl ?_
        refine sm_T_iald (n := 4712) rfl rfl (by omega) (by omega) ?_
        have bx2_ : 0 ≤ S_.2.2.1 89 0 k_.toNat ∧ S_.2.2.1 89 0 k_.toNat ≤ 4711 := hI_.2 89 0 _
        refine sm_T_iald (n := 4712) rfl rfl (by omega) (by omega) ?_
        have bx3_ : (-1) ≤ S_.2.2.1 22 (0 + bb_) (S_.2.2.1 89 0 k_.toNat).toNat ∧ S_.2.2.1 22 (0 + bb_) (S_.2.2.1 89 0 k_.toNat).toNat ≤ 161 := hI_.2 22 (0 + bb_) _
        refine sm_T_go 3 (c1 := (136, [some (.inr (.inr (some (8, 0)))), some (.inl a1_), some (.inl a2_), some (.inl ct), some (.inl k_), some (.inl (S_.2.2.1 22 (0 + bb_) (S_.2.2.1 89 0 k_.toNat).toNat)), none], [.inl (-1), .inl (S_.2.2.1 22 (0 + bb_) (S_.2.2.1 89 0 k_.toNat).toNat)], S_)) rfl ?_
        refine sm_T_br (a := 0) (z := 15) rfl (fun cx4_ => ?_) (fun cx4_ => ?_)
        · have cx4_ : (S_.2.2.1 22 (0 + bb_) (S_.2.2.1 89 0 k_.toNat).toNat) = (-1) := of_decide_eq_true cx4_
          refine sm_T_inc (a := 4) (z := 1) (v := k_) (w := k_ + 1) rfl rfl (by omega) (by omega) (by omega) ?_ -- pc_ 151
          refine sm_T_go 1 (c1 := (110, [some (.inr (.inr (some (8, 0)))), some (.inl a1_), some (.inl a2_), some (.inl ct), some (.inl (k_ + 1)), some (.inl (S_.2.2.1 22 (0 + bb_) (S_.2.2.1 89 0 k_.toNat).toNat)), none], [], S_)) rfl ?_
          refine sm_T_wk [some (.inr (.inr (some (8, 0)))), some (.inl a1_), some (.inl a2_), some (.inl ct), some (.inl (k_ + 1)), none, none] (by exact ⟨rfl, rfl, rfl, rfl, rfl, trivial⟩) ?_
          refine ih_.2.1 ct (k_ + 1) S_ hI_ hF_ ⟨?_, ?_, ?_, ?_, ?_, ?_, ?_, ?_, ?_, ?_, ?_, trivial⟩ ?_
          · omega
          · first | exact hl_ | (rw [f89_]; exact hl_)
          · first | exact hy_ | (rw [f89_]; exact hy_)
          · first | exact hn0_ | (exact fun p_ => (own_ls r9_ h2_.1 (by omega) p_).trans (hn0_ p_))
          · first | exact hst1_ | exact bst_ls hst1_ r9_
          · first | exact hop1_ | exact ropn_ls hop1_ r9_ (by omega) f2_ o9_
          · first | exact hro_ | exact rot_ls hro_ r9_
          · first | exact htr_ | exact ⟨f90_.trans htr_.1, f11_.trans htr_.2⟩
          · first | exact hz1_ | (rw [o9_, if_neg (by omega)]; exact hz1_)
          · first | exact hw_ | (rw [f89_]; exact hw_)
          · exact hC_
          · omega
        · have cx4_ : ¬ ((S_.2.2.1 22 (0 + bb_) (S_.2.2.1 89 0 k_.toNat).toNat) = (-1)) := of_decide_eq_false cx4_
          refine sm_T_go 2 (c1 := (142, [some (.inr (.inr (some (8, 0)))), some (.inl a1_), some (.inl a2_), some (.inl ct), some (.inl k_), some (.inl (S_.2.2.1 22 (0 + bb_) (S_.2.2.1 89 0 k_.toNat).toNat)), none], [.inl a2_, .inl (S_.2.2.1 22 (0 + bb_) (S_.2.2.1 89 0 k_.toNat).toNat)], S_)) rfl ?_
          refine sm_T_br (a := 0) (z := 9) rfl (fun cx5_ => ?_) (fun cx5_ => ?_)
          · have cx5_ : (S_.2.2.1 22 (0 + bb_) (S_.2.2.1 89 0 k_.toNat).toNat) = a2_ := of_decide_eq_true cx5_
            refine sm_T_inc (a := 4) (z := 1) (v := k_) (w := k_ + 1) rfl rfl (by omega) (by omega) (by omega) ?_ -- pc_ 151
            refine sm_T_go 1 (c1 := (110, [some (.inr (.inr (some (8, 0)))), some (.inl a1_), some (.inl a2_), some (.inl ct), some (.inl (k_ + 1)), some (.inl (S_.2.2.1 22 (0 + bb_) (S_.2.2.1 89 0 k_.toNat).toNat)), none], [], S_)) rfl ?_
            refine sm_T_wk [some (.inr (.inr (some (8, 0)))), some (.inl a1_), some (.inl a2_), some (.inl ct), some (.inl (k_ + 1)), none, none] (by exact ⟨rfl, rfl, rfl, rfl, rfl, trivial⟩) ?_
            refine ih_.2.1 ct (k_ + 1) S_ hI_ hF_ ⟨?_, ?_, ?_, ?_, ?_, ?_, ?_, ?_, ?_, ?_, ?_, trivial⟩ ?_
            · omega
            · first | exact hl_ | (rw [f89_]; exact hl_)
            · first | exact hy_ | (rw [f89_]; exact hy_)
            · first | exact hn0_ | (exact fun p_ => (own_ls r9_ h2_.1 (by omega) p_).trans (hn0_ p_))
            · first | exact hst1_ | exact bst_ls hst1_ r9_
            · first | exact hop1_ | exact ropn_ls hop1_ r9_ (by omega) f2_ o9_
            · first | exact hro_ | exact rot_ls hro_ r9_
            · first | exact htr_ | exact ⟨f90_.trans htr_.1, f11_.trans htr_.2⟩
            · first | exact hz1_ | (rw [o9_, if_neg (by omega)]; exact hz1_)
            · first | exact hw_ | (rw [f89_]; exact hw_)
            · exact hC_
            · omega
          · have cx5_ : ¬ ((S_.2.2.1 22 (0 + bb_) (S_.2.2.1 89 0 k_.toNat).toNat) = a2_) := of_decide_eq_false cx5_
            refine sm_T_go 2 (c1 := (148, [some (.inr (.inr (some (8, 0)))), some (.inl a1_), some (.inl a2_), some (.inl ct), some (.inl k_), some (.inl (S_.2.2.1 22 (0 + bb_) (S_.2.2.1 89 0 k_.toNat).toNat)), none], [.inl (S_.2.2.1 22 (0 + bb_) (S_.2.2.1 89 0 k_.toNat).toNat), .inr (.inr (some (8, 0)))], S_)) rfl ?_
            refine sm_T_cal (d1 := 0) (Q1 := vq_159 (S_.2.2.1 22 (0 + bb_) (S_.2.2.1 89 0 k_.toNat).toNat) bb_ S_) rfl rfl (by decide) (vc_159 (S_.2.2.1 22 (0 + bb_) (S_.2.2.1 89 0 k_.toNat).toNat) bb_ S_ hI_ (by exact (hF_.2.1 8 0 0 rfl).trans hb_) (by omega)) (fun u_ Sx6_ px9_ => ?_)
            obtain ⟨rfl, hIx7_, hFx8_, px9_⟩ := px9_
            have hFx10_ : ai_fr (sx_W vw_165) S0_ Sx6_ := ai_fr_tr hF_ (fr_le hFx8_ rfl)
            obtain ⟨dx12_, px9_⟩ := px9_
            have hCx11_ : cdf bb_ S0_ Sx6_ := cdf_tr hC_ (cdf_cg (by omega) dx12_)
            have r9_ := px9_.1
            have o9_ := px9_.2
            have f2_ := hFx8_.1 8 0 2 rfl
            have f11_ := hFx8_.1 8 0 11 rfl
            have f89_ : Sx6_.2.2.1 89 0 = S_.2.2.1 89 0 := fr_arr hFx8_ rfl
            have f90_ : Sx6_.2.2.1 90 0 = S_.2.2.1 90 0 := fr_arr hFx8_ rfl
            refine sm_T_inc (a := 4) (z := 1) (v := k_) (w := k_ + 1) rfl rfl (by omega) (by omega) (by omega) ?_ -- pc_ 151
            refine sm_T_go 1 (c1 := (110, [some (.inr (.inr (some (8, 0)))), some (.inl a1_), some (.inl a2_), some (.inl ct), some (.inl (k_ + 1)), some (.inl (S_.2.2.1 22 (0 + bb_) (S_.2.2.1 89 0 k_.toNat).toNat)), none], [], Sx6_)) rfl ?_
            refine sm_T_wk [some (.inr (.inr (some (8, 0)))), some (.inl a1_), some (.inl a2_), some (.inl ct), some (.inl (k_ + 1)), none, none] (by exact ⟨rfl, rfl, rfl, rfl, rfl, trivial⟩) ?_
            refine ih_.2.1 ct (k_ + 1) Sx6_ hIx7_ hFx10_ ⟨?_, ?_, ?_, ?_, ?_, ?_, ?_, ?_, ?_, ?_, ?_, trivial⟩ ?_
            · omega
            · first | exact hl_ | (rw [f89_]; exact hl_)
            · first | exact hy_ | (rw [f89_]; exact hy_)
            · first | exact hn0_ | (exact fun p_ => (own_ls r9_ h2_.1 (by omega) p_).trans (hn0_ p_))
            · first | exact hst1_ | exact bst_ls hst1_ r9_
            · first | exact hop1_ | exact ropn_ls hop1_ r9_ (by omega) f2_ o9_
            · first | exact hro_ | exact rot_ls hro_ r9_
            · first | exact htr_ | exact ⟨f90_.trans htr_.1, f11_.trans htr_.2⟩
            · first | exact hz1_ | (rw [o9_, if_neg (by omega)]; exact hz1_)
            · first | exact hw_ | (rw [f89_]; exact hw_)
            · exact hCx11_
            · omega
    · rintro ct k_ S_ hI_ hF_ ⟨h0_, hl_, hy_, hn1_, hn2_, htt_, hst2_, hop1_, hro_, hz1_, hw_, hw1_, hC_, -⟩ hm_
      have e2_ : S_.1 8 0 2 = S0_.1 8 0 2 := hF_.1 8 0 2 rfl
      have e1_ : S_.1 8 0 1 = S0_.1 8 0 1 := hF_.1 8 0 1 rfl
      have e86_ : S_.2.2.1 86 0 = S0_.2.2.1 86 0 := fr_arr hF_ rfl
      have cL_ : 0 ≤ S_.1 8 0 2 ∧ S_.1 8 0 2 ≤ 2356 := hI_.1 8 0 2 rfl
      have ctz_ : 0 ≤ S_.1 8 0 11 ∧ S_.1 8 0 11 ≤ 4712 := hI_.1 8 0 11 rfl
      refine sm_T_go 3 (c1 := (164, [some (.inr (.inr (some (8, 0)))), some (.inl a1_), some (.inl a2_), some (.inl ct), some (.inl k_), none, none], [.inl 1, .inl ct, .inl k_], S_)) rfl ?_
      refine sm_T_bin (w := ct - 1) rfl (bi_sub (by omega) (by omega) (by omega)) ?_ -- pc_ 164
      refine sm_T_br (a := 3) (z := 71) rfl (fun cx1_ => ?_) (fun cx1_ => ?_)
      · have cx1_ : ct - 1 ≤ k_ := of_decide_eq_true cx1_
        refine sm_T_rv rfl ⟨_, _, rfl, rfl, hI_, hF_, ?_⟩
        refine ⟨hC_, ?_⟩
        refine ⟨htt_, fun p_ hp9_ hn9_ => ?_, hop1_, hro_, hz1_, hw1_ (by omega)⟩
        rcases hst2_ p_ hp9_ hn9_ with u9_ | u9_
        · exact u9_
        · rw [u9_, show k_.toNat = (ct - 1).toNat by omega, hn2_]; omega
      · have cx1_ : ¬ (ct - 1 ≤ k_) := of_decide_eq_false cx1_
        have w9_ := hy_ k_.toNat (by omega)
        have w8_ := hy_ (k_ + 1).toNat (by omega)
        have x9_ := hn1_ k_.toNat (by omega) (by omega)
        have tb9_ := trt_b htt_ (x_ := (S_.2.2.1 89 0 k_.toNat)) (by omega) x9_
        refine sm_T_go 1 (c1 := (169, [some (.inr (.inr (some (8, 0)))), some (.inl a1_), some (.inl a2_), some (.inl ct), some (.inl k_), none, none], [.inr (.inr (some (8, 0)))], S_)) rfl ?_
        refine sm_T_gr rfl rfl ((hF_.2.1 8 0 0 rfl).trans hb_) ?_
        refine sm_T_go 4 (c1 := (181, [some (.inr (.inr (some (8, 0)))), some (.inl a1_), some (.inl a2_), some (.inl ct), some (.inl k_), none, none], [.inl k_, .inr (.inr (some (89, 0))), .inr (.inr (some (22, (0 + bb_))))], S_)) rfl ?_
        refine sm_T_iald (n := 4712) rfl rfl (by omega) (by omega) ?_
        have bx2_ : 0 ≤ S_.2.2.1 89 0 k_.toNat ∧ S_.2.2.1 89 0 k_.toNat ≤ 4711 := hI_.2 89 0 _
        refine sm_T_go 1 (c1 := (183, [some (.inr (.inr (some (8, 0)))), some (.inl a1_), some (.inl a2_), some (.inl ct), some (.inl k_), none, none], [.inl a2_, .inl (S_.2.2.1 89 0 k_.toNat), .inr (.inr (some (22, (0 + bb_))))], S_)) rfl ?_
        refine sm_T_iast (n := 4712) rfl rfl (by omega) (by omega) ?_
        have hIx3_ : gi (sm_aI S_ 22 (0 + bb_) (S_.2.2.1 89 0 k_.toNat).toNat a2_) := gi_aI hI_ (show (-1) ≤ a2_ ∧ a2_ ≤ 161 from ⟨by omega, by omega⟩)
        have hFx4_ : ai_fr (sx_W vw_165) S0_ (sm_aI S_ 22 (0 + bb_) (S_.2.2.1 89 0 k_.toNat).toNat a2_) := ai_fr_tr hF_ (ai_fr_aI rfl)
        have hCx5_ : cdf bb_ S0_ (sm_aI S_ 22 (0 + bb_) (S_.2.2.1 89 0 k_.toNat).toNat a2_) := cdf_aI hC_ (Or.inr (by rw [show cof 22 = 0 from rfl] <;> omega))
        have bx6_ : 0 ≤ S_.1 8 0 11 ∧ S_.1 8 0 11 ≤ 4712 := hI_.1 8 0 11 rfl
        refine sm_T_go 7 (c1 := (198, [some (.inr (.inr (some (8, 0)))), some (.inl a1_), some (.inl a2_), some (.inl ct), some (.inl k_), none, none], [.inl k_, .inr (.inr (some (89, 0))), .inl (S_.1 8 0 11), .inr (.inr (some (90, 0)))], sm_aI S_ 22 (0 + bb_) (S_.2.2.1 89 0 k_.toNat).toNat a2_)) rfl ?_
        refine sm_T_iald (n := 4712) rfl rfl (by omega) (by omega) ?_
        refine sm_T_go 0 (c1 := (199, [some (.inr (.inr (some (8, 0)))), some (.inl a1_), some (.inl a2_), some (.inl ct), some (.inl k_), none, none], [.inl (S_.2.2.1 89 0 k_.toNat), .inl (S_.1 8 0 11), .inr (.inr (some (90, 0)))], sm_aI S_ 22 (0 + bb_) (S_.2.2.1 89 0 k_.toNat).toNat a2_)) rfl ?_
        refine sm_T_iast (n := 4712) rfl rfl (by omega) (by omega) ?_
        have hIx7_ : gi (sm_aI (sm_aI S_ 22 (0 + bb_) (S_.2.2.1 89 0 k_.toNat).toNat a2_) 90 0 (S_.1 8 0 11).toNat (S_.2.2.1 89 0 k_.toNat)) := gi_aI hIx3_ (show 0 ≤ (S_.2.2.1 89 0 k_.toNat) ∧ (S_.2.2.1 89 0 k_.toNat) ≤ 4711 from ⟨by omega, by omega⟩)
        have hFx8_ : ai_fr (sx_W vw_165) S0_ (sm_aI (sm_aI S_ 22 (0 + bb_) (S_.2.2.1 89 0 k_.toNat).toNat a2_) 90 0 (S_.1 8 0 11).toNat (S_.2.2.1 89 0 k_.toNat)) := ai_fr_tr hFx4_ (ai_fr_aI rfl)
        have hCx9_ : cdf bb_ S0_ (sm_aI (sm_aI S_ 22 (0 + bb_) (S_.2.2.1 89 0 k_.toNat).toNat a2_) 90 0 (S_.1 8 0 11).toNat (S_.2.2.1 89 0 k_.toNat)) := cdf_aI hCx5_ (Or.inl rfl)
        refine sm_T_go 4 (c1 := (206, [some (.inr (.inr (some (8, 0)))), some (.inl a1_), some (.inl a2_), some (.inl ct), some (.inl k_), none, none], [.inl 1, .inl (S_.1 8 0 11), .inr (.inr (some (8, 0)))], sm_aI (sm_aI S_ 22 (0 + bb_) (S_.2.2.1 89 0 k_.toNat).toNat a2_) 90 0 (S_.1 8 0 11).toNat (S_.2.2.1 89 0 k_.toNat))) rfl ?_
        refine sm_T_bin (w := (S_.1 8 0 11) + 1) rfl (bi_add (by omega) (by omega) (by omega)) ?_ -- pc_ 206
        have hIx10_ : gi (sm_pI (sm_aI (sm_aI S_ 22 (0 + bb_) (S_.2.2.1 89 0 k_.toNat).toNat a2_) 90 0 (S_.1 8 0 11).toNat (S_.2.2.1 89 0 k_.toNat)) 8 0 11 ((S_.1 8 0 11) + 1)) := gi_pI hIx7_ (show 0 ≤ (S_.1 8 0 11) + 1 ∧ (S_.1 8 0 11) + 1 ≤ 4712 from ⟨by omega, by omega⟩)
        have hFx11_ : ai_fr (sx_W vw_165) S0_ (sm_pI (sm_aI (sm_aI S_ 22 (0 + bb_) (S_.2.2.1 89 0 k_.toNat).toNat a2_) 90 0 (S_.1 8 0 11).toNat (S_.2.2.1 89 0 k_.toNat)) 8 0 11 ((S_.1 8 0 11) + 1)) := ai_fr_tr hFx8_ (ai_fr_pI rfl)
        have hCx12_ : cdf bb_ S0_ (sm_pI (sm_aI (sm_aI S_ 22 (0 + bb_) (S_.2.2.1 89 0 k_.toNat).toNat a2_) 90 0 (S_.1 8 0 11).toNat (S_.2.2.1 89 0 k_.toNat)) 8 0 11 ((S_.1 8 0 11) + 1)) := cdf_pI hCx9_ (Or.inl rfl)
        refine sm_T_go 5 (c1 := (217, [some (.inr (.inr (some (8, 0)))), some (.inl a1_), some (.inl a2_), some (.inl ct), some (.inl k_), none, none], [.inl k_, .inr (.inr (some (89, 0))), .inr (.inr (some (8, 0)))], sm_pI (sm_aI (sm_aI S_ 22 (0 + bb_) (S_.2.2.1 89 0 k_.toNat).toNat a2_) 90 0 (S_.1 8 0 11).toNat (S_.2.2.1 89 0 k_.toNat)) 8 0 11 ((S_.1 8 0 11) + 1))) rfl ?_
        refine sm_T_iald (n := 4712) rfl rfl (by omega) (by omega) ?_
        refine sm_T_go 4 (c1 := (225, [some (.inr (.inr (some (8, 0)))), some (.inl a1_), some (.inl a2_), some (.inl ct), some (.inl k_), none, none], [.inl 1, .inl k_, .inr (.inr (some (89, 0))), .inl (S_.2.2.1 89 0 k_.toNat), .inr (.inr (some (8, 0)))], sm_pI (sm_aI (sm_aI S_ 22 (0 + bb_) (S_.2.2.1 89 0 k_.toNat).toNat a2_) 90 0 (S_.1 8 0 11).toNat (S_.2.2.1 89 0 k_.toNat)) 8 0 11 ((S_.1 8 0 11) + 1))) rfl ?_
        refine sm_T_bin (w := k_ + 1) rfl (bi_add (by omega) (by omega) (by omega)) ?_ -- pc_ 225
        refine sm_T_iald (n := 4712) rfl rfl (by omega) (by omega) ?_
        have bx13_ : 0 ≤ S_.2.2.1 89 0 (k_ + 1).toNat ∧ S_.2.2.1 89 0 (k_ + 1).toNat ≤ 4711 := hI_.2 89 0 _
        refine sm_T_go 0 (c1 := (227, [some (.inr (.inr (some (8, 0)))), some (.inl a1_), some (.inl a2_), some (.inl ct), some (.inl k_), none, none], [.inl (S_.2.2.1 89 0 (k_ + 1).toNat), .inl (S_.2.2.1 89 0 k_.toNat), .inr (.inr (some (8, 0)))], sm_pI (sm_aI (sm_aI S_ 22 (0 + bb_) (S_.2.2.1 89 0 k_.toNat).toNat a2_) 90 0 (S_.1 8 0 11).toNat (S_.2.2.1 89 0 k_.toNat)) 8 0 11 ((S_.1 8 0 11) + 1))) rfl ?_
        refine sm_T_cal (d1 := 0) (Q1 := vq_167 (S_.2.2.1 89 0 k_.toNat) (S_.2.2.1 89 0 (k_ + 1).toNat) bb_ (sm_pI (sm_aI (sm_aI S_ 22 (0 + bb_) (S_.2.2.1 89 0 k_.toNat).toNat a2_) 90 0 (S_.1 8 0 11).toNat (S_.2.2.1 89 0 k_.toNat)) 8 0 11 ((S_.1 8 0 11) + 1))) rfl rfl (by decide) (vc_167 (S_.2.2.1 89 0 k_.toNat) (S_.2.2.1 89 0 (k_ + 1).toNat) bb_ (sm_pI (sm_aI (sm_aI S_ 22 (0 + bb_) (S_.2.2.1 89 0 k_.toNat).toNat a2_) 90 0 (S_.1 8 0 11).toNat (S_.2.2.1 89 0 k_.toNat)) 8 0 11 ((S_.1 8 0 11) + 1)) hIx10_ (by exact (hFx11_.2.1 8 0 0 rfl).trans hb_) (by omega) (by omega)) (fun u_ Sx14_ px17_ => ?_)
        obtain ⟨rfl, hIx15_, hFx16_, px17_⟩ := px17_
        have hFx18_ : ai_fr (sx_W vw_165) S0_ Sx14_ := ai_fr_tr hFx11_ (fr_le hFx16_ rfl)
        obtain ⟨dx20_, px17_⟩ := px17_
        have hCx19_ : cdf bb_ S0_ Sx14_ := cdf_tr hCx12_ (cdf_cg (by omega) dx20_)
        have j9_ := px17_
        have q22_ := fr_arr (t := 22) (i := 0 + bb_) hFx16_ rfl
        have q24_ := fr_arr (t := 24) (i := 0 + bb_) hFx16_ rfl
        have q89_ := fr_arr (t := 89) (i := 0) hFx16_ rfl
        have q90_ := fr_arr (t := 90) (i := 0) hFx16_ rfl
        have f2_ : Sx14_.1 8 0 2 = S_.1 8 0 2 := hFx16_.1 8 0 2 rfl
        have f11_ : Sx14_.1 8 0 11 = S_.1 8 0 11 + 1 := hFx16_.1 8 0 11 rfl
        have r22_ : ∀ j_, Sx14_.2.2.1 22 (0 + bb_) j_ = if j_ = (S_.2.2.1 89 0 k_.toNat).toNat then a2_ else S_.2.2.1 22 (0 + bb_) j_ := fun j_ => by rw [q22_, rd_fa, rd_ne (by decide), rd_eq]
        have r90_ : ∀ i_, Sx14_.2.2.1 90 0 i_ = if i_ = (S_.1 8 0 11).toNat then (S_.2.2.1 89 0 k_.toNat) else S_.2.2.1 90 0 i_ := fun i_ => by rw [q90_, rd_fa, rd_eq, rd_ne (by decide)]
        have r89_ : Sx14_.2.2.1 89 0 = S_.2.2.1 89 0 := by (rw [q89_, rd_fa, rd_ne_ (by decide), rd_ne_ (by decide)])
        have r24_ : Sx14_.2.2.1 24 (0 + bb_) = S_.2.2.1 24 (0 + bb_) := by (rw [q24_, rd_fa, rd_ne_ (by decide), rd_ne_ (by decide)])
        have r23_ : ∃ s9_, ∀ j_, Sx14_.2.2.1 23 (0 + bb_) j_ = if j_ = (sm_mn (S_.2.2.1 89 0 k_.toNat) (S_.2.2.1 89 0 (k_ + 1).toNat)).toNat then s9_ else S_.2.2.1 23 (0 + bb_) j_ := by (obtain ⟨s9_, q9_⟩ := j9_; exact ⟨s9_, fun j_ => by rw [q9_ j_, rd_fa, rd_ne (by decide), rd_ne (by decide)]⟩)
        refine sm_T_inc (a := 4) (z := 1) (v := k_) (w := k_ + 1) rfl rfl (by omega) (by omega) (by omega) ?_ -- pc_ 230
        refine sm_T_go 1 (c1 := (160, [some (.inr (.inr (some (8, 0)))), some (.inl a1_), some (.inl a2_), some (.inl ct), some (.inl (k_ + 1)), none, none], [], Sx14_)) rfl ?_
        refine ih_.2.2 ct (k_ + 1) Sx14_ hIx15_ hFx18_ ⟨?_, ?_, ?_, ?_, ?_, ?_, ?_, ?_, ?_, ?_, ?_, ?_, ?_, trivial⟩ ?_
        · omega
        · (rw [r89_]; exact hl_)
        · (rw [r89_]; exact hy_)
        · intro j_ u_ w_
          rw [r89_, r22_, if_neg (rwy_i hy_ (show k_.toNat < j_ by omega) (by omega)).2]
          exact hn1_ j_ (by omega) w_
        · rw [r89_, r22_]
          split
          · rfl
          · exact hn2_
        · exact trt_add htt_ (by omega) x9_ ctz_.1 r22_ r90_ f11_ f2_
        · intro p_ u_ w_
          obtain ⟨s9_, r23_⟩ := r23_
          rw [r23_] at w_
          rw [r22_, r89_]
          by_cases y_ : p_ = (S_.2.2.1 89 0 k_.toNat).toNat
          · left; rw [if_pos y_]; omega
          · rw [if_neg y_]
            by_cases z_ : p_ = (sm_mn (S_.2.2.1 89 0 k_.toNat) (S_.2.2.1 89 0 (k_ + 1).toNat)).toNat
            · right
              have mn := sm_mn_d (S_.2.2.1 89 0 k_.toNat) (S_.2.2.1 89 0 (k_ + 1).toNat)
              rcases mn.2.2 with v_ | v_
              · rw [v_] at z_; exact absurd z_ y_
              · rw [v_] at z_; exact z_
            · rw [if_neg z_] at w_
              rcases hst2_ p_ u_ w_ with v_ | v_
              · left; exact v_
              · exact absurd v_ y_
        · intro c_ u_ w_ p_ v_
          rw [r24_] at w_
          rw [f2_] at v_
          rw [r22_]
          split
          · intro y_
            rw [show c_ = a2_.toNat by omega] at w_
            exact w_ hz1_
          · exact hop1_ c_ u_ w_ p_ v_
        · intro p_
          rw [r22_]
          split
          · right; right; rfl
          · exact hro_ p_
        · (rw [r24_]; exact hz1_)
        · (rw [r89_]; exact hw_)
        · intro u_
          rw [r22_]
          split
          · rfl
          · by_cases y_ : k_ = 0
            · exfalso; rename_i z9_; apply z9_; rw [y_, show (0 : Int).toNat = 0 from rfl, hw_]
            · exact hw1_ (by omega)
        · exact hCx19_
        · omega
set_option maxHeartbeats 3000000 in
set_option maxRecDepth 20000 in
theorem vc_165 {sc_ : Nat × (Nat → Int)} (a1_ : Int) (a2_ : Int) (bb_ : Nat) (S0_ : sm_S) (hI_ : gi S0_) (hb_ : S0_.2.1 8 0 0 = some bb_) (hg_ : rgw S0_) (h1_ : 0 ≤ a1_ ∧ a1_ < 2 * S0_.1 8 0 2) (h2_ : 0 ≤ a2_ ∧ a2_ ≤ 161) (hr_ : rsp bb_ a2_ S0_) (ht_ : trt bb_ a2_ S0_) (hf_ : 0 < S0_.2.2.1 86 0 a1_.toNat) (hst_ : bst bb_ S0_) (hop_ : ropn bb_ S0_) (hz_ : S0_.2.2.1 24 (0 + bb_) a2_.toNat = 0) : sm_T (mt_P sc_) 2 165 (0, [some (.inr (.inr (some (8, 0)))), some (.inl a1_), some (.inl a2_), none, none, none, none], [], S0_) (fun ro9_ => ∃ u_ S1_, ro9_ = (.inl u_, S1_, 0) ∧ vq_165 a1_ a2_ bb_ S0_ u_ S1_) := by
  have hF_ : ai_fr (sx_W vw_165) S0_ S0_ := ai_fr_rf
  have hC_ : cdf bb_ S0_ S0_ := cdf_rf
  have cL_ : 0 ≤ S0_.1 8 0 2 ∧ S0_.1 8 0 2 ≤ 2356 := hI_.1 8 0 2 rfl
  refine sm_T_go 4 (c1 := (6, [some (.inr (.inr (some (8, 0)))), some (.inl a1_), some (.inl a2_), none, none, none, none], [.inl a1_, .inl 0, .inr (.inr (some (89, 0)))], S0_)) rfl ?_
  refine sm_T_iast (n := 4712) rfl rfl (by omega) (by omega) ?_
  have hIx1_ : gi (sm_aI S0_ 89 0 (0 : Int).toNat a1_) := gi_aI hI_ (show 0 ≤ a1_ ∧ a1_ ≤ 4711 from ⟨by omega, by omega⟩)
  have hFx2_ : ai_fr (sx_W vw_165) S0_ (sm_aI S0_ 89 0 (0 : Int).toNat a1_) := ai_fr_tr hF_ (ai_fr_aI rfl)
  have hCx3_ : cdf bb_ S0_ (sm_aI S0_ 89 0 (0 : Int).toNat a1_) := cdf_aI hC_ (Or.inl rfl)
  refine sm_T_go 4 (c1 := (12, [some (.inr (.inr (some (8, 0)))), some (.inl a1_), some (.inl a2_), some (.inl 1), some (.inl 0), none, none], [], sm_aI S0_ 89 0 (0 : Int).toNat a1_)) rfl ?_
  refine (vl_165 a1_ a2_ bb_ S0_ hb_ hg_ h1_ h2_ hr_ ht_ hf_ hst_ hop_ hz_ _).1 1 0 (sm_aI S0_ 89 0 (0 : Int).toNat a1_) hIx1_ hFx2_ ⟨?_, ?_, ?_, ?_, ?_, ?_, trivial⟩ (Nat.lt_succ_self _)
  · omega
  · exact ⟨rd_ne_ (by decide), rd_ne_ (by decide), rd_ne_ (by decide), rd_ne_ (by decide), rfl⟩
  · intro i_ hi_
    have z_ : i_ = 0 := by omega
    rw [z_, rd_eq, if_pos (by decide)]
    exact ⟨h1_, by omega, fun u_ => by omega⟩
  · have z_ := cnd_lt (f := (S0_.2.2.1 86 0)) (d := (S0_.2.2.1 86 0) a1_.toNat) (e := (S0_.2.2.1 86 0) a1_.toNat + 1) (j := a1_.toNat) (by omega) (by omega) (by omega) (by omega) (n := (2 * S0_.1 8 0 2).toNat) (by omega)
    have y_ := cnd_le (S0_.2.2.1 86 0) ((S0_.2.2.1 86 0) a1_.toNat + 1) (2 * S0_.1 8 0 2).toNat
    rw [rd_eq, if_pos (by decide)]
    omega
  · (rw [rd_eq, if_pos (by decide)])
  · exact hCx3_
