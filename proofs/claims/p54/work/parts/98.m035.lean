/-! 99.ztZT -/
section
/-! ways of a literal: the class; written by wip/p55/gen/vg -/

/-! the_ ways of_ a_ literal, the_ class -/
def wrc (ll_ : Nat) (S_ : sm_S) (l_ : Nat) (b_ : Int × Int × Int × (Nat → Int)) : Prop := S_.2.2.1 61 0 l_ = b_.1 ∧ ((b_.1 = 268435456 ∧ S_.2.2.1 62 0 l_ = -1) ∨ (b_.1 < 268435456 ∧ S_.2.2.1 62 0 l_ = b_.2.1 ∧ S_.2.2.1 63 0 l_ = b_.2.2.1 ∧ ∀ k_ : Nat, (k_ : Int) < S_.2.2.1 55 (0 + ll_) b_.2.1.toNat → S_.2.2.1 64 0 (3 * l_ + k_) = b_.2.2.2 k_))
def pcc (F_ : Int) (ll_ : Nat) (S_ : sm_S) (x_ t_ : Int) : Int := if F_ ≤ x_ ∧ S_.2.2.1 60 0 x_.toNat = 0 then S_.2.2.1 61 0 (2 * x_ + t_).toNat else if t_ = 0 then 0 else if S_.1 5 ll_ 2 = -1 then 268435456 else S_.2.2.1 57 (0 + ll_) (S_.1 5 ll_ 2).toNat
def adc (a_ b_ : Int) : Int := if a_ + b_ ≤ 268435456 then a_ + b_ else 268435456
theorem tn_k {v_ k_ : Int} (hv_ : 0 ≤ v_ ∧ v_ < 48) (hk_ : 0 ≤ k_ ∧ k_ ≤ 2) : i_shr v_ k_ % 2 = ((v_.toNat / 2 ^ k_.toNat % 2 : Nat) : Int) := by
  have c_ : k_ = 0 ∨ k_ = 1 ∨ k_ = 2 := by omega
  rw [i_shrv hk_.1 (by omega) (by omega)]
  rcases c_ with c_ | c_ | c_
  · rw [c_]
    show v_ / 1 % 2 = ((v_.toNat / 1 % 2 : Nat) : Int)
    omega
  · rw [c_]
    show v_ / 2 % 2 = ((v_.toNat / 2 % 2 : Nat) : Int)
    omega
  · rw [c_]
    show v_ / 4 % 2 = ((v_.toNat / 4 % 2 : Nat) : Int)
    omega
theorem cdn_e {c_ : List Nat} {V_ : Nat → Int} {ip_ a3_ v_ k_ p_ : Int} (hcv_ : ∀ j_ : Nat, j_ < 3 → V_ (3 * a3_.toNat + j_) = cva c_ j_) (h3_ : 0 ≤ a3_) (hv_ : (ip_ = 2 ∧ 0 ≤ v_ ∧ v_ < 8) ∨ (ip_ = 3 ∧ 0 ≤ v_ ∧ v_ < 48)) (hk_ : 0 ≤ k_ ∧ k_ < ip_) (hp_ : p_ = plo ip_ (i_shr v_ ip_) k_) (hpb_ : 0 ≤ p_ ∧ p_ ≤ 2) : cdn c_ ip_.toNat (v_.toNat / 2 ^ ip_.toNat) k_.toNat = V_ (3 * a3_ + p_).toNat := by
  have hip_ : ip_ = 2 ∨ ip_ = 3 := by omega
  have s_ := (vsp (v_ := v_) (e_ := ip_) (by omega) hip_).1
  have o_ : (ip_ = 2 ∧ 0 ≤ i_shr v_ ip_ ∧ i_shr v_ ip_ ≤ 1 ∧ 0 ≤ k_ ∧ k_ ≤ 1) ∨ (ip_ = 3 ∧ 0 ≤ i_shr v_ ip_ ∧ i_shr v_ ip_ ≤ 5 ∧ 0 ≤ k_ ∧ k_ ≤ 2) := by
    have := vor (v_ := v_) (e_ := ip_) (by omega) hip_
    omega
  unfold cdn
  rw [← s_, show ((ip_.toNat : Nat) : Int) = ip_ by omega, show ((k_.toNat : Nat) : Int) = k_ by omega, ← plo_i o_, ← hp_, ← hcv_ p_.toNat (by omega), show 3 * a3_.toNat + p_.toNat = (3 * a3_ + p_).toNat by omega]
theorem cco_s {ad_ pc_ : Int → Int → Int} {a_ : Int} {c_ : List Nat} {ip_ v_ k_ : Nat} : cco ad_ pc_ a_ c_ ip_ v_ (k_ + 1) = ad_ (cco ad_ pc_ a_ c_ ip_ v_ k_) (pc_ (cdn c_ ip_ (v_ / 2 ^ ip_) k_) ((v_ / 2 ^ k_ % 2 : Nat) : Int)) := rfl
theorem cco_cg {ad_ pc_ pd_ : Int → Int → Int} {a_ : Int} {c_ : List Nat} {ip_ v_ : Nat} : ∀ m_ : Nat, (∀ k_, k_ < m_ → pc_ (cdn c_ ip_ (v_ / 2 ^ ip_) k_) ((v_ / 2 ^ k_ % 2 : Nat) : Int) = pd_ (cdn c_ ip_ (v_ / 2 ^ ip_) k_) ((v_ / 2 ^ k_ % 2 : Nat) : Int)) → cco ad_ pc_ a_ c_ ip_ v_ m_ = cco ad_ pd_ a_ c_ ip_ v_ m_
  | 0, _ => rfl
  | m_ + 1, h_ => by
    rw [cco_s, cco_s, cco_cg m_ (fun k_ hk_ => h_ k_ (by omega)), h_ m_ (Nat.lt_succ_self m_)]
/-- another literal's way_ -/
theorem wrc_o {ll_ l_ : Nat} {S_ S'_ : sm_S} {b_ : Int × Int × Int × (Nat → Int)} (h_ : wrc ll_ S_ l_ b_) (e1_ : S'_.2.2.1 61 0 l_ = S_.2.2.1 61 0 l_) (e2_ : S'_.2.2.1 62 0 l_ = S_.2.2.1 62 0 l_) (e3_ : S'_.2.2.1 63 0 l_ = S_.2.2.1 63 0 l_) (e4_ : ∀ k_, k_ < 3 → S'_.2.2.1 64 0 (3 * l_ + k_) = S_.2.2.1 64 0 (3 * l_ + k_)) (e5_ : S'_.2.2.1 55 (0 + ll_) = S_.2.2.1 55 (0 + ll_)) (c55_ : ∀ k_, S_.2.2.1 55 (0 + ll_) k_ ≤ 3) : wrc ll_ S'_ l_ b_ := by
  unfold wrc at *
  rw [e1_, e2_, e3_, e5_]
  refine ⟨h_.1, ?_⟩
  rcases h_.2 with g_ | g_
  · exact Or.inl g_
  · refine Or.inr ⟨g_.1, g_.2.1, g_.2.2.1, fun k_ hk_ => ?_⟩
    have q_ := c55_ b_.2.1.toNat
    rw [e4_ k_ (by omega)]
    exact g_.2.2.2 k_ hk_
theorem wrc_f {ll_ l_ m_ : Nat} {S_ S'_ : sm_S} {b_ : Int × Int × Int × (Nat → Int)} (h_ : wrc ll_ S_ l_ b_) (g_ : wfl m_ S_ S'_) (ne : l_ ≠ m_) (e5_ : S'_.2.2.1 55 (0 + ll_) = S_.2.2.1 55 (0 + ll_)) (c55_ : ∀ k_, S_.2.2.1 55 (0 + ll_) k_ ≤ 3) : wrc ll_ S'_ l_ b_ := wrc_o h_ (g_.1 l_ ne).1 (g_.1 l_ ne).2.1 (g_.1 l_ ne).2.2 (fun k_ hk_ => g_.2 _ (by omega)) e5_ c55_
theorem wrc_fr {w_ : sx_Wl} {ll_ l_ : Nat} {S_ S'_ : sm_S} {b_ : Int × Int × Int × (Nat → Int)} (h_ : wrc ll_ S_ l_ b_) (g_ : ai_fr (sx_W w_) S_ S'_) (a1_ : (sx_W w_).2.1 61 = false := by rfl) (a2_ : (sx_W w_).2.1 62 = false := by rfl) (a3_ : (sx_W w_).2.1 63 = false := by rfl) (a4_ : (sx_W w_).2.1 64 = false := by rfl) (a5_ : (sx_W w_).2.1 55 = false := by rfl) : wrc ll_ S'_ l_ b_ := by
  unfold wrc at *
  rw [fr_arr (t := 61) g_ a1_, fr_arr (t := 62) g_ a2_, fr_arr (t := 63) g_ a3_, fr_arr (t := 64) g_ a4_, fr_arr (t := 55) g_ a5_]
  exact h_
theorem pcc_cg {F_ : Int} {ll_ : Nat} {S_ S'_ : sm_S} {n_ x_ t_ : Int} (hx_ : 0 ≤ x_ ∧ x_ < n_) (ht_ : 0 ≤ t_ ∧ t_ ≤ 1) (e0_ : S'_.2.2.1 60 0 = S_.2.2.1 60 0) (e1_ : ∀ j_ : Nat, (j_ : Int) < 2 * n_ → S'_.2.2.1 61 0 j_ = S_.2.2.1 61 0 j_) (e2_ : S'_.1 5 ll_ 2 = S_.1 5 ll_ 2) (e3_ : S'_.2.2.1 57 (0 + ll_) = S_.2.2.1 57 (0 + ll_)) : pcc F_ ll_ S'_ x_ t_ = pcc F_ ll_ S_ x_ t_ := by
  unfold pcc
  rw [e0_, e1_ _ (by omega), e2_, e3_]
theorem wvs_h {ad_ pc_ : Int → Int → Int} {hit_ : Nat → Bool} {a_ : Int} {cell : Nat} {c_ : List Nat} {ip_ v_ : Nat} {b_ : Int × Int × Int × (Nat → Int)} (h_ : hit_ v_ = true) : wvs ad_ pc_ hit_ a_ cell c_ ip_ v_ b_ = wst b_ (cco ad_ pc_ a_ c_ ip_ v_ ip_) ((cell : Int), ((v_ % 2 ^ ip_ : Nat) : Int), cdn c_ ip_ (v_ / 2 ^ ip_)) := if_pos h_
theorem wvs_n {ad_ pc_ : Int → Int → Int} {hit_ : Nat → Bool} {a_ : Int} {cell : Nat} {c_ : List Nat} {ip_ v_ : Nat} {b_ : Int × Int × Int × (Nat → Int)} (h_ : ¬ hit_ v_ = true) : wvs ad_ pc_ hit_ a_ cell c_ ip_ v_ b_ = b_ := if_neg h_
theorem cfo_s {f_ : Nat → Int × Int × Int × (Nat → Int) → Int × Int × Int × (Nat → Int)} {i_ : Nat} {b_ : Int × Int × Int × (Nat → Int)} : cfo f_ (i_ + 1) b_ = f_ i_ (cfo f_ i_ b_) := rfl

/-! Mapper.offer -/
def vw_108n : sx_Wl := ([], [61, 62, 63, 64], [])
def vq_108n (a1_ : Int) (a2_ : Int) (a3_ : Int) (a4_ : Int) (dd_ : Nat) (ll_ : Nat) (n9_ : Int) (c_ : List Nat) (b_ : Int × Int × Int × (Nat → Int)) (S0_ : sm_S) (u_ : Option sm_V) (S1_ : sm_S) : Prop := u_ = none ∧ gi S1_ ∧ ai_fr (sx_W vw_108n) S0_ S1_ ∧ ((wo3 (1 + S0_.1 3 dd_ 1 + S0_.1 3 dd_ 2) n9_ ll_ S1_ a1_.toNat ∧ wfl a1_.toNat S0_ S1_) ∧ wrc ll_ S1_ a1_.toNat (wst b_ (cco adc (pcc (1 + S0_.1 3 dd_ 1 + S0_.1 3 dd_ 2) ll_ S0_) (S0_.2.2.1 57 (0 + ll_) a2_.toNat) c_ (S0_.2.2.1 55 (0 + ll_) a2_.toNat).toNat a4_.toNat (S0_.2.2.1 55 (0 + ll_) a2_.toNat).toNat) (a2_, ((a4_.toNat % 2 ^ (S0_.2.2.1 55 (0 + ll_) a2_.toNat).toNat : Nat) : Int), cdn c_ (S0_.2.2.1 55 (0 + ll_) a2_.toNat).toNat (a4_.toNat / 2 ^ (S0_.2.2.1 55 (0 + ll_) a2_.toNat).toNat))))
set_option maxHeartbeats 3000000 in
set_option maxRecDepth 20000 in
theorem vl_108n {sc_ : Nat × (Nat → Int)} (a1_ : Int) (a2_ : Int) (a3_ : Int) (a4_ : Int) (dd_ : Nat) (ll_ : Nat) (n9_ : Int) (c_ : List Nat) (b_ : Int × Int × Int × (Nat → Int)) (S0_ : sm_S) (hcv_ : ∀ j_ : Nat, j_ < 3 → S0_.2.2.1 65 0 (3 * a3_.toNat + j_) = cva c_ j_) (hb_ : wrc ll_ S0_ a1_.toNat b_) (hd_ : S0_.2.1 6 0 0 = some dd_) (hc_ : S0_.2.1 6 0 1 = some ll_) (h1_ : (a1_ = 2 * n9_ ∨ a1_ = 2 * n9_ + 1) ∧ 1 ≤ n9_ ∧ n9_ ≤ 1012) (h2_ : 0 ≤ a2_ ∧ a2_ ≤ 11) (h3_ : 0 ≤ a3_ ∧ a3_ < S0_.1 6 0 11) (his_ : ((S0_.2.2.1 55 (0 + ll_) a2_.toNat) = 2 ∧ 0 ≤ a4_ ∧ a4_ < 8) ∨ ((S0_.2.2.1 55 (0 + ll_) a2_.toNat) = 3 ∧ 0 ≤ a4_ ∧ a4_ < 48 ∧ S0_.2.2.1 65 0 (3 * a3_ + 2).toNat ≠ -1)) (hcs_ : mcs (npd n9_ (S0_.2.2.1 59 0)) S0_) (hw_ : wo3 (1 + S0_.1 3 dd_ 1 + S0_.1 3 dd_ 2) n9_ ll_ S0_ a1_.toNat) : ∀ nn_ : Nat, (∀ (is_ : Int) (co_ : Int) (k_ : Int) (S_ : sm_S), gi S_ → ai_fr (sx_W vw_108n) S0_ S_ → ((is_ = (S0_.2.2.1 55 (0 + ll_) a2_.toNat) ∧ 0 ≤ co_ ∧ co_ ≤ 268435456 ∧ 0 ≤ k_ ∧ k_ ≤ is_) ∧ (S_ = S0_) ∧ (co_ < 268435456 → ∀ j_ : Nat, (j_ : Int) < k_ → wpt (1 + S0_.1 3 dd_ 1 + S0_.1 3 dd_ 2) n9_ (S0_.1 5 ll_ 2) (S0_.2.2.1 59 0) (S0_.2.2.1 60 0) (S0_.2.2.1 61 0) (S0_.2.2.1 65 0 (3 * a3_ + plo (S0_.2.2.1 55 (0 + ll_) a2_.toNat) (i_shr a4_ (S0_.2.2.1 55 (0 + ll_) a2_.toNat)) (j_ : Int)).toNat) (i_shr a4_ (j_ : Int) % 2)) ∧ (co_ = cco adc (pcc (1 + S0_.1 3 dd_ 1 + S0_.1 3 dd_ 2) ll_ S0_) (S0_.2.2.1 57 (0 + ll_) a2_.toNat) c_ (S0_.2.2.1 55 (0 + ll_) a2_.toNat).toNat a4_.toNat k_.toNat) ∧ True) → ((1000 - k_).toNat) < nn_ → sm_T (mt_P sc_) 2 108 (25, [some (.inr (.inr (some (6, 0)))), some (.inl a1_), some (.inl a2_), some (.inl a3_), some (.inl a4_), some (.inl is_), some (.inl co_), some (.inl k_), none, none], [], S_) (fun ro9_ => ∃ u_ S1_, ro9_ = (.inl u_, S1_, 0) ∧ vq_108n a1_ a2_ a3_ a4_ dd_ ll_ n9_ c_ b_ S0_ u_ S1_)) ∧ (∀ (is_ : Int) (co_ : Int) (k_ : Int) (S_ : sm_S), gi S_ → ai_fr (sx_W vw_108n) S0_ S_ → ((is_ = (S0_.2.2.1 55 (0 + ll_) a2_.toNat) ∧ 0 ≤ k_ ∧ k_ ≤ is_ ∧ 0 ≤ co_ ∧ co_ < 268435456) ∧ (∀ j_ : Nat, (j_ : Int) < is_ → wpt (1 + S0_.1 3 dd_ 1 + S0_.1 3 dd_ 2) n9_ (S0_.1 5 ll_ 2) (S0_.2.2.1 59 0) (S0_.2.2.1 60 0) (S0_.2.2.1 61 0) (S0_.2.2.1 65 0 (3 * a3_ + plo (S0_.2.2.1 55 (0 + ll_) a2_.toNat) (i_shr a4_ (S0_.2.2.1 55 (0 + ll_) a2_.toNat)) (j_ : Int)).toNat) (i_shr a4_ (j_ : Int) % 2)) ∧ (co_ = cco adc (pcc (1 + S0_.1 3 dd_ 1 + S0_.1 3 dd_ 2) ll_ S0_) (S0_.2.2.1 57 (0 + ll_) a2_.toNat) c_ (S0_.2.2.1 55 (0 + ll_) a2_.toNat).toNat a4_.toNat (S0_.2.2.1 55 (0 + ll_) a2_.toNat).toNat ∧ co_ < b_.1) ∧ (S_.2.2.1 61 0 a1_.toNat = co_ ∧ S_.2.2.1 62 0 a1_.toNat = a2_ ∧ S_.2.2.1 63 0 a1_.toNat = i_and a4_ (i_shl 1 is_ - 1)) ∧ (wfl a1_.toNat S0_ S_) ∧ (∀ j_ : Nat, (j_ : Int) < k_ → S_.2.2.1 64 0 (3 * a1_.toNat + j_) = (S0_.2.2.1 65 0 (3 * a3_ + plo (S0_.2.2.1 55 (0 + ll_) a2_.toNat) (i_shr a4_ (S0_.2.2.1 55 (0 + ll_) a2_.toNat)) (j_ : Int)).toNat)) ∧ True) → ((100 - k_).toNat) < nn_ → sm_T (mt_P sc_) 2 108 (193, [some (.inr (.inr (some (6, 0)))), some (.inl a1_), some (.inl a2_), some (.inl a3_), some (.inl a4_), some (.inl is_), some (.inl co_), some (.inl k_), none, none], [], S_) (fun ro9_ => ∃ u_ S1_, ro9_ = (.inl u_, S1_, 0) ∧ vq_108n a1_ a2_ a3_ a4_ dd_ ll_ n9_ c_ b_ S0_ u_ S1_)) := by
  intro nn_
  induction nn_ with
  | zero => exact ⟨fun _ _ _ _ _ _ _ h_ => absurd h_ (Nat.not_lt_zero _), fun _ _ _ _ _ _ _ h_ => absurd h_ (Nat.not_lt_zero _)⟩
  | succ nn_ ih_ =>
    refine ⟨?_, ?_⟩
    · rintro is_ co_ k_ S_ hI_ hF_ ⟨h0_, hS_, hp_, hco_, -⟩ hm_
      have f55_ : S_.2.2.1 55 (0 + ll_) = S0_.2.2.1 55 (0 + ll_) := fr_arr hF_ rfl
      have f65_ : S_.2.2.1 65 0 = S0_.2.2.1 65 0 := fr_arr hF_ rfl
      have f60_ : S_.2.2.1 60 0 = S0_.2.2.1 60 0 := fr_arr hF_ rfl
      have f1_ : S_.1 3 dd_ 1 = S0_.1 3 dd_ 1 := hF_.1 3 dd_ 1 rfl
      have f2_ : S_.1 3 dd_ 2 = S0_.1 3 dd_ 2 := hF_.1 3 dd_ 2 rfl
      have f5_ : S_.1 5 ll_ 2 = S0_.1 5 ll_ 2 := hF_.1 5 ll_ 2 rfl
      have ck_ : 0 ≤ S_.1 6 0 11 ∧ S_.1 6 0 11 ≤ 1024 := hI_.1 6 0 11 rfl
      have ek_ : S_.1 6 0 11 = S0_.1 6 0 11 := by rw [hS_]
      refine sm_T_go 2 (c1 := (29, [some (.inr (.inr (some (6, 0)))), some (.inl a1_), some (.inl a2_), some (.inl a3_), some (.inl a4_), some (.inl is_), some (.inl co_), some (.inl k_), none, none], [.inl is_, .inl k_], S_)) rfl ?_
      refine sm_T_br (a := 3) (z := 120) rfl (fun cx1_ => ?_) (fun cx1_ => ?_)
      · have cx1_ : is_ ≤ k_ := of_decide_eq_true cx1_
        refine sm_T_go 4 (c1 := (156, [some (.inr (.inr (some (6, 0)))), some (.inl a1_), some (.inl a2_), some (.inl a3_), some (.inl a4_), some (.inl is_), some (.inl co_), some (.inl k_), none, none], [.inl a1_, .inr (.inr (some (61, 0))), .inl co_], S_)) rfl ?_
        refine sm_T_iald (n := 2026) rfl rfl (by omega) (by omega) ?_
        have bx2_ : 0 ≤ S_.2.2.1 61 0 a1_.toNat ∧ S_.2.2.1 61 0 a1_.toNat ≤ 268435456 := hI_.2 61 0 _
        refine sm_T_br (a := 3) (z := 81) rfl (fun cx3_ => ?_) (fun cx3_ => ?_)
        · have cx3_ : (S_.2.2.1 61 0 a1_.toNat) ≤ co_ := of_decide_eq_true cx3_
          refine sm_T_rv rfl ⟨_, _, rfl, rfl, hI_, hF_, ?_⟩
          refine ⟨?_, ?_⟩
          · first | exact ⟨by (rw [hS_]; exact hw_), by (rw [hS_]; exact wfl_rf)⟩ | (refine ⟨Or.inr ⟨by rw [hv_.2.1]; exact h2_.1, by rw [hv_.1]; exact h0_.2.2.2.2, fun j_ hj_ => ?_⟩, hf_⟩; rw [hv_.2.1, f55_, ← h0_.1] at hj_; rw [f5_, fr_arr (t := 59) (i := 0) hF_ rfl, f60_, hn_ j_ (by omega), hv_.2.2, tbit (by omega) (by omega) (by omega)]; exact wpt_cg (hp_ j_ hj_) (by omega) (fun q9_ w9_ => (hf_.1 q9_ (by omega)).1))
          · first | (have y8_ := hS_; rw [show k_.toNat = (S0_.2.2.1 55 (0 + ll_) a2_.toNat).toNat by omega] at hco_; rw [← hco_]; unfold wst; rw [if_neg (by (rw [← hb_.1, ← hS_]; omega)), hS_]; exact hb_) | (have y8_ := hv_; rw [← hco_.1]; unfold wst; rw [if_pos hco_.2]; refine ⟨hv_.1, Or.inr ⟨h0_.2.2.2.2, hv_.2.1, ?_, fun j_ hj_ => ?_⟩⟩; (rw [hv_.2.2, h0_.1]; exact (vsp (by omega) (by omega)).2); (have hj_ : (j_ : Int) < S_.2.2.1 55 (0 + ll_) a2_.toNat := hj_; rw [f55_, ← h0_.1] at hj_; rw [hn_ j_ (by omega)]; have z9_ := cdn_e (k_ := (j_ : Int)) (p_ := plo (S0_.2.2.1 55 (0 + ll_) a2_.toNat) (i_shr a4_ (S0_.2.2.1 55 (0 + ll_) a2_.toNat)) (j_ : Int)) hcv_ h3_.1 (by omega) (by omega) rfl (by (have y9_ := vor (v_ := a4_) (e_ := (S0_.2.2.1 55 (0 + ll_) a2_.toNat)) (by omega) (by omega); have w9_ := plo_i (ip_ := (S0_.2.2.1 55 (0 + ll_) a2_.toNat)) (o_ := i_shr a4_ (S0_.2.2.1 55 (0 + ll_) a2_.toNat)) (k_ := (j_ : Int)) (by omega); have u9_ := iat_b (sz_ := (S0_.2.2.1 55 (0 + ll_) a2_.toNat)) (o_ := i_shr a4_ (S0_.2.2.1 55 (0 + ll_) a2_.toNat)) (k_ := (j_ : Int)) (by omega) (by omega) (by omega); rw [w9_]; omega)); rw [Int.toNat_natCast] at z9_; exact z9_.symm))
        · have cx3_ : ¬ ((S_.2.2.1 61 0 a1_.toNat) ≤ co_) := of_decide_eq_false cx3_
          refine sm_T_go 4 (c1 := (167, [some (.inr (.inr (some (6, 0)))), some (.inl a1_), some (.inl a2_), some (.inl a3_), some (.inl a4_), some (.inl is_), some (.inl co_), some (.inl k_), none, none], [.inl co_, .inl a1_, .inr (.inr (some (61, 0)))], S_)) rfl ?_
          refine sm_T_iast (n := 2026) rfl rfl (by omega) (by omega) ?_
          have hIx4_ : gi (sm_aI S_ 61 0 a1_.toNat co_) := gi_aI hI_ (show 0 ≤ co_ ∧ co_ ≤ 268435456 from ⟨by omega, by omega⟩)
          have hFx5_ : ai_fr (sx_W vw_108n) S0_ (sm_aI S_ 61 0 a1_.toNat co_) := ai_fr_tr hF_ (ai_fr_aI rfl)
          refine sm_T_go 4 (c1 := (174, [some (.inr (.inr (some (6, 0)))), some (.inl a1_), some (.inl a2_), some (.inl a3_), some (.inl a4_), some (.inl is_), some (.inl co_), some (.inl k_), none, none], [.inl a2_, .inl a1_, .inr (.inr (some (62, 0)))], sm_aI S_ 61 0 a1_.toNat co_)) rfl ?_
          refine sm_T_iast (n := 2026) rfl rfl (by omega) (by omega) ?_
          have hIx6_ : gi (sm_aI (sm_aI S_ 61 0 a1_.toNat co_) 62 0 a1_.toNat a2_) := gi_aI hIx4_ (show (-2) ≤ a2_ ∧ a2_ ≤ 11 from ⟨by omega, by omega⟩)
          have hFx7_ : ai_fr (sx_W vw_108n) S0_ (sm_aI (sm_aI S_ 61 0 a1_.toNat co_) 62 0 a1_.toNat a2_) := ai_fr_tr hFx5_ (ai_fr_aI rfl)
          refine sm_T_go 6 (c1 := (185, [some (.inr (.inr (some (6, 0)))), some (.inl a1_), some (.inl a2_), some (.inl a3_), some (.inl a4_), some (.inl is_), some (.inl co_), some (.inl k_), none, none], [.inl is_, .inl 1, .inl a4_, .inl a1_, .inr (.inr (some (63, 0)))], sm_aI (sm_aI S_ 61 0 a1_.toNat co_) 62 0 a1_.toNat a2_)) rfl ?_
          refine sm_T_bin (w := (i_shl 1 is_)) rfl rfl ?_ -- pc_ 185
          have vp8_ := vpw (e_ := is_) (by omega)
          refine sm_T_go 1 (c1 := (187, [some (.inr (.inr (some (6, 0)))), some (.inl a1_), some (.inl a2_), some (.inl a3_), some (.inl a4_), some (.inl is_), some (.inl co_), some (.inl k_), none, none], [.inl 1, .inl (i_shl 1 is_), .inl a4_, .inl a1_, .inr (.inr (some (63, 0)))], sm_aI (sm_aI S_ 61 0 a1_.toNat co_) 62 0 a1_.toNat a2_)) rfl ?_
          refine sm_T_bin (w := (i_shl 1 is_) - 1) rfl (bi_sub (by omega) (by omega) (by omega)) ?_ -- pc_ 187
          refine sm_T_bin (w := (i_and a4_ ((i_shl 1 is_) - 1))) rfl rfl ?_ -- pc_ 188
          have bx9_ := i_and_y a4_ (y_ := ((i_shl 1 is_) - 1)) (by omega)
          refine sm_T_iast (n := 2026) rfl rfl (by omega) (by omega) ?_
          have hIx10_ : gi (sm_aI (sm_aI (sm_aI S_ 61 0 a1_.toNat co_) 62 0 a1_.toNat a2_) 63 0 a1_.toNat (i_and a4_ ((i_shl 1 is_) - 1))) := gi_aI hIx6_ (show 0 ≤ (i_and a4_ ((i_shl 1 is_) - 1)) ∧ (i_and a4_ ((i_shl 1 is_) - 1)) ≤ 15 from ⟨by omega, by omega⟩)
          have hFx11_ : ai_fr (sx_W vw_108n) S0_ (sm_aI (sm_aI (sm_aI S_ 61 0 a1_.toNat co_) 62 0 a1_.toNat a2_) 63 0 a1_.toNat (i_and a4_ ((i_shl 1 is_) - 1))) := ai_fr_tr hFx7_ (ai_fr_aI rfl)
          refine sm_T_go 2 (c1 := (193, [some (.inr (.inr (some (6, 0)))), some (.inl a1_), some (.inl a2_), some (.inl a3_), some (.inl a4_), some (.inl is_), some (.inl co_), some (.inl 0), none, none], [], sm_aI (sm_aI (sm_aI S_ 61 0 a1_.toNat co_) 62 0 a1_.toNat a2_) 63 0 a1_.toNat (i_and a4_ ((i_shl 1 is_) - 1)))) rfl ?_
          refine ih_.2 is_ co_ 0 (sm_aI (sm_aI (sm_aI S_ 61 0 a1_.toNat co_) 62 0 a1_.toNat a2_) 63 0 a1_.toNat (i_and a4_ ((i_shl 1 is_) - 1))) hIx10_ hFx11_ ⟨?_, ?_, ?_, ?_, ?_, ?_, trivial⟩ ?_
          · omega
          · (intro j_ hj_; exact hp_ (by omega) j_ (by omega))
          · rw [show k_.toNat = (S0_.2.2.1 55 (0 + ll_) a2_.toNat).toNat by omega] at hco_
            exact ⟨hco_, by (rw [← hb_.1, ← hS_]; omega)⟩
          · (rw [rd_ne (by decide), rd_ne (by decide), rd_eq, if_pos rfl, rd_ne (by decide), rd_eq, if_pos rfl, rd_eq, if_pos rfl]; exact ⟨rfl, rfl, rfl⟩)
          · refine ⟨fun j_ hj_ => ?_, fun j_ hj_ => ?_⟩
            · rw [hS_, rd_ne (by decide), rd_ne (by decide), rd_eq, if_neg hj_, rd_ne (by decide), rd_eq, if_neg hj_, rd_ne (by decide), rd_eq, if_neg hj_, rd_ne (by decide), rd_ne (by decide)]; exact ⟨rfl, rfl, rfl⟩
            · rw [hS_, rd_ne (by decide), rd_ne (by decide), rd_ne (by decide)]
          · (intro j_ hj_; exfalso; omega)
          · omega
      · have cx1_ : ¬ (is_ ≤ k_) := of_decide_eq_false cx1_
        refine sm_T_go 4 (c1 := (38, [some (.inr (.inr (some (6, 0)))), some (.inl a1_), some (.inl a2_), some (.inl a3_), some (.inl a4_), some (.inl is_), some (.inl co_), some (.inl k_), none, none], [.inl a3_, .inl 3, .inr (.inr (some (65, 0)))], S_)) rfl ?_
        refine sm_T_bin (w := 3 * a3_) rfl (bi_mul (by omega) (by omega) (by omega)) ?_ -- pc_ 38
        refine sm_T_go 3 (c1 := (45, [some (.inr (.inr (some (6, 0)))), some (.inl a1_), some (.inl a2_), some (.inl a3_), some (.inl a4_), some (.inl is_), some (.inl co_), some (.inl k_), none, none], [.inl is_, .inl a4_, .inl is_, .inl (3 * a3_), .inr (.inr (some (65, 0)))], S_)) rfl ?_
        refine sm_T_bin (w := (i_shr a4_ is_)) rfl rfl ?_ -- pc_ 45
        have vo9_ := vor (v_ := a4_) (e_ := is_) (by omega) (by omega)
        refine sm_T_go 1 (c1 := (48, [some (.inr (.inr (some (6, 0)))), some (.inl a1_), some (.inl a2_), some (.inl a3_), some (.inl a4_), some (.inl is_), some (.inl co_), some (.inl k_), none, none], [.inl k_, .inl (i_shr a4_ is_), .inl is_, .inl (3 * a3_), .inr (.inr (some (65, 0)))], S_)) rfl ?_
        refine sm_T_cal (d1 := 0) (Q1 := vq_98 is_ (i_shr a4_ is_) k_ S_) rfl rfl (by decide) (vc_98 is_ (i_shr a4_ is_) k_ S_ hI_ (by omega)) (fun u_ Sx13_ px16_ => ?_)
        obtain ⟨rfl, vx18_, rfl, px16_⟩ := px16_
        have p48_ := px16_.1
        have q48_ : vx18_ = plo (S0_.2.2.1 55 (0 + ll_) a2_.toNat) (i_shr a4_ (S0_.2.2.1 55 (0 + ll_) a2_.toNat)) k_ := by (have z9_ := px16_.2; rw [h0_.1] at z9_; exact z9_)
        have nx9_ : npd n9_ (S0_.2.2.1 59 0) (S0_.2.2.1 65 0 (3 * a3_ + vx18_).toNat) := mcs_b hcs_ h3_ (by omega) (fun u9_ => by rcases his_ with w9_ | w9_; (exfalso; omega); exact w9_.2.2.2)
        have nx1_ := nx9_.1
        have nx2_ := nx9_.2.1
        have nx0 : S_.2.2.1 65 0 (3 * a3_ + vx18_).toNat = S0_.2.2.1 65 0 (3 * a3_ + vx18_).toNat := by rw [f65_]
        have xk9_ : S0_.2.2.1 65 0 (3 * a3_ + vx18_).toNat = (S0_.2.2.1 65 0 (3 * a3_ + plo (S0_.2.2.1 55 (0 + ll_) a2_.toNat) (i_shr a4_ (S0_.2.2.1 55 (0 + ll_) a2_.toNat)) k_).toNat) := by rw [q48_]
        have cd9_ : cdn c_ (S0_.2.2.1 55 (0 + ll_) a2_.toNat).toNat (a4_.toNat / 2 ^ (S0_.2.2.1 55 (0 + ll_) a2_.toNat).toNat) k_.toNat = S0_.2.2.1 65 0 (3 * a3_ + vx18_).toNat := cdn_e hcv_ h3_.1 (by omega) (by omega) q48_ (by omega)
        refine sm_T_bin (w := 3 * a3_ + vx18_) rfl (bi_add (by omega) (by omega) (by omega)) ?_ -- pc_ 51
        refine sm_T_iald (n := 3072) rfl rfl (by omega) (by omega) ?_
        have bx19_ : (-1) ≤ S_.2.2.1 65 0 (3 * a3_ + vx18_).toNat ∧ S_.2.2.1 65 0 (3 * a3_ + vx18_).toNat ≤ 1012 := hI_.2 65 0 _
        refine sm_T_go 3 (c1 := (59, [some (.inr (.inr (some (6, 0)))), some (.inl a1_), some (.inl a2_), some (.inl a3_), some (.inl a4_), some (.inl is_), some (.inl co_), some (.inl k_), some (.inl (S_.2.2.1 65 0 (3 * a3_ + vx18_).toNat)), none], [.inl k_, .inl a4_], S_)) rfl ?_
        refine sm_T_bin (w := (i_shr a4_ k_)) rfl rfl ?_ -- pc_ 59
        first | have bx20_ := i_shr_p (x_ := a4_) (e_ := k_) (by omega) (by omega) (by omega) | have bx20_ := i_shr_n a4_ k_
        refine sm_T_go 1 (c1 := (61, [some (.inr (.inr (some (6, 0)))), some (.inl a1_), some (.inl a2_), some (.inl a3_), some (.inl a4_), some (.inl is_), some (.inl co_), some (.inl k_), some (.inl (S_.2.2.1 65 0 (3 * a3_ + vx18_).toNat)), none], [.inl 1, .inl (i_shr a4_ k_)], S_)) rfl ?_
        refine sm_T_bin (w := ((i_shr a4_ k_) % 2)) rfl (bi_msk (k := 1) (by decide)) ?_ -- pc_ 61
        refine sm_T_go 3 (c1 := (67, [some (.inr (.inr (some (6, 0)))), some (.inl a1_), some (.inl a2_), some (.inl a3_), some (.inl a4_), some (.inl is_), some (.inl co_), some (.inl k_), some (.inl (S_.2.2.1 65 0 (3 * a3_ + vx18_).toNat)), some (.inl ((i_shr a4_ k_) % 2))], [.inl (S_.2.2.1 65 0 (3 * a3_ + vx18_).toNat), .inr (.inr (some (6, 0)))], S_)) rfl ?_
        refine sm_T_cal (d1 := 1) (Q1 := vq_94 (S_.2.2.1 65 0 (3 * a3_ + vx18_).toNat) dd_ S_) rfl rfl (by decide) (vc_94 (S_.2.2.1 65 0 (3 * a3_ + vx18_).toNat) dd_ S_ hI_ (by exact (hF_.2.1 6 0 0 rfl).trans hd_) (by omega)) (fun u_ Sx21_ px24_ => ?_)
        obtain ⟨rfl, vx26_, rfl, px24_⟩ := px24_
        have lf9_ := px24_
        rw [f1_, f2_, f60_] at lf9_
        refine sm_T_b0 (a := 1) (z := 23) rfl (fun cx27_ => ?_) (fun cx27_ => ?_)
        · have cx27_ : vx26_ ≠ 0 := of_decide_eq_true cx27_
          refine sm_T_go 1 (c1 := (95, [some (.inr (.inr (some (6, 0)))), some (.inl a1_), some (.inl a2_), some (.inl a3_), some (.inl a4_), some (.inl is_), some (.inl co_), some (.inl k_), some (.inl (S_.2.2.1 65 0 (3 * a3_ + vx18_).toNat)), some (.inl ((i_shr a4_ k_) % 2))], [.inl ((i_shr a4_ k_) % 2)], S_)) rfl ?_
          refine sm_T_b0 (a := 0) (z := 39) rfl (fun cx28_ => ?_) (fun cx28_ => ?_)
          · have cx28_ : ((i_shr a4_ k_) % 2) = 0 := of_decide_eq_true cx28_
            refine sm_T_go 1 (c1 := (136, [some (.inr (.inr (some (6, 0)))), some (.inl a1_), some (.inl a2_), some (.inl a3_), some (.inl a4_), some (.inl is_), some (.inl co_), some (.inl k_), some (.inl (S_.2.2.1 65 0 (3 * a3_ + vx18_).toNat)), some (.inl ((i_shr a4_ k_) % 2))], [.inl co_], S_)) rfl ?_
            refine sm_T_nt (u := some (.inl 268435456)) (S1 := S_) rfl rfl rfl ?_
            refine sm_T_nt (u := some (.inl (sm_mn co_ 268435456))) (S1 := S_) rfl rfl rfl ?_
            have bx29_ := sm_mn_d co_ 268435456
            refine sm_T_go 1 (c1 := (143, [some (.inr (.inr (some (6, 0)))), some (.inl a1_), some (.inl a2_), some (.inl a3_), some (.inl a4_), some (.inl is_), some (.inl (sm_mn co_ 268435456)), some (.inl k_), some (.inl (S_.2.2.1 65 0 (3 * a3_ + vx18_).toNat)), some (.inl ((i_shr a4_ k_) % 2))], [], S_)) rfl ?_
            refine sm_T_inc (a := 7) (z := 1) (v := k_) (w := k_ + 1) rfl rfl (by omega) (by omega) (by omega) ?_ -- pc_ 143
            refine sm_T_go 1 (c1 := (25, [some (.inr (.inr (some (6, 0)))), some (.inl a1_), some (.inl a2_), some (.inl a3_), some (.inl a4_), some (.inl is_), some (.inl (sm_mn co_ 268435456)), some (.inl (k_ + 1)), some (.inl (S_.2.2.1 65 0 (3 * a3_ + vx18_).toNat)), some (.inl ((i_shr a4_ k_) % 2))], [], S_)) rfl ?_
            refine sm_T_wk [some (.inr (.inr (some (6, 0)))), some (.inl a1_), some (.inl a2_), some (.inl a3_), some (.inl a4_), some (.inl is_), some (.inl (sm_mn co_ 268435456)), some (.inl (k_ + 1)), none, none] (by exact ⟨rfl, rfl, rfl, rfl, rfl, rfl, rfl, rfl, trivial⟩) ?_
            refine ih_.1 is_ (sm_mn co_ 268435456) (k_ + 1) S_ hI_ hF_ ⟨?_, ?_, ?_, ?_, trivial⟩ ?_
            · omega
            · exact hS_
            · intro lt9_ j_ hj_
              by_cases y9_ : (j_ : Int) = k_
              · rw [y9_, ← xk9_]
                have lf8_ := lf9_
                rw [nx0] at lf8_
                refine ⟨nx9_, fun q9_ => ?_, fun q9_ => ?_⟩
                · have q8_ := q9_.1; have q7_ := q9_.2; simp only [hS_] at *; omega
                · have q8_ := q9_.1; have q7_ := q9_.2; simp only [hS_] at *; first | omega | (exfalso; omega)
              · exact hp_ (by simp only [hS_] at *; omega) j_ (by omega)
            · have tn9_ := tn_k (v_ := a4_) (k_ := k_) (by omega) (by omega)
              have lf8_ := lf9_
              rw [nx0] at lf8_
              subst hS_
              rw [show (k_ + 1).toNat = k_.toNat + 1 by omega, cco_s, ← hco_, cd9_, ← tn9_]
              unfold pcc
              first | rw [if_pos (by omega)] | rw [if_neg (by omega), if_pos (by omega)] | rw [if_neg (by omega), if_neg (by omega), if_pos (by omega)] | rw [if_neg (by omega), if_neg (by omega), if_neg (by omega)]
              unfold adc
              split <;> omega
            · omega
          · have cx28_ : ¬ (((i_shr a4_ k_) % 2) = 0) := of_decide_eq_false cx28_
            refine sm_T_go 2 (c1 := (101, [some (.inr (.inr (some (6, 0)))), some (.inl a1_), some (.inl a2_), some (.inl a3_), some (.inl a4_), some (.inl is_), some (.inl co_), some (.inl k_), some (.inl (S_.2.2.1 65 0 (3 * a3_ + vx18_).toNat)), some (.inl ((i_shr a4_ k_) % 2))], [.inr (.inr (some (6, 0))), .inl co_], S_)) rfl ?_
            refine sm_T_gr rfl rfl ((hF_.2.1 6 0 1 rfl).trans hc_) ?_
            have bx30_ : (-1) ≤ S_.1 5 ll_ 2 ∧ S_.1 5 ll_ 2 ≤ 11 := hI_.1 5 ll_ 2 rfl
            refine sm_T_go 2 (c1 := (108, [some (.inr (.inr (some (6, 0)))), some (.inl a1_), some (.inl a2_), some (.inl a3_), some (.inl a4_), some (.inl is_), some (.inl co_), some (.inl k_), some (.inl (S_.2.2.1 65 0 (3 * a3_ + vx18_).toNat)), some (.inl ((i_shr a4_ k_) % 2))], [.inl (-1), .inl (S_.1 5 ll_ 2), .inl co_], S_)) rfl ?_
            refine sm_T_br (a := 1) (z := 8) rfl (fun cx31_ => ?_) (fun cx31_ => ?_)
            · have cx31_ : (S_.1 5 ll_ 2) ≠ (-1) := of_decide_eq_true cx31_
              refine sm_T_go 1 (c1 := (117, [some (.inr (.inr (some (6, 0)))), some (.inl a1_), some (.inl a2_), some (.inl a3_), some (.inl a4_), some (.inl is_), some (.inl co_), some (.inl k_), some (.inl (S_.2.2.1 65 0 (3 * a3_ + vx18_).toNat)), some (.inl ((i_shr a4_ k_) % 2))], [.inr (.inr (some (6, 0))), .inl co_], S_)) rfl ?_
              refine sm_T_gr rfl rfl ((hF_.2.1 6 0 1 rfl).trans hc_) ?_
              refine sm_T_go 2 (c1 := (124, [some (.inr (.inr (some (6, 0)))), some (.inl a1_), some (.inl a2_), some (.inl a3_), some (.inl a4_), some (.inl is_), some (.inl co_), some (.inl k_), some (.inl (S_.2.2.1 65 0 (3 * a3_ + vx18_).toNat)), some (.inl ((i_shr a4_ k_) % 2))], [.inr (.inr (some (6, 0))), .inr (.inr (some (57, (0 + ll_)))), .inl co_], S_)) rfl ?_
              refine sm_T_gr rfl rfl ((hF_.2.1 6 0 1 rfl).trans hc_) ?_
              refine sm_T_go 1 (c1 := (130, [some (.inr (.inr (some (6, 0)))), some (.inl a1_), some (.inl a2_), some (.inl a3_), some (.inl a4_), some (.inl is_), some (.inl co_), some (.inl k_), some (.inl (S_.2.2.1 65 0 (3 * a3_ + vx18_).toNat)), some (.inl ((i_shr a4_ k_) % 2))], [.inl (S_.1 5 ll_ 2), .inr (.inr (some (57, (0 + ll_)))), .inl co_], S_)) rfl ?_
              refine sm_T_iald (n := 12) rfl rfl (by omega) (by omega) ?_
              have bx32_ : 0 ≤ S_.2.2.1 57 (0 + ll_) (S_.1 5 ll_ 2).toNat ∧ S_.2.2.1 57 (0 + ll_) (S_.1 5 ll_ 2).toNat ≤ 1000 := hI_.2 57 (0 + ll_) _
              refine sm_T_bin (w := co_ + (S_.2.2.1 57 (0 + ll_) (S_.1 5 ll_ 2).toNat)) rfl (bi_add (by omega) (by omega) (by omega)) ?_ -- pc_ 131
              refine sm_T_go 2 (c1 := (136, [some (.inr (.inr (some (6, 0)))), some (.inl a1_), some (.inl a2_), some (.inl a3_), some (.inl a4_), some (.inl is_), some (.inl (co_ + (S_.2.2.1 57 (0 + ll_) (S_.1 5 ll_ 2).toNat))), some (.inl k_), some (.inl (S_.2.2.1 65 0 (3 * a3_ + vx18_).toNat)), some (.inl ((i_shr a4_ k_) % 2))], [.inl (co_ + (S_.2.2.1 57 (0 + ll_) (S_.1 5 ll_ 2).toNat))], S_)) rfl ?_
              refine sm_T_nt (u := some (.inl 268435456)) (S1 := S_) rfl rfl rfl ?_
              refine sm_T_nt (u := some (.inl (sm_mn (co_ + (S_.2.2.1 57 (0 + ll_) (S_.1 5 ll_ 2).toNat)) 268435456))) (S1 := S_) rfl rfl rfl ?_
              have bx33_ := sm_mn_d (co_ + (S_.2.2.1 57 (0 + ll_) (S_.1 5 ll_ 2).toNat)) 268435456
              refine sm_T_go 1 (c1 := (143, [some (.inr (.inr (some (6, 0)))), some (.inl a1_), some (.inl a2_), some (.inl a3_), some (.inl a4_), some (.inl is_), some (.inl (sm_mn (co_ + (S_.2.2.1 57 (0 + ll_) (S_.1 5 ll_ 2).toNat)) 268435456)), some (.inl k_), some (.inl (S_.2.2.1 65 0 (3 * a3_ + vx18_).toNat)), some (.inl ((i_shr a4_ k_) % 2))], [], S_)) rfl ?_
              refine sm_T_inc (a := 7) (z := 1) (v := k_) (w := k_ + 1) rfl rfl (by omega) (by omega) (by omega) ?_ -- pc_ 143
              refine sm_T_go 1 (c1 := (25, [some (.inr (.inr (some (6, 0)))), some (.inl a1_), some (.inl a2_), some (.inl a3_), some (.inl a4_), some (.inl is_), some (.inl (sm_mn (co_ + (S_.2.2.1 57 (0 + ll_) (S_.1 5 ll_ 2).toNat)) 268435456)), some (.inl (k_ + 1)), some (.inl (S_.2.2.1 65 0 (3 * a3_ + vx18_).toNat)), some (.inl ((i_shr a4_ k_) % 2))], [], S_)) rfl ?_
              refine sm_T_wk [some (.inr (.inr (some (6, 0)))), some (.inl a1_), some (.inl a2_), some (.inl a3_), some (.inl a4_), some (.inl is_), some (.inl (sm_mn (co_ + (S_.2.2.1 57 (0 + ll_) (S_.1 5 ll_ 2).toNat)) 268435456)), some (.inl (k_ + 1)), none, none] (by exact ⟨rfl, rfl, rfl, rfl, rfl, rfl, rfl, rfl, trivial⟩) ?_
              refine ih_.1 is_ (sm_mn (co_ + (S_.2.2.1 57 (0 + ll_) (S_.1 5 ll_ 2).toNat)) 268435456) (k_ + 1) S_ hI_ hF_ ⟨?_, ?_, ?_, ?_, trivial⟩ ?_
              · omega
              · exact hS_
              · intro lt9_ j_ hj_
                by_cases y9_ : (j_ : Int) = k_
                · rw [y9_, ← xk9_]
                  have lf8_ := lf9_
                  rw [nx0] at lf8_
                  refine ⟨nx9_, fun q9_ => ?_, fun q9_ => ?_⟩
                  · have q8_ := q9_.1; have q7_ := q9_.2; simp only [hS_] at *; omega
                  · have q8_ := q9_.1; have q7_ := q9_.2; simp only [hS_] at *; first | omega | (exfalso; omega)
                · exact hp_ (by simp only [hS_] at *; omega) j_ (by omega)
              · have tn9_ := tn_k (v_ := a4_) (k_ := k_) (by omega) (by omega)
                have lf8_ := lf9_
                rw [nx0] at lf8_
                subst hS_
                rw [show (k_ + 1).toNat = k_.toNat + 1 by omega, cco_s, ← hco_, cd9_, ← tn9_]
                unfold pcc
                first | rw [if_pos (by omega)] | rw [if_neg (by omega), if_pos (by omega)] | rw [if_neg (by omega), if_neg (by omega), if_pos (by omega)] | rw [if_neg (by omega), if_neg (by omega), if_neg (by omega)]
                unfold adc
                split <;> omega
              · omega
            · have cx31_ : ¬ ((S_.1 5 ll_ 2) ≠ (-1)) := of_decide_eq_false cx31_
              refine sm_T_nt (u := some (.inl 268435456)) (S1 := S_) rfl rfl rfl ?_
              refine sm_T_go 1 (c1 := (131, [some (.inr (.inr (some (6, 0)))), some (.inl a1_), some (.inl a2_), some (.inl a3_), some (.inl a4_), some (.inl is_), some (.inl co_), some (.inl k_), some (.inl (S_.2.2.1 65 0 (3 * a3_ + vx18_).toNat)), some (.inl ((i_shr a4_ k_) % 2))], [.inl 268435456, .inl co_], S_)) rfl ?_
              refine sm_T_bin (w := co_ + 268435456) rfl (bi_add (by omega) (by omega) (by omega)) ?_ -- pc_ 131
              refine sm_T_go 2 (c1 := (136, [some (.inr (.inr (some (6, 0)))), some (.inl a1_), some (.inl a2_), some (.inl a3_), some (.inl a4_), some (.inl is_), some (.inl (co_ + 268435456)), some (.inl k_), some (.inl (S_.2.2.1 65 0 (3 * a3_ + vx18_).toNat)), some (.inl ((i_shr a4_ k_) % 2))], [.inl (co_ + 268435456)], S_)) rfl ?_
              refine sm_T_nt (u := some (.inl 268435456)) (S1 := S_) rfl rfl rfl ?_
              refine sm_T_nt (u := some (.inl (sm_mn (co_ + 268435456) 268435456))) (S1 := S_) rfl rfl rfl ?_
              have bx34_ := sm_mn_d (co_ + 268435456) 268435456
              refine sm_T_go 1 (c1 := (143, [some (.inr (.inr (some (6, 0)))), some (.inl a1_), some (.inl a2_), some (.inl a3_), some (.inl a4_), some (.inl is_), some (.inl (sm_mn (co_ + 268435456) 268435456)), some (.inl k_), some (.inl (S_.2.2.1 65 0 (3 * a3_ + vx18_).toNat)), some (.inl ((i_shr a4_ k_) % 2))], [], S_)) rfl ?_
              refine sm_T_inc (a := 7) (z := 1) (v := k_) (w := k_ + 1) rfl rfl (by omega) (by omega) (by omega) ?_ -- pc_ 143
              refine sm_T_go 1 (c1 := (25, [some (.inr (.inr (some (6, 0)))), some (.inl a1_), some (.inl a2_), some (.inl a3_), some (.inl a4_), some (.inl is_), some (.inl (sm_mn (co_ + 268435456) 268435456)), some (.inl (k_ + 1)), some (.inl (S_.2.2.1 65 0 (3 * a3_ + vx18_).toNat)), some (.inl ((i_shr a4_ k_) % 2))], [], S_)) rfl ?_
              refine sm_T_wk [some (.inr (.inr (some (6, 0)))), some (.inl a1_), some (.inl a2_), some (.inl a3_), some (.inl a4_), some (.inl is_), some (.inl (sm_mn (co_ + 268435456) 268435456)), some (.inl (k_ + 1)), none, none] (by exact ⟨rfl, rfl, rfl, rfl, rfl, rfl, rfl, rfl, trivial⟩) ?_
              refine ih_.1 is_ (sm_mn (co_ + 268435456) 268435456) (k_ + 1) S_ hI_ hF_ ⟨?_, ?_, ?_, ?_, trivial⟩ ?_
              · omega
              · exact hS_
              · intro lt9_ j_ hj_
                by_cases y9_ : (j_ : Int) = k_
                · rw [y9_, ← xk9_]
                  have lf8_ := lf9_
                  rw [nx0] at lf8_
                  refine ⟨nx9_, fun q9_ => ?_, fun q9_ => ?_⟩
                  · have q8_ := q9_.1; have q7_ := q9_.2; simp only [hS_] at *; omega
                  · have q8_ := q9_.1; have q7_ := q9_.2; simp only [hS_] at *; first | omega | (exfalso; omega)
                · exact hp_ (by simp only [hS_] at *; omega) j_ (by omega)
              · have tn9_ := tn_k (v_ := a4_) (k_ := k_) (by omega) (by omega)
                have lf8_ := lf9_
                rw [nx0] at lf8_
                subst hS_
                rw [show (k_ + 1).toNat = k_.toNat + 1 by omega, cco_s, ← hco_, cd9_, ← tn9_]
                unfold pcc
                first | rw [if_pos (by omega)] | rw [if_neg (by omega), if_pos (by omega)] | rw [if_neg (by omega), if_neg (by omega), if_pos (by omega)] | rw [if_neg (by omega), if_neg (by omega), if_neg (by omega)]
                unfold adc
                split <;> omega
              · omega
        · have cx27_ : ¬ (vx26_ ≠ 0) := of_decide_eq_false cx27_
          refine sm_T_go 5 (c1 := (82, [some (.inr (.inr (some (6, 0)))), some (.inl a1_), some (.inl a2_), some (.inl a3_), some (.inl a4_), some (.inl is_), some (.inl co_), some (.inl k_), some (.inl (S_.2.2.1 65 0 (3 * a3_ + vx18_).toNat)), some (.inl ((i_shr a4_ k_) % 2))], [.inl (S_.2.2.1 65 0 (3 * a3_ + vx18_).toNat), .inl 2, .inr (.inr (some (61, 0))), .inl co_], S_)) rfl ?_
          refine sm_T_bin (w := 2 * (S_.2.2.1 65 0 (3 * a3_ + vx18_).toNat)) rfl (bi_mul (by omega) (by omega) (by omega)) ?_ -- pc_ 82
          refine sm_T_go 1 (c1 := (85, [some (.inr (.inr (some (6, 0)))), some (.inl a1_), some (.inl a2_), some (.inl a3_), some (.inl a4_), some (.inl is_), some (.inl co_), some (.inl k_), some (.inl (S_.2.2.1 65 0 (3 * a3_ + vx18_).toNat)), some (.inl ((i_shr a4_ k_) % 2))], [.inl ((i_shr a4_ k_) % 2), .inl (2 * (S_.2.2.1 65 0 (3 * a3_ + vx18_).toNat)), .inr (.inr (some (61, 0))), .inl co_], S_)) rfl ?_
          refine sm_T_bin (w := 2 * (S_.2.2.1 65 0 (3 * a3_ + vx18_).toNat) + ((i_shr a4_ k_) % 2)) rfl (bi_add (by omega) (by omega) (by omega)) ?_ -- pc_ 85
          refine sm_T_iald (n := 2026) rfl rfl (by omega) (by omega) ?_
          have bx35_ : 0 ≤ S_.2.2.1 61 0 (2 * (S_.2.2.1 65 0 (3 * a3_ + vx18_).toNat) + ((i_shr a4_ k_) % 2)).toNat ∧ S_.2.2.1 61 0 (2 * (S_.2.2.1 65 0 (3 * a3_ + vx18_).toNat) + ((i_shr a4_ k_) % 2)).toNat ≤ 268435456 := hI_.2 61 0 _
          refine sm_T_bin (w := co_ + (S_.2.2.1 61 0 (2 * (S_.2.2.1 65 0 (3 * a3_ + vx18_).toNat) + ((i_shr a4_ k_) % 2)).toNat)) rfl (bi_add (by omega) (by omega) (by omega)) ?_ -- pc_ 87
          refine sm_T_go 3 (c1 := (136, [some (.inr (.inr (some (6, 0)))), some (.inl a1_), some (.inl a2_), some (.inl a3_), some (.inl a4_), some (.inl is_), some (.inl (co_ + (S_.2.2.1 61 0 (2 * (S_.2.2.1 65 0 (3 * a3_ + vx18_).toNat) + ((i_shr a4_ k_) % 2)).toNat))), some (.inl k_), some (.inl (S_.2.2.1 65 0 (3 * a3_ + vx18_).toNat)), some (.inl ((i_shr a4_ k_) % 2))], [.inl (co_ + (S_.2.2.1 61 0 (2 * (S_.2.2.1 65 0 (3 * a3_ + vx18_).toNat) + ((i_shr a4_ k_) % 2)).toNat))], S_)) rfl ?_
          refine sm_T_nt (u := some (.inl 268435456)) (S1 := S_) rfl rfl rfl ?_
          refine sm_T_nt (u := some (.inl (sm_mn (co_ + (S_.2.2.1 61 0 (2 * (S_.2.2.1 65 0 (3 * a3_ + vx18_).toNat) + ((i_shr a4_ k_) % 2)).toNat)) 268435456))) (S1 := S_) rfl rfl rfl ?_
          have bx36_ := sm_mn_d (co_ + (S_.2.2.1 61 0 (2 * (S_.2.2.1 65 0 (3 * a3_ + vx18_).toNat) + ((i_shr a4_ k_) % 2)).toNat)) 268435456
          refine sm_T_go 1 (c1 := (143, [some (.inr (.inr (some (6, 0)))), some (.inl a1_), some (.inl a2_), some (.inl a3_), some (.inl a4_), some (.inl is_), some (.inl (sm_mn (co_ + (S_.2.2.1 61 0 (2 * (S_.2.2.1 65 0 (3 * a3_ + vx18_).toNat) + ((i_shr a4_ k_) % 2)).toNat)) 268435456)), some (.inl k_), some (.inl (S_.2.2.1 65 0 (3 * a3_ + vx18_).toNat)), some (.inl ((i_shr a4_ k_) % 2))], [], S_)) rfl ?_
          refine sm_T_inc (a := 7) (z := 1) (v := k_) (w := k_ + 1) rfl rfl (by omega) (by omega) (by omega) ?_ -- pc_ 143
          refine sm_T_go 1 (c1 := (25, [some (.inr (.inr (some (6, 0)))), some (.inl a1_), some (.inl a2_), some (.inl a3_), some (.inl a4_), some (.inl is_), some (.inl (sm_mn (co_ + (S_.2.2.1 61 0 (2 * (S_.2.2.1 65 0 (3 * a3_ + vx18_).toNat) + ((i_shr a4_ k_) % 2)).toNat)) 268435456)), some (.inl (k_ + 1)), some (.inl (S_.2.2.1 65 0 (3 * a3_ + vx18_).toNat)), some (.inl ((i_shr a4_ k_) % 2))], [], S_)) rfl ?_
          refine sm_T_wk [some (.inr (.inr (some (6, 0)))), some (.inl a1_), some (.inl a2_), some (.inl a3_), some (.inl a4_), some (.inl is_), some (.inl (sm_mn (co_ + (S_.2.2.1 61 0 (2 * (S_.2.2.1 65 0 (3 * a3_ + vx18_).toNat) + ((i_shr a4_ k_) % 2)).toNat)) 268435456)), some (.inl (k_ + 1)), none, none] (by exact ⟨rfl, rfl, rfl, rfl, rfl, rfl, rfl, rfl, trivial⟩) ?_
          refine ih_.1 is_ (sm_mn (co_ + (S_.2.2.1 61 0 (2 * (S_.2.2.1 65 0 (3 * a3_ + vx18_).toNat) + ((i_shr a4_ k_) % 2)).toNat)) 268435456) (k_ + 1) S_ hI_ hF_ ⟨?_, ?_, ?_, ?_, trivial⟩ ?_
          · omega
          · exact hS_
          · intro lt9_ j_ hj_
            by_cases y9_ : (j_ : Int) = k_
            · rw [y9_, ← xk9_]
              have lf8_ := lf9_
              rw [nx0] at lf8_
              refine ⟨nx9_, fun q9_ => ?_, fun q9_ => ?_⟩
              · have q8_ := q9_.1; have q7_ := q9_.2; simp only [hS_] at *; omega
              · have q8_ := q9_.1; have q7_ := q9_.2; simp only [hS_] at *; first | omega | (exfalso; omega)
            · exact hp_ (by simp only [hS_] at *; omega) j_ (by omega)
          · have tn9_ := tn_k (v_ := a4_) (k_ := k_) (by omega) (by omega)
            have lf8_ := lf9_
            rw [nx0] at lf8_
            subst hS_
            rw [show (k_ + 1).toNat = k_.toNat + 1 by omega, cco_s, ← hco_, cd9_, ← tn9_]
            unfold pcc
            first | rw [if_pos (by omega)] | rw [if_neg (by omega), if_pos (by omega)] | rw [if_neg (by omega), if_neg (by omega), if_pos (by omega)] | rw [if_neg (by omega), if_neg (by omega), if_neg (by omega)]
            unfold adc
            split <;> omega
          · omega
    · rintro is_ co_ k_ S_ hI_ hF_ ⟨h0_, hp_, hco_, hv_, hf_, hn_, -⟩ hm_
      have f55_ : S_.2.2.1 55 (0 + ll_) = S0_.2.2.1 55 (0 + ll_) := fr_arr hF_ rfl
      have f65_ : S_.2.2.1 65 0 = S0_.2.2.1 65 0 := fr_arr hF_ rfl
      have f60_ : S_.2.2.1 60 0 = S0_.2.2.1 60 0 := fr_arr hF_ rfl
      have f1_ : S_.1 3 dd_ 1 = S0_.1 3 dd_ 1 := hF_.1 3 dd_ 1 rfl
      have f2_ : S_.1 3 dd_ 2 = S0_.1 3 dd_ 2 := hF_.1 3 dd_ 2 rfl
      have f5_ : S_.1 5 ll_ 2 = S0_.1 5 ll_ 2 := hF_.1 5 ll_ 2 rfl
      have ck_ : 0 ≤ S_.1 6 0 11 ∧ S_.1 6 0 11 ≤ 1024 := hI_.1 6 0 11 rfl
      have ek_ : S_.1 6 0 11 = S0_.1 6 0 11 := hF_.1 6 0 11 rfl
      refine sm_T_go 2 (c1 := (197, [some (.inr (.inr (some (6, 0)))), some (.inl a1_), some (.inl a2_), some (.inl a3_), some (.inl a4_), some (.inl is_), some (.inl co_), some (.inl k_), none, none], [.inl is_, .inl k_], S_)) rfl ?_
      refine sm_T_br (a := 3) (z := 41) rfl (fun cx1_ => ?_) (fun cx1_ => ?_)
      · have cx1_ : is_ ≤ k_ := of_decide_eq_true cx1_
        refine sm_T_rv rfl ⟨_, _, rfl, rfl, hI_, hF_, ?_⟩
        refine ⟨?_, ?_⟩
        · first | exact ⟨by (rw [hS_]; exact hw_), by (rw [hS_]; exact wfl_rf)⟩ | (refine ⟨Or.inr ⟨by rw [hv_.2.1]; exact h2_.1, by rw [hv_.1]; exact h0_.2.2.2.2, fun j_ hj_ => ?_⟩, hf_⟩; rw [hv_.2.1, f55_, ← h0_.1] at hj_; rw [f5_, fr_arr (t := 59) (i := 0) hF_ rfl, f60_, hn_ j_ (by omega), hv_.2.2, tbit (by omega) (by omega) (by omega)]; exact wpt_cg (hp_ j_ hj_) (by omega) (fun q9_ w9_ => (hf_.1 q9_ (by omega)).1))
        · first | (have y8_ := hS_; rw [show k_.toNat = (S0_.2.2.1 55 (0 + ll_) a2_.toNat).toNat by omega] at hco_; rw [← hco_]; unfold wst; rw [if_neg (by (rw [← hb_.1, ← hS_]; omega)), hS_]; exact hb_) | (have y8_ := hv_; rw [← hco_.1]; unfold wst; rw [if_pos hco_.2]; refine ⟨hv_.1, Or.inr ⟨h0_.2.2.2.2, hv_.2.1, ?_, fun j_ hj_ => ?_⟩⟩; (rw [hv_.2.2, h0_.1]; exact (vsp (by omega) (by omega)).2); (have hj_ : (j_ : Int) < S_.2.2.1 55 (0 + ll_) a2_.toNat := hj_; rw [f55_, ← h0_.1] at hj_; rw [hn_ j_ (by omega)]; have z9_ := cdn_e (k_ := (j_ : Int)) (p_ := plo (S0_.2.2.1 55 (0 + ll_) a2_.toNat) (i_shr a4_ (S0_.2.2.1 55 (0 + ll_) a2_.toNat)) (j_ : Int)) hcv_ h3_.1 (by omega) (by omega) rfl (by (have y9_ := vor (v_ := a4_) (e_ := (S0_.2.2.1 55 (0 + ll_) a2_.toNat)) (by omega) (by omega); have w9_ := plo_i (ip_ := (S0_.2.2.1 55 (0 + ll_) a2_.toNat)) (o_ := i_shr a4_ (S0_.2.2.1 55 (0 + ll_) a2_.toNat)) (k_ := (j_ : Int)) (by omega); have u9_ := iat_b (sz_ := (S0_.2.2.1 55 (0 + ll_) a2_.toNat)) (o_ := i_shr a4_ (S0_.2.2.1 55 (0 + ll_) a2_.toNat)) (k_ := (j_ : Int)) (by omega) (by omega) (by omega); rw [w9_]; omega)); rw [Int.toNat_natCast] at z9_; exact z9_.symm))
      · have cx1_ : ¬ (is_ ≤ k_) := of_decide_eq_false cx1_
        refine sm_T_go 4 (c1 := (206, [some (.inr (.inr (some (6, 0)))), some (.inl a1_), some (.inl a2_), some (.inl a3_), some (.inl a4_), some (.inl is_), some (.inl co_), some (.inl k_), none, none], [.inl a1_, .inl 3, .inr (.inr (some (64, 0)))], S_)) rfl ?_
        refine sm_T_bin (w := 3 * a1_) rfl (bi_mul (by omega) (by omega) (by omega)) ?_ -- pc_ 206
        refine sm_T_go 1 (c1 := (209, [some (.inr (.inr (some (6, 0)))), some (.inl a1_), some (.inl a2_), some (.inl a3_), some (.inl a4_), some (.inl is_), some (.inl co_), some (.inl k_), none, none], [.inl k_, .inl (3 * a1_), .inr (.inr (some (64, 0)))], S_)) rfl ?_
        refine sm_T_bin (w := 3 * a1_ + k_) rfl (bi_add (by omega) (by omega) (by omega)) ?_ -- pc_ 209
        refine sm_T_go 4 (c1 := (216, [some (.inr (.inr (some (6, 0)))), some (.inl a1_), some (.inl a2_), some (.inl a3_), some (.inl a4_), some (.inl is_), some (.inl co_), some (.inl k_), none, none], [.inl a3_, .inl 3, .inr (.inr (some (65, 0))), .inl (3 * a1_ + k_), .inr (.inr (some (64, 0)))], S_)) rfl ?_
        refine sm_T_bin (w := 3 * a3_) rfl (bi_mul (by omega) (by omega) (by omega)) ?_ -- pc_ 216
        refine sm_T_go 3 (c1 := (223, [some (.inr (.inr (some (6, 0)))), some (.inl a1_), some (.inl a2_), some (.inl a3_), some (.inl a4_), some (.inl is_), some (.inl co_), some (.inl k_), none, none], [.inl is_, .inl a4_, .inl is_, .inl (3 * a3_), .inr (.inr (some (65, 0))), .inl (3 * a1_ + k_), .inr (.inr (some (64, 0)))], S_)) rfl ?_
        refine sm_T_bin (w := (i_shr a4_ is_)) rfl rfl ?_ -- pc_ 223
        have vo9_ := vor (v_ := a4_) (e_ := is_) (by omega) (by omega)
        refine sm_T_go 1 (c1 := (226, [some (.inr (.inr (some (6, 0)))), some (.inl a1_), some (.inl a2_), some (.inl a3_), some (.inl a4_), some (.inl is_), some (.inl co_), some (.inl k_), none, none], [.inl k_, .inl (i_shr a4_ is_), .inl is_, .inl (3 * a3_), .inr (.inr (some (65, 0))), .inl (3 * a1_ + k_), .inr (.inr (some (64, 0)))], S_)) rfl ?_
        refine sm_T_cal (d1 := 0) (Q1 := vq_98 is_ (i_shr a4_ is_) k_ S_) rfl rfl (by decide) (vc_98 is_ (i_shr a4_ is_) k_ S_ hI_ (by omega)) (fun u_ Sx3_ px6_ => ?_)
        obtain ⟨rfl, vx8_, rfl, px6_⟩ := px6_
        have p226_ := px6_.1
        have q226_ : vx8_ = plo (S0_.2.2.1 55 (0 + ll_) a2_.toNat) (i_shr a4_ (S0_.2.2.1 55 (0 + ll_) a2_.toNat)) k_ := by (have z9_ := px6_.2; rw [h0_.1] at z9_; exact z9_)
        have nx9_ : npd n9_ (S0_.2.2.1 59 0) (S0_.2.2.1 65 0 (3 * a3_ + vx8_).toNat) := mcs_b hcs_ h3_ (by omega) (fun u9_ => by rcases his_ with w9_ | w9_; (exfalso; omega); exact w9_.2.2.2)
        have nx1_ := nx9_.1
        have nx2_ := nx9_.2.1
        have nx0 : S_.2.2.1 65 0 (3 * a3_ + vx8_).toNat = S0_.2.2.1 65 0 (3 * a3_ + vx8_).toNat := by rw [f65_]
        have xk9_ : S0_.2.2.1 65 0 (3 * a3_ + vx8_).toNat = (S0_.2.2.1 65 0 (3 * a3_ + plo (S0_.2.2.1 55 (0 + ll_) a2_.toNat) (i_shr a4_ (S0_.2.2.1 55 (0 + ll_) a2_.toNat)) k_).toNat) := by rw [q226_]
        have cd9_ : cdn c_ (S0_.2.2.1 55 (0 + ll_) a2_.toNat).toNat (a4_.toNat / 2 ^ (S0_.2.2.1 55 (0 + ll_) a2_.toNat).toNat) k_.toNat = S0_.2.2.1 65 0 (3 * a3_ + vx8_).toNat := cdn_e hcv_ h3_.1 (by omega) (by omega) q226_ (by omega)
        refine sm_T_bin (w := 3 * a3_ + vx8_) rfl (bi_add (by omega) (by omega) (by omega)) ?_ -- pc_ 229
        refine sm_T_iald (n := 3072) rfl rfl (by omega) (by omega) ?_
        have bx9_ : (-1) ≤ S_.2.2.1 65 0 (3 * a3_ + vx8_).toNat ∧ S_.2.2.1 65 0 (3 * a3_ + vx8_).toNat ≤ 1012 := hI_.2 65 0 _
        refine sm_T_iast (n := 6078) rfl rfl (by omega) (by omega) ?_
        have hIx10_ : gi (sm_aI S_ 64 0 (3 * a1_ + k_).toNat (S_.2.2.1 65 0 (3 * a3_ + vx8_).toNat)) := gi_aI hI_ (show 0 ≤ (S_.2.2.1 65 0 (3 * a3_ + vx8_).toNat) ∧ (S_.2.2.1 65 0 (3 * a3_ + vx8_).toNat) ≤ 1012 from ⟨by omega, by omega⟩)
        have hFx11_ : ai_fr (sx_W vw_108n) S0_ (sm_aI S_ 64 0 (3 * a1_ + k_).toNat (S_.2.2.1 65 0 (3 * a3_ + vx8_).toNat)) := ai_fr_tr hF_ (ai_fr_aI rfl)
        refine sm_T_inc (a := 7) (z := 1) (v := k_) (w := k_ + 1) rfl rfl (by omega) (by omega) (by omega) ?_ -- pc_ 232
        refine sm_T_go 1 (c1 := (193, [some (.inr (.inr (some (6, 0)))), some (.inl a1_), some (.inl a2_), some (.inl a3_), some (.inl a4_), some (.inl is_), some (.inl co_), some (.inl (k_ + 1)), none, none], [], sm_aI S_ 64 0 (3 * a1_ + k_).toNat (S_.2.2.1 65 0 (3 * a3_ + vx8_).toNat))) rfl ?_
        refine ih_.2 is_ co_ (k_ + 1) (sm_aI S_ 64 0 (3 * a1_ + k_).toNat (S_.2.2.1 65 0 (3 * a3_ + vx8_).toNat)) hIx10_ hFx11_ ⟨?_, ?_, ?_, ?_, ?_, ?_, trivial⟩ ?_
        · omega
        · exact hp_
        · exact hco_
        · (rw [rd_ne (by decide), rd_ne (by decide), rd_ne (by decide)]; exact hv_)
        · refine ⟨fun j_ hj_ => ?_, fun j_ hj_ => ?_⟩
          · rw [rd_ne (by decide), rd_ne (by decide), rd_ne (by decide)]; exact hf_.1 j_ hj_
          · rw [rd_eq, if_neg (by omega)]; exact hf_.2 j_ hj_
        · intro j_ hj_
          rw [rd_eq]
          by_cases y9_ : (j_ : Int) = k_
          · rw [if_pos (by omega), nx0, xk9_, y9_]
          · rw [if_neg (by omega)]; exact hn_ j_ (by omega)
        · omega
set_option maxHeartbeats 3000000 in
set_option maxRecDepth 20000 in
theorem vc_108n {sc_ : Nat × (Nat → Int)} (a1_ : Int) (a2_ : Int) (a3_ : Int) (a4_ : Int) (dd_ : Nat) (ll_ : Nat) (n9_ : Int) (c_ : List Nat) (b_ : Int × Int × Int × (Nat → Int)) (S0_ : sm_S) (hI_ : gi S0_) (hcv_ : ∀ j_ : Nat, j_ < 3 → S0_.2.2.1 65 0 (3 * a3_.toNat + j_) = cva c_ j_) (hb_ : wrc ll_ S0_ a1_.toNat b_) (hd_ : S0_.2.1 6 0 0 = some dd_) (hc_ : S0_.2.1 6 0 1 = some ll_) (h1_ : (a1_ = 2 * n9_ ∨ a1_ = 2 * n9_ + 1) ∧ 1 ≤ n9_ ∧ n9_ ≤ 1012) (h2_ : 0 ≤ a2_ ∧ a2_ ≤ 11) (h3_ : 0 ≤ a3_ ∧ a3_ < S0_.1 6 0 11) (his_ : ((S0_.2.2.1 55 (0 + ll_) a2_.toNat) = 2 ∧ 0 ≤ a4_ ∧ a4_ < 8) ∨ ((S0_.2.2.1 55 (0 + ll_) a2_.toNat) = 3 ∧ 0 ≤ a4_ ∧ a4_ < 48 ∧ S0_.2.2.1 65 0 (3 * a3_ + 2).toNat ≠ -1)) (hcs_ : mcs (npd n9_ (S0_.2.2.1 59 0)) S0_) (hw_ : wo3 (1 + S0_.1 3 dd_ 1 + S0_.1 3 dd_ 2) n9_ ll_ S0_ a1_.toNat) : sm_T (mt_P sc_) 2 108 (0, [some (.inr (.inr (some (6, 0)))), some (.inl a1_), some (.inl a2_), some (.inl a3_), some (.inl a4_), none, none, none, none, none], [], S0_) (fun ro9_ => ∃ u_ S1_, ro9_ = (.inl u_, S1_, 0) ∧ vq_108n a1_ a2_ a3_ a4_ dd_ ll_ n9_ c_ b_ S0_ u_ S1_) := by
  have hF_ : ai_fr (sx_W vw_108n) S0_ S0_ := ai_fr_rf
  have ck0_ : 0 ≤ S0_.1 6 0 11 ∧ S0_.1 6 0 11 ≤ 1024 := hI_.1 6 0 11 rfl
  refine sm_T_go 1 (c1 := (1, [some (.inr (.inr (some (6, 0)))), some (.inl a1_), some (.inl a2_), some (.inl a3_), some (.inl a4_), none, none, none, none, none], [.inr (.inr (some (6, 0)))], S0_)) rfl ?_
  refine sm_T_gr rfl rfl ((hF_.2.1 6 0 1 rfl).trans hc_) ?_
  refine sm_T_go 2 (c1 := (8, [some (.inr (.inr (some (6, 0)))), some (.inl a1_), some (.inl a2_), some (.inl a3_), some (.inl a4_), none, none, none, none, none], [.inl a2_, .inr (.inr (some (55, (0 + ll_))))], S0_)) rfl ?_
  refine sm_T_iald (n := 12) rfl rfl (by omega) (by omega) ?_
  have bx1_ : 0 ≤ S0_.2.2.1 55 (0 + ll_) a2_.toNat ∧ S0_.2.2.1 55 (0 + ll_) a2_.toNat ≤ 3 := hI_.2 55 (0 + ll_) _
  refine sm_T_go 2 (c1 := (12, [some (.inr (.inr (some (6, 0)))), some (.inl a1_), some (.inl a2_), some (.inl a3_), some (.inl a4_), some (.inl (S0_.2.2.1 55 (0 + ll_) a2_.toNat)), none, none, none, none], [.inr (.inr (some (6, 0)))], S0_)) rfl ?_
  refine sm_T_gr rfl rfl ((hF_.2.1 6 0 1 rfl).trans hc_) ?_
  refine sm_T_go 2 (c1 := (19, [some (.inr (.inr (some (6, 0)))), some (.inl a1_), some (.inl a2_), some (.inl a3_), some (.inl a4_), some (.inl (S0_.2.2.1 55 (0 + ll_) a2_.toNat)), none, none, none, none], [.inl a2_, .inr (.inr (some (57, (0 + ll_))))], S0_)) rfl ?_
  refine sm_T_iald (n := 12) rfl rfl (by omega) (by omega) ?_
  have bx2_ : 0 ≤ S0_.2.2.1 57 (0 + ll_) a2_.toNat ∧ S0_.2.2.1 57 (0 + ll_) a2_.toNat ≤ 1000 := hI_.2 57 (0 + ll_) _
  refine sm_T_go 3 (c1 := (25, [some (.inr (.inr (some (6, 0)))), some (.inl a1_), some (.inl a2_), some (.inl a3_), some (.inl a4_), some (.inl (S0_.2.2.1 55 (0 + ll_) a2_.toNat)), some (.inl (S0_.2.2.1 57 (0 + ll_) a2_.toNat)), some (.inl 0), none, none], [], S0_)) rfl ?_
  refine (vl_108n a1_ a2_ a3_ a4_ dd_ ll_ n9_ c_ b_ S0_ hcv_ hb_ hd_ hc_ h1_ h2_ h3_ his_ hcs_ hw_ _).1 (S0_.2.2.1 55 (0 + ll_) a2_.toNat) (S0_.2.2.1 57 (0 + ll_) a2_.toNat) 0 S0_ hI_ hF_ ⟨?_, ?_, ?_, ?_, trivial⟩ (Nat.lt_succ_self _)
  · omega
  · rfl
  · (intro _ j_ hj_; exfalso; omega)
  · rfl
/-! Mapper.tryCut -/
def vw_107n : sx_Wl := ([], [61, 62, 63, 64], [])
def vq_107n (a1_ : Int) (a2_ : Int) (a3_ : Int) (dd_ : Nat) (ll_ : Nat) (c_ : List Nat) (b0_ : Int × Int × Int × (Nat → Int)) (b1_ : Int × Int × Int × (Nat → Int)) (S0_ : sm_S) (u_ : Option sm_V) (S1_ : sm_S) : Prop := u_ = none ∧ gi S1_ ∧ ai_fr (sx_W vw_107n) S0_ S1_ ∧ ((wo3 (1 + S0_.1 3 dd_ 1 + S0_.1 3 dd_ 2) a1_ ll_ S1_ (2 * a1_).toNat ∧ wo3 (1 + S0_.1 3 dd_ 1 + S0_.1 3 dd_ 2) a1_ ll_ S1_ (2 * a1_ + 1).toNat ∧ wfn a1_.toNat S0_ S1_) ∧ wrc ll_ S1_ (2 * a1_).toNat (cfo (wvs adc (pcc (1 + S0_.1 3 dd_ 1 + S0_.1 3 dd_ 2) ll_ S0_) (fun v_ => decide (S0_.2.2.1 69 0 (48 * a2_.toNat + v_) = S0_.2.2.1 67 0 a3_.toNat)) (S0_.2.2.1 57 (0 + ll_) a2_.toNat) a2_.toNat c_ (S0_.2.2.1 55 (0 + ll_) a2_.toNat).toNat) (wic (S0_.2.2.1 55 (0 + ll_) a2_.toNat).toNat) b0_) ∧ wrc ll_ S1_ (2 * a1_ + 1).toNat (cfo (wvs adc (pcc (1 + S0_.1 3 dd_ 1 + S0_.1 3 dd_ 2) ll_ S0_) (fun v_ => decide (S0_.2.2.1 69 0 (48 * a2_.toNat + v_) = i_xor (S0_.2.2.1 67 0 a3_.toNat) (if (S0_.2.2.1 55 (0 + ll_) a2_.toNat) = 2 then 15 else 255))) (S0_.2.2.1 57 (0 + ll_) a2_.toNat) a2_.toNat c_ (S0_.2.2.1 55 (0 + ll_) a2_.toNat).toNat) (wic (S0_.2.2.1 55 (0 + ll_) a2_.toNat).toNat) b1_))
set_option maxHeartbeats 3000000 in
theorem vl_107n {sc_ : Nat × (Nat → Int)} (a1_ : Int) (a2_ : Int) (a3_ : Int) (dd_ : Nat) (ll_ : Nat) (c_ : List Nat) (b0_ : Int × Int × Int × (Nat → Int)) (b1_ : Int × Int × Int × (Nat → Int)) (S0_ : sm_S) (hcv_ : ∀ j_ : Nat, j_ < 3 → S0_.2.2.1 65 0 (3 * a3_.toNat + j_) = cva c_ j_) (hb0_ : wrc ll_ S0_ (2 * a1_).toNat b0_) (hb1_ : wrc ll_ S0_ (2 * a1_ + 1).toNat b1_) (hd_ : S0_.2.1 6 0 0 = some dd_) (hc_ : S0_.2.1 6 0 1 = some ll_) (h1_ : 1 ≤ a1_ ∧ a1_ ≤ 1012) (h2_ : 0 ≤ a2_ ∧ a2_ ≤ 11) (h3_ : 0 ≤ a3_ ∧ a3_ < S0_.1 6 0 11) (his_ : (S0_.2.2.1 55 (0 + ll_) a2_.toNat) = 2 ∨ ((S0_.2.2.1 55 (0 + ll_) a2_.toNat) = 3 ∧ S0_.2.2.1 65 0 (3 * a3_ + 2).toNat ≠ -1)) (hcs_ : mcs (npd a1_ (S0_.2.2.1 59 0)) S0_) (hw0_ : wo3 (1 + S0_.1 3 dd_ 1 + S0_.1 3 dd_ 2) a1_ ll_ S0_ (2 * a1_).toNat) (hw1_ : wo3 (1 + S0_.1 3 dd_ 1 + S0_.1 3 dd_ 2) a1_ ll_ S0_ (2 * a1_ + 1).toNat) : ∀ nn_ : Nat, (∀ (is_ : Int) (mk_ : Int) (ct : Int) (vw_ : Int) (S_ : sm_S), gi S_ → ai_fr (sx_W vw_107n) S0_ S_ → ((is_ = (S0_.2.2.1 55 (0 + ll_) a2_.toNat) ∧ 0 ≤ vw_ ∧ vw_ ≤ 48 ∧ ((is_ = 2 ∧ ct = 8) ∨ (is_ = 3 ∧ ct = 48))) ∧ (wo3 (1 + S0_.1 3 dd_ 1 + S0_.1 3 dd_ 2) a1_ ll_ S_ (2 * a1_).toNat) ∧ (wo3 (1 + S0_.1 3 dd_ 1 + S0_.1 3 dd_ 2) a1_ ll_ S_ (2 * a1_ + 1).toNat) ∧ (wrc ll_ S_ (2 * a1_).toNat (cfo (wvs adc (pcc (1 + S0_.1 3 dd_ 1 + S0_.1 3 dd_ 2) ll_ S0_) (fun v_ => decide (S0_.2.2.1 69 0 (48 * a2_.toNat + v_) = S0_.2.2.1 67 0 a3_.toNat)) (S0_.2.2.1 57 (0 + ll_) a2_.toNat) a2_.toNat c_ (S0_.2.2.1 55 (0 + ll_) a2_.toNat).toNat) (vw_.toNat) b0_)) ∧ (wrc ll_ S_ (2 * a1_ + 1).toNat (cfo (wvs adc (pcc (1 + S0_.1 3 dd_ 1 + S0_.1 3 dd_ 2) ll_ S0_) (fun v_ => decide (S0_.2.2.1 69 0 (48 * a2_.toNat + v_) = i_xor (S0_.2.2.1 67 0 a3_.toNat) (if (S0_.2.2.1 55 (0 + ll_) a2_.toNat) = 2 then 15 else 255))) (S0_.2.2.1 57 (0 + ll_) a2_.toNat) a2_.toNat c_ (S0_.2.2.1 55 (0 + ll_) a2_.toNat).toNat) (vw_.toNat) b1_)) ∧ (mk_ = if (S0_.2.2.1 55 (0 + ll_) a2_.toNat) = 2 then 15 else 255) ∧ (vw_ ≤ ct) ∧ (wfn a1_.toNat S0_ S_) ∧ True) → ((2 * (100 - vw_) + 1).toNat) < nn_ → sm_T (mt_P sc_) 3 107 (47, [some (.inr (.inr (some (6, 0)))), some (.inl a1_), some (.inl a2_), some (.inl a3_), some (.inl is_), some (.inl mk_), some (.inl ct), some (.inl vw_), none], [], S_) (fun ro9_ => ∃ u_ S1_, ro9_ = (.inl u_, S1_, 0) ∧ vq_107n a1_ a2_ a3_ dd_ ll_ c_ b0_ b1_ S0_ u_ S1_)) ∧ (∀ (is_ : Int) (mk_ : Int) (ct : Int) (vw_ : Int) (tb_ : Int) (S_ : sm_S), gi S_ → ai_fr (sx_W vw_107n) S0_ S_ → ((is_ = (S0_.2.2.1 55 (0 + ll_) a2_.toNat) ∧ 0 ≤ vw_ ∧ vw_ < 48 ∧ vw_ < ct ∧ ((is_ = 2 ∧ ct = 8) ∨ (is_ = 3 ∧ ct = 48))) ∧ (wo3 (1 + S0_.1 3 dd_ 1 + S0_.1 3 dd_ 2) a1_ ll_ S_ (2 * a1_).toNat) ∧ (wo3 (1 + S0_.1 3 dd_ 1 + S0_.1 3 dd_ 2) a1_ ll_ S_ (2 * a1_ + 1).toNat) ∧ (wrc ll_ S_ (2 * a1_).toNat (cfo (wvs adc (pcc (1 + S0_.1 3 dd_ 1 + S0_.1 3 dd_ 2) ll_ S0_) (fun v_ => decide (S0_.2.2.1 69 0 (48 * a2_.toNat + v_) = S0_.2.2.1 67 0 a3_.toNat)) (S0_.2.2.1 57 (0 + ll_) a2_.toNat) a2_.toNat c_ (S0_.2.2.1 55 (0 + ll_) a2_.toNat).toNat) (vw_.toNat + 1) b0_)) ∧ (wrc ll_ S_ (2 * a1_ + 1).toNat (cfo (wvs adc (pcc (1 + S0_.1 3 dd_ 1 + S0_.1 3 dd_ 2) ll_ S0_) (fun v_ => decide (S0_.2.2.1 69 0 (48 * a2_.toNat + v_) = i_xor (S0_.2.2.1 67 0 a3_.toNat) (if (S0_.2.2.1 55 (0 + ll_) a2_.toNat) = 2 then 15 else 255))) (S0_.2.2.1 57 (0 + ll_) a2_.toNat) a2_.toNat c_ (S0_.2.2.1 55 (0 + ll_) a2_.toNat).toNat) (vw_.toNat) b1_)) ∧ (mk_ = if (S0_.2.2.1 55 (0 + ll_) a2_.toNat) = 2 then 15 else 255) ∧ (vw_ < ct) ∧ (tb_ = S0_.2.2.1 69 0 (48 * a2_.toNat + vw_.toNat)) ∧ (wfn a1_.toNat S0_ S_) ∧ True) → ((2 * (100 - vw_)).toNat) < nn_ → sm_T (mt_P sc_) 3 107 (90, [some (.inr (.inr (some (6, 0)))), some (.inl a1_), some (.inl a2_), some (.inl a3_), some (.inl is_), some (.inl mk_), some (.inl ct), some (.inl vw_), some (.inl tb_)], [], S_) (fun ro9_ => ∃ u_ S1_, ro9_ = (.inl u_, S1_, 0) ∧ vq_107n a1_ a2_ a3_ dd_ ll_ c_ b0_ b1_ S0_ u_ S1_)) := by
  intro nn_
  induction nn_ with
  | zero => exact ⟨fun _ _ _ _ _ _ _ _ h_ => absurd h_ (Nat.not_lt_zero _), fun _ _ _ _ _ _ _ _ _ h_ => absurd h_ (Nat.not_lt_zero _)⟩
  | succ nn_ ih_ =>
    refine ⟨?_, ?_⟩
    · rintro is_ mk_ ct vw_ S_ hI_ hF_ ⟨h0_, hv0_, hv1_, hr0_, hr1_, hmk_, hvc_, hf_, -⟩ hm_
      have f57_ : S_.2.2.1 57 (0 + ll_) = S0_.2.2.1 57 (0 + ll_) := fr_arr hF_ rfl
      have f67_ : S_.2.2.1 67 0 = S0_.2.2.1 67 0 := fr_arr hF_ rfl
      have f69_ : S_.2.2.1 69 0 = S0_.2.2.1 69 0 := fr_arr hF_ rfl
      have f55_ : S_.2.2.1 55 (0 + ll_) = S0_.2.2.1 55 (0 + ll_) := fr_arr hF_ rfl
      have f65_ : S_.2.2.1 65 0 = S0_.2.2.1 65 0 := fr_arr hF_ rfl
      have f59_ : S_.2.2.1 59 0 = S0_.2.2.1 59 0 := fr_arr hF_ rfl
      have f60_ : S_.2.2.1 60 0 = S0_.2.2.1 60 0 := fr_arr hF_ rfl
      have f1_ : S_.1 3 dd_ 1 = S0_.1 3 dd_ 1 := hF_.1 3 dd_ 1 rfl
      have f2_ : S_.1 3 dd_ 2 = S0_.1 3 dd_ 2 := hF_.1 3 dd_ 2 rfl
      have f5_ : S_.1 5 ll_ 2 = S0_.1 5 ll_ 2 := hF_.1 5 ll_ 2 rfl
      have ek_ : S_.1 6 0 11 = S0_.1 6 0 11 := hF_.1 6 0 11 rfl
      have ck_ : 0 ≤ S_.1 6 0 11 ∧ S_.1 6 0 11 ≤ 1024 := hI_.1 6 0 11 rfl
      refine sm_T_go 2 (c1 := (51, [some (.inr (.inr (some (6, 0)))), some (.inl a1_), some (.inl a2_), some (.inl a3_), some (.inl is_), some (.inl mk_), some (.inl ct), some (.inl vw_), none], [.inl ct, .inl vw_], S_)) rfl ?_
      refine sm_T_br (a := 3) (z := 72) rfl (fun cx1_ => ?_) (fun cx1_ => ?_)
      · have cx1_ : ct ≤ vw_ := of_decide_eq_true cx1_
        refine sm_T_rv rfl ⟨_, _, rfl, rfl, hI_, hF_, ?_⟩
        rw [show wic (S0_.2.2.1 55 (0 + ll_) a2_.toNat).toNat = vw_.toNat by (unfold wic; by_cases w9_ : (S0_.2.2.1 55 (0 + ll_) a2_.toNat).toNat = 2; (rw [if_pos w9_]; omega); (rw [if_neg w9_]; omega))]
        exact ⟨⟨hv0_, hv1_, hf_⟩, hr0_, hr1_⟩
      · have cx1_ : ¬ (ct ≤ vw_) := of_decide_eq_false cx1_
        refine sm_T_go 4 (c1 := (61, [some (.inr (.inr (some (6, 0)))), some (.inl a1_), some (.inl a2_), some (.inl a3_), some (.inl is_), some (.inl mk_), some (.inl ct), some (.inl vw_), none], [.inl 48, .inl a2_, .inr (.inr (some (69, 0)))], S_)) rfl ?_
        refine sm_T_bin (w := 48 * a2_) rfl (bi_mul (by omega) (by omega) (by omega)) ?_ -- pc_ 61
        refine sm_T_go 1 (c1 := (64, [some (.inr (.inr (some (6, 0)))), some (.inl a1_), some (.inl a2_), some (.inl a3_), some (.inl is_), some (.inl mk_), some (.inl ct), some (.inl vw_), none], [.inl vw_, .inl (48 * a2_), .inr (.inr (some (69, 0)))], S_)) rfl ?_
        refine sm_T_bin (w := 48 * a2_ + vw_) rfl (bi_add (by omega) (by omega) (by omega)) ?_ -- pc_ 64
        refine sm_T_iald (n := 576) rfl rfl (by omega) (by omega) ?_
        have bx2_ : 0 ≤ S_.2.2.1 69 0 (48 * a2_ + vw_).toNat ∧ S_.2.2.1 69 0 (48 * a2_ + vw_).toNat ≤ 255 := hI_.2 69 0 _
        refine sm_T_go 5 (c1 := (75, [some (.inr (.inr (some (6, 0)))), some (.inl a1_), some (.inl a2_), some (.inl a3_), some (.inl is_), some (.inl mk_), some (.inl ct), some (.inl vw_), some (.inl (S_.2.2.1 69 0 (48 * a2_ + vw_).toNat))], [.inl a3_, .inr (.inr (some (67, 0))), .inl (S_.2.2.1 69 0 (48 * a2_ + vw_).toNat)], S_)) rfl ?_
        refine sm_T_iald (n := 1024) rfl rfl (by omega) (by omega) ?_
        have bx3_ : 0 ≤ S_.2.2.1 67 0 a3_.toNat ∧ S_.2.2.1 67 0 a3_.toNat ≤ 255 := hI_.2 67 0 _
        refine sm_T_br (a := 1) (z := 14) rfl (fun cx4_ => ?_) (fun cx4_ => ?_)
        · have cx4_ : (S_.2.2.1 69 0 (48 * a2_ + vw_).toNat) ≠ (S_.2.2.1 67 0 a3_.toNat) := of_decide_eq_true cx4_
          refine sm_T_go 0 (c1 := (90, [some (.inr (.inr (some (6, 0)))), some (.inl a1_), some (.inl a2_), some (.inl a3_), some (.inl is_), some (.inl mk_), some (.inl ct), some (.inl vw_), some (.inl (S_.2.2.1 69 0 (48 * a2_ + vw_).toNat))], [], S_)) rfl ?_
          refine ih_.2 is_ mk_ ct vw_ (S_.2.2.1 69 0 (48 * a2_ + vw_).toNat) S_ hI_ hF_ ⟨?_, ?_, ?_, ?_, ?_, ?_, ?_, ?_, ?_, trivial⟩ ?_
          · omega
          · first | exact hv0_ | exact o87_
          · first | exact hv1_ | exact x87_
          · have d9_ : S_.2.2.1 69 0 (48 * a2_ + vw_).toNat = S0_.2.2.1 69 0 (48 * a2_.toNat + vw_.toNat) := by (rw [f69_, show (48 * a2_ + vw_).toNat = 48 * a2_.toNat + vw_.toNat by omega])
            have e9_ : S_.2.2.1 67 0 a3_.toNat = S0_.2.2.1 67 0 a3_.toNat := by rw [f67_]
            rw [cfo_s]
            first | (have y8_ := r87_; have h9_ : (fun v_ => decide (S0_.2.2.1 69 0 (48 * a2_.toNat + v_) = S0_.2.2.1 67 0 a3_.toNat)) vw_.toNat = true := decide_eq_true (show S0_.2.2.1 69 0 (48 * a2_.toNat + vw_.toNat) = S0_.2.2.1 67 0 a3_.toNat by omega); rw [wvs_h h9_, show ((a2_.toNat : Nat) : Int) = a2_ by omega]; exact r87_) | (have h9_ : ¬ ((fun v_ => decide (S0_.2.2.1 69 0 (48 * a2_.toNat + v_) = S0_.2.2.1 67 0 a3_.toNat)) vw_.toNat = true) := fun u9_ => absurd (of_decide_eq_true u9_) (show ¬ (S0_.2.2.1 69 0 (48 * a2_.toNat + vw_.toNat) = S0_.2.2.1 67 0 a3_.toNat) by omega); rw [wvs_n h9_]; exact hr0_)
          · first | (have y8_ := r87_; exact q87_) | exact hr1_
          · exact hmk_
          · omega
          · (rw [f69_, show (48 * a2_ + vw_).toNat = 48 * a2_.toNat + vw_.toNat by omega])
          · first | exact hf_ | exact wfn_tr hf_ (wfn_l w87_ (by omega))
          · omega
        · have cx4_ : ¬ ((S_.2.2.1 69 0 (48 * a2_ + vw_).toNat) ≠ (S_.2.2.1 67 0 a3_.toNat)) := of_decide_eq_false cx4_
          refine sm_T_go 3 (c1 := (82, [some (.inr (.inr (some (6, 0)))), some (.inl a1_), some (.inl a2_), some (.inl a3_), some (.inl is_), some (.inl mk_), some (.inl ct), some (.inl vw_), some (.inl (S_.2.2.1 69 0 (48 * a2_ + vw_).toNat))], [.inl a1_, .inl 2, .inr (.inr (some (6, 0)))], S_)) rfl ?_
          refine sm_T_bin (w := 2 * a1_) rfl (bi_mul (by omega) (by omega) (by omega)) ?_ -- pc_ 82
          refine sm_T_go 3 (c1 := (87, [some (.inr (.inr (some (6, 0)))), some (.inl a1_), some (.inl a2_), some (.inl a3_), some (.inl is_), some (.inl mk_), some (.inl ct), some (.inl vw_), some (.inl (S_.2.2.1 69 0 (48 * a2_ + vw_).toNat))], [.inl vw_, .inl a3_, .inl a2_, .inl (2 * a1_), .inr (.inr (some (6, 0)))], S_)) rfl ?_
          refine sm_T_cal (d1 := 2) (Q1 := vq_108n (2 * a1_) a2_ a3_ vw_ dd_ ll_ a1_ c_ (cfo (wvs adc (pcc (1 + S0_.1 3 dd_ 1 + S0_.1 3 dd_ 2) ll_ S0_) (fun v_ => decide (S0_.2.2.1 69 0 (48 * a2_.toNat + v_) = S0_.2.2.1 67 0 a3_.toNat)) (S0_.2.2.1 57 (0 + ll_) a2_.toNat) a2_.toNat c_ (S0_.2.2.1 55 (0 + ll_) a2_.toNat).toNat) (vw_.toNat) b0_) S_) rfl rfl (by decide) (vc_108n (2 * a1_) a2_ a3_ vw_ dd_ ll_ a1_ c_ (cfo (wvs adc (pcc (1 + S0_.1 3 dd_ 1 + S0_.1 3 dd_ 2) ll_ S0_) (fun v_ => decide (S0_.2.2.1 69 0 (48 * a2_.toNat + v_) = S0_.2.2.1 67 0 a3_.toNat)) (S0_.2.2.1 57 (0 + ll_) a2_.toNat) a2_.toNat c_ (S0_.2.2.1 55 (0 + ll_) a2_.toNat).toNat) (vw_.toNat) b0_) S_ hI_ (by (intro j9_ u9_; rw [fr_arr (t := 65) (i := 0) hF_ rfl]; exact hcv_ j9_ u9_)) (by exact hr0_) (by exact (hF_.2.1 6 0 0 rfl).trans hd_) (by exact (hF_.2.1 6 0 1 rfl).trans hc_) (by omega) (by omega) (by (first | omega | (rw [hF_.1 6 0 11 rfl]; omega))) (by (rw [fr_arr (t := 55) (i := 0 + ll_) hF_ rfl, fr_arr (t := 65) (i := 0) hF_ rfl]; rcases his_ with w9_ | w9_; (left; omega); (right; exact ⟨w9_.1, by omega, by omega, w9_.2⟩))) (by (rw [fr_arr (t := 59) (i := 0) hF_ rfl]; exact mcs_fr hcs_ hF_)) (by (rw [hF_.1 3 dd_ 1 rfl, hF_.1 3 dd_ 2 rfl]; exact hv0_))) (fun u_ Sx5_ px8_ => ?_)
          obtain ⟨rfl, hIx6_, hFx7_, px8_⟩ := px8_
          have hFx9_ : ai_fr (sx_W vw_107n) S0_ Sx5_ := ai_fr_tr hF_ (fr_le hFx7_ rfl)
          have o87_ : wo3 (1 + S0_.1 3 dd_ 1 + S0_.1 3 dd_ 2) a1_ ll_ Sx5_ (2 * a1_).toNat := by (have z9_ := (px8_).1.1; rw [f1_, f2_] at z9_; exact z9_)
          have w87_ := (px8_).1.2
          have c87_ : cco adc (pcc (1 + S0_.1 3 dd_ 1 + S0_.1 3 dd_ 2) ll_ S_) (S0_.2.2.1 57 (0 + ll_) a2_.toNat) c_ (S0_.2.2.1 55 (0 + ll_) a2_.toNat).toNat vw_.toNat (S0_.2.2.1 55 (0 + ll_) a2_.toNat).toNat = cco adc (pcc (1 + S0_.1 3 dd_ 1 + S0_.1 3 dd_ 2) ll_ S0_) (S0_.2.2.1 57 (0 + ll_) a2_.toNat) c_ (S0_.2.2.1 55 (0 + ll_) a2_.toNat).toNat vw_.toNat (S0_.2.2.1 55 (0 + ll_) a2_.toNat).toNat := cco_cg _ (fun k9_ u9_ => by (have z9_ := cdn_e (V_ := S0_.2.2.1 65 0) (k_ := (k9_ : Int)) (v_ := vw_) (p_ := plo (S0_.2.2.1 55 (0 + ll_) a2_.toNat) (i_shr vw_ (S0_.2.2.1 55 (0 + ll_) a2_.toNat)) (k9_ : Int)) hcv_ h3_.1 (by omega) (by omega) rfl (by (have y9_ := vor (v_ := vw_) (e_ := (S0_.2.2.1 55 (0 + ll_) a2_.toNat)) (by omega) (by omega); have w9_ := plo_i (ip_ := (S0_.2.2.1 55 (0 + ll_) a2_.toNat)) (o_ := i_shr vw_ (S0_.2.2.1 55 (0 + ll_) a2_.toNat)) (k_ := (k9_ : Int)) (by omega); have u8_ := iat_b (sz_ := (S0_.2.2.1 55 (0 + ll_) a2_.toNat)) (o_ := i_shr vw_ (S0_.2.2.1 55 (0 + ll_) a2_.toNat)) (k_ := (k9_ : Int)) (by omega) (by omega) (by omega); rw [w9_]; omega)); rw [Int.toNat_natCast] at z9_; have y9_ := vor (v_ := vw_) (e_ := (S0_.2.2.1 55 (0 + ll_) a2_.toNat)) (by omega) (by omega); have w9_ := plo_i (ip_ := (S0_.2.2.1 55 (0 + ll_) a2_.toNat)) (o_ := i_shr vw_ (S0_.2.2.1 55 (0 + ll_) a2_.toNat)) (k_ := (k9_ : Int)) (by omega); have u8_ := iat_b (sz_ := (S0_.2.2.1 55 (0 + ll_) a2_.toNat)) (o_ := i_shr vw_ (S0_.2.2.1 55 (0 + ll_) a2_.toNat)) (k_ := (k9_ : Int)) (by omega) (by omega) (by omega); have nx9_ : npd a1_ (S0_.2.2.1 59 0) (S0_.2.2.1 65 0 (3 * a3_ + plo (S0_.2.2.1 55 (0 + ll_) a2_.toNat) (i_shr vw_ (S0_.2.2.1 55 (0 + ll_) a2_.toNat)) (k9_ : Int)).toNat) := mcs_b hcs_ h3_ (by (rw [w9_]; omega)) (fun q9_ => by rcases his_ with x9_ | x9_; (exfalso; rw [w9_] at q9_; omega); exact x9_.2); rw [z9_]; exact pcc_cg (n_ := a1_) ⟨by have := nx9_.1; omega, nx9_.2.1⟩ (by omega) f60_ (fun j9_ v9_ => (hf_.1 j9_ (by omega) (by omega)).1) f5_ f57_))
          have r87_ := (px8_).2
          rw [f55_, f57_, f1_, f2_, c87_] at r87_
          have q87_ : wrc ll_ Sx5_ (2 * a1_ + 1).toNat (cfo (wvs adc (pcc (1 + S0_.1 3 dd_ 1 + S0_.1 3 dd_ 2) ll_ S0_) (fun v_ => decide (S0_.2.2.1 69 0 (48 * a2_.toNat + v_) = i_xor (S0_.2.2.1 67 0 a3_.toNat) (if (S0_.2.2.1 55 (0 + ll_) a2_.toNat) = 2 then 15 else 255))) (S0_.2.2.1 57 (0 + ll_) a2_.toNat) a2_.toNat c_ (S0_.2.2.1 55 (0 + ll_) a2_.toNat).toNat) (vw_.toNat) b1_) := wrc_f hr1_ w87_ (by omega) (fr_arr hFx7_ rfl) (fun k9_ => (hI_.2 55 (0 + ll_) k9_).2)
          have x87_ : wo3 (1 + S0_.1 3 dd_ 1 + S0_.1 3 dd_ 2) a1_ ll_ Sx5_ (2 * a1_ + 1).toNat := wo3_cg hv1_ w87_ (by omega) (by omega) (hFx7_.1 5 ll_ 2 rfl) (fr_arr hFx7_ rfl) (fr_arr hFx7_ rfl) (fr_arr hFx7_ rfl) (fun k9_ => (hI_.2 55 (0 + ll_) k9_).2)
          refine sm_T_go 0 (c1 := (90, [some (.inr (.inr (some (6, 0)))), some (.inl a1_), some (.inl a2_), some (.inl a3_), some (.inl is_), some (.inl mk_), some (.inl ct), some (.inl vw_), some (.inl (S_.2.2.1 69 0 (48 * a2_ + vw_).toNat))], [], Sx5_)) rfl ?_
          refine ih_.2 is_ mk_ ct vw_ (S_.2.2.1 69 0 (48 * a2_ + vw_).toNat) Sx5_ hIx6_ hFx9_ ⟨?_, ?_, ?_, ?_, ?_, ?_, ?_, ?_, ?_, trivial⟩ ?_
          · omega
          · first | exact hv0_ | exact o87_
          · first | exact hv1_ | exact x87_
          · have d9_ : S_.2.2.1 69 0 (48 * a2_ + vw_).toNat = S0_.2.2.1 69 0 (48 * a2_.toNat + vw_.toNat) := by (rw [f69_, show (48 * a2_ + vw_).toNat = 48 * a2_.toNat + vw_.toNat by omega])
            have e9_ : S_.2.2.1 67 0 a3_.toNat = S0_.2.2.1 67 0 a3_.toNat := by rw [f67_]
            rw [cfo_s]
            first | (have y8_ := r87_; have h9_ : (fun v_ => decide (S0_.2.2.1 69 0 (48 * a2_.toNat + v_) = S0_.2.2.1 67 0 a3_.toNat)) vw_.toNat = true := decide_eq_true (show S0_.2.2.1 69 0 (48 * a2_.toNat + vw_.toNat) = S0_.2.2.1 67 0 a3_.toNat by omega); rw [wvs_h h9_, show ((a2_.toNat : Nat) : Int) = a2_ by omega]; exact r87_) | (have h9_ : ¬ ((fun v_ => decide (S0_.2.2.1 69 0 (48 * a2_.toNat + v_) = S0_.2.2.1 67 0 a3_.toNat)) vw_.toNat = true) := fun u9_ => absurd (of_decide_eq_true u9_) (show ¬ (S0_.2.2.1 69 0 (48 * a2_.toNat + vw_.toNat) = S0_.2.2.1 67 0 a3_.toNat) by omega); rw [wvs_n h9_]; exact hr0_)
          · first | (have y8_ := r87_; exact q87_) | exact hr1_
          · exact hmk_
          · omega
          · (rw [f69_, show (48 * a2_ + vw_).toNat = 48 * a2_.toNat + vw_.toNat by omega])
          · first | exact hf_ | exact wfn_tr hf_ (wfn_l w87_ (by omega))
          · omega
    · rintro is_ mk_ ct vw_ tb_ S_ hI_ hF_ ⟨h0_, hv0_, hv1_, hr0_, hr1_, hmk_, hvc_, htb_, hf_, -⟩ hm_
      have f57_ : S_.2.2.1 57 (0 + ll_) = S0_.2.2.1 57 (0 + ll_) := fr_arr hF_ rfl
      have f67_ : S_.2.2.1 67 0 = S0_.2.2.1 67 0 := fr_arr hF_ rfl
      have f69_ : S_.2.2.1 69 0 = S0_.2.2.1 69 0 := fr_arr hF_ rfl
      have f55_ : S_.2.2.1 55 (0 + ll_) = S0_.2.2.1 55 (0 + ll_) := fr_arr hF_ rfl
      have f65_ : S_.2.2.1 65 0 = S0_.2.2.1 65 0 := fr_arr hF_ rfl
      have f59_ : S_.2.2.1 59 0 = S0_.2.2.1 59 0 := fr_arr hF_ rfl
      have f60_ : S_.2.2.1 60 0 = S0_.2.2.1 60 0 := fr_arr hF_ rfl
      have f1_ : S_.1 3 dd_ 1 = S0_.1 3 dd_ 1 := hF_.1 3 dd_ 1 rfl
      have f2_ : S_.1 3 dd_ 2 = S0_.1 3 dd_ 2 := hF_.1 3 dd_ 2 rfl
      have f5_ : S_.1 5 ll_ 2 = S0_.1 5 ll_ 2 := hF_.1 5 ll_ 2 rfl
      have ek_ : S_.1 6 0 11 = S0_.1 6 0 11 := hF_.1 6 0 11 rfl
      have ck_ : 0 ≤ S_.1 6 0 11 ∧ S_.1 6 0 11 ≤ 1024 := hI_.1 6 0 11 rfl
      refine sm_T_go 4 (c1 := (97, [some (.inr (.inr (some (6, 0)))), some (.inl a1_), some (.inl a2_), some (.inl a3_), some (.inl is_), some (.inl mk_), some (.inl ct), some (.inl vw_), some (.inl tb_)], [.inl a3_, .inr (.inr (some (67, 0))), .inl tb_], S_)) rfl ?_
      refine sm_T_iald (n := 1024) rfl rfl (by omega) (by omega) ?_
      have bx1_ : 0 ≤ S_.2.2.1 67 0 a3_.toNat ∧ S_.2.2.1 67 0 a3_.toNat ≤ 255 := hI_.2 67 0 _
      refine sm_T_go 1 (c1 := (100, [some (.inr (.inr (some (6, 0)))), some (.inl a1_), some (.inl a2_), some (.inl a3_), some (.inl is_), some (.inl mk_), some (.inl ct), some (.inl vw_), some (.inl tb_)], [.inl mk_, .inl (S_.2.2.1 67 0 a3_.toNat), .inl tb_], S_)) rfl ?_
      refine sm_T_bin (w := (i_xor (S_.2.2.1 67 0 a3_.toNat) mk_)) rfl rfl ?_ -- pc_ 100
      first | have bx2_ := i_xrp (x_ := (S_.2.2.1 67 0 a3_.toNat)) (y_ := mk_) (k_ := 1) (by decide) (by omega) (by omega) | have bx2_ := i_xrp (x_ := (S_.2.2.1 67 0 a3_.toNat)) (y_ := mk_) (k_ := 3) (by decide) (by omega) (by omega) | have bx2_ := i_xrp (x_ := (S_.2.2.1 67 0 a3_.toNat)) (y_ := mk_) (k_ := 4) (by decide) (by omega) (by omega) | have bx2_ := i_xrp (x_ := (S_.2.2.1 67 0 a3_.toNat)) (y_ := mk_) (k_ := 6) (by decide) (by omega) (by omega) | have bx2_ := i_xrp (x_ := (S_.2.2.1 67 0 a3_.toNat)) (y_ := mk_) (k_ := 8) (by decide) (by omega) (by omega) | have bx2_ := i_xrp (x_ := (S_.2.2.1 67 0 a3_.toNat)) (y_ := mk_) (k_ := 11) (by decide) (by omega) (by omega) | have bx2_ := i_xrp (x_ := (S_.2.2.1 67 0 a3_.toNat)) (y_ := mk_) (k_ := 12) (by decide) (by omega) (by omega) | have bx2_ := i_xrp (x_ := (S_.2.2.1 67 0 a3_.toNat)) (y_ := mk_) (k_ := 16) (by decide) (by omega) (by omega) | have bx2_ := i_xrp (x_ := (S_.2.2.1 67 0 a3_.toNat)) (y_ := mk_) (k_ := 22) (by decide) (by omega) (by omega) | have bx2_ := i_xrp (x_ := (S_.2.2.1 67 0 a3_.toNat)) (y_ := mk_) (k_ := 31) (by decide) (by omega) (by omega) | have bx2_ := i_xor_n (S_.2.2.1 67 0 a3_.toNat) mk_
      refine sm_T_br (a := 1) (z := 16) rfl (fun cx3_ => ?_) (fun cx3_ => ?_)
      · have cx3_ : tb_ ≠ (i_xor (S_.2.2.1 67 0 a3_.toNat) mk_) := of_decide_eq_true cx3_
        refine sm_T_inc (a := 7) (z := 1) (v := vw_) (w := vw_ + 1) rfl rfl (by omega) (by omega) (by omega) ?_ -- pc_ 117
        refine sm_T_go 1 (c1 := (47, [some (.inr (.inr (some (6, 0)))), some (.inl a1_), some (.inl a2_), some (.inl a3_), some (.inl is_), some (.inl mk_), some (.inl ct), some (.inl (vw_ + 1)), some (.inl tb_)], [], S_)) rfl ?_
        refine sm_T_wk [some (.inr (.inr (some (6, 0)))), some (.inl a1_), some (.inl a2_), some (.inl a3_), some (.inl is_), some (.inl mk_), some (.inl ct), some (.inl (vw_ + 1)), none] (by exact ⟨rfl, rfl, rfl, rfl, rfl, rfl, rfl, rfl, trivial⟩) ?_
        refine ih_.1 is_ mk_ ct (vw_ + 1) S_ hI_ hF_ ⟨?_, ?_, ?_, ?_, ?_, ?_, ?_, ?_, trivial⟩ ?_
        · omega
        · first | exact hv0_ | exact x114_
        · first | exact hv1_ | exact o114_
        · (rw [show (vw_ + 1).toNat = vw_.toNat + 1 by omega]; first | (have y8_ := r114_; exact q114_) | exact hr0_)
        · have e9_ : S_.2.2.1 67 0 a3_.toNat = S0_.2.2.1 67 0 a3_.toNat := by rw [f67_]
          rw [show (vw_ + 1).toNat = vw_.toNat + 1 by omega, cfo_s]
          rw [e9_, htb_, hmk_] at cx3_
          first | (have y8_ := r114_; have h9_ : (fun v_ => decide (S0_.2.2.1 69 0 (48 * a2_.toNat + v_) = i_xor (S0_.2.2.1 67 0 a3_.toNat) (if (S0_.2.2.1 55 (0 + ll_) a2_.toNat) = 2 then 15 else 255))) vw_.toNat = true := decide_eq_true (Classical.byContradiction (fun u9_ => cx3_ u9_)); rw [wvs_h h9_, show ((a2_.toNat : Nat) : Int) = a2_ by omega]; exact r114_) | (have h9_ : ¬ ((fun v_ => decide (S0_.2.2.1 69 0 (48 * a2_.toNat + v_) = i_xor (S0_.2.2.1 67 0 a3_.toNat) (if (S0_.2.2.1 55 (0 + ll_) a2_.toNat) = 2 then 15 else 255))) vw_.toNat = true) := fun u9_ => cx3_ (of_decide_eq_true u9_); rw [wvs_n h9_]; exact hr1_)
        · exact hmk_
        · omega
        · first | exact hf_ | exact wfn_tr hf_ (wfn_l w114_ (by omega))
        · omega
      · have cx3_ : ¬ (tb_ ≠ (i_xor (S_.2.2.1 67 0 a3_.toNat) mk_)) := of_decide_eq_false cx3_
        refine sm_T_go 3 (c1 := (107, [some (.inr (.inr (some (6, 0)))), some (.inl a1_), some (.inl a2_), some (.inl a3_), some (.inl is_), some (.inl mk_), some (.inl ct), some (.inl vw_), some (.inl tb_)], [.inl a1_, .inl 2, .inr (.inr (some (6, 0)))], S_)) rfl ?_
        refine sm_T_bin (w := 2 * a1_) rfl (bi_mul (by omega) (by omega) (by omega)) ?_ -- pc_ 107
        refine sm_T_go 1 (c1 := (109, [some (.inr (.inr (some (6, 0)))), some (.inl a1_), some (.inl a2_), some (.inl a3_), some (.inl is_), some (.inl mk_), some (.inl ct), some (.inl vw_), some (.inl tb_)], [.inl 1, .inl (2 * a1_), .inr (.inr (some (6, 0)))], S_)) rfl ?_
        refine sm_T_bin (w := 2 * a1_ + 1) rfl (bi_add (by omega) (by omega) (by omega)) ?_ -- pc_ 109
        refine sm_T_go 3 (c1 := (114, [some (.inr (.inr (some (6, 0)))), some (.inl a1_), some (.inl a2_), some (.inl a3_), some (.inl is_), some (.inl mk_), some (.inl ct), some (.inl vw_), some (.inl tb_)], [.inl vw_, .inl a3_, .inl a2_, .inl (2 * a1_ + 1), .inr (.inr (some (6, 0)))], S_)) rfl ?_
        refine sm_T_cal (d1 := 2) (Q1 := vq_108n (2 * a1_ + 1) a2_ a3_ vw_ dd_ ll_ a1_ c_ (cfo (wvs adc (pcc (1 + S0_.1 3 dd_ 1 + S0_.1 3 dd_ 2) ll_ S0_) (fun v_ => decide (S0_.2.2.1 69 0 (48 * a2_.toNat + v_) = i_xor (S0_.2.2.1 67 0 a3_.toNat) (if (S0_.2.2.1 55 (0 + ll_) a2_.toNat) = 2 then 15 else 255))) (S0_.2.2.1 57 (0 + ll_) a2_.toNat) a2_.toNat c_ (S0_.2.2.1 55 (0 + ll_) a2_.toNat).toNat) (vw_.toNat) b1_) S_) rfl rfl (by decide) (vc_108n (2 * a1_ + 1) a2_ a3_ vw_ dd_ ll_ a1_ c_ (cfo (wvs adc (pcc (1 + S0_.1 3 dd_ 1 + S0_.1 3 dd_ 2) ll_ S0_) (fun v_ => decide (S0_.2.2.1 69 0 (48 * a2_.toNat + v_) = i_xor (S0_.2.2.1 67 0 a3_.toNat) (if (S0_.2.2.1 55 (0 + ll_) a2_.toNat) = 2 then 15 else 255))) (S0_.2.2.1 57 (0 + ll_) a2_.toNat) a2_.toNat c_ (S0_.2.2.1 55 (0 + ll_) a2_.toNat).toNat) (vw_.toNat) b1_) S_ hI_ (by (intro j9_ u9_; rw [fr_arr (t := 65) (i := 0) hF_ rfl]; exact hcv_ j9_ u9_)) (by exact hr1_) (by exact (hF_.2.1 6 0 0 rfl).trans hd_) (by exact (hF_.2.1 6 0 1 rfl).trans hc_) (by omega) (by omega) (by (first | omega | (rw [hF_.1 6 0 11 rfl]; omega))) (by (rw [fr_arr (t := 55) (i := 0 + ll_) hF_ rfl, fr_arr (t := 65) (i := 0) hF_ rfl]; rcases his_ with w9_ | w9_; (left; omega); (right; exact ⟨w9_.1, by omega, by omega, w9_.2⟩))) (by (rw [fr_arr (t := 59) (i := 0) hF_ rfl]; exact mcs_fr hcs_ hF_)) (by (rw [hF_.1 3 dd_ 1 rfl, hF_.1 3 dd_ 2 rfl]; exact hv1_))) (fun u_ Sx4_ px7_ => ?_)
        obtain ⟨rfl, hIx5_, hFx6_, px7_⟩ := px7_
        have hFx8_ : ai_fr (sx_W vw_107n) S0_ Sx4_ := ai_fr_tr hF_ (fr_le hFx6_ rfl)
        have o114_ : wo3 (1 + S0_.1 3 dd_ 1 + S0_.1 3 dd_ 2) a1_ ll_ Sx4_ (2 * a1_ + 1).toNat := by (have z9_ := (px7_).1.1; rw [f1_, f2_] at z9_; exact z9_)
        have w114_ := (px7_).1.2
        have c114_ : cco adc (pcc (1 + S0_.1 3 dd_ 1 + S0_.1 3 dd_ 2) ll_ S_) (S0_.2.2.1 57 (0 + ll_) a2_.toNat) c_ (S0_.2.2.1 55 (0 + ll_) a2_.toNat).toNat vw_.toNat (S0_.2.2.1 55 (0 + ll_) a2_.toNat).toNat = cco adc (pcc (1 + S0_.1 3 dd_ 1 + S0_.1 3 dd_ 2) ll_ S0_) (S0_.2.2.1 57 (0 + ll_) a2_.toNat) c_ (S0_.2.2.1 55 (0 + ll_) a2_.toNat).toNat vw_.toNat (S0_.2.2.1 55 (0 + ll_) a2_.toNat).toNat := cco_cg _ (fun k9_ u9_ => by (have z9_ := cdn_e (V_ := S0_.2.2.1 65 0) (k_ := (k9_ : Int)) (v_ := vw_) (p_ := plo (S0_.2.2.1 55 (0 + ll_) a2_.toNat) (i_shr vw_ (S0_.2.2.1 55 (0 + ll_) a2_.toNat)) (k9_ : Int)) hcv_ h3_.1 (by omega) (by omega) rfl (by (have y9_ := vor (v_ := vw_) (e_ := (S0_.2.2.1 55 (0 + ll_) a2_.toNat)) (by omega) (by omega); have w9_ := plo_i (ip_ := (S0_.2.2.1 55 (0 + ll_) a2_.toNat)) (o_ := i_shr vw_ (S0_.2.2.1 55 (0 + ll_) a2_.toNat)) (k_ := (k9_ : Int)) (by omega); have u8_ := iat_b (sz_ := (S0_.2.2.1 55 (0 + ll_) a2_.toNat)) (o_ := i_shr vw_ (S0_.2.2.1 55 (0 + ll_) a2_.toNat)) (k_ := (k9_ : Int)) (by omega) (by omega) (by omega); rw [w9_]; omega)); rw [Int.toNat_natCast] at z9_; have y9_ := vor (v_ := vw_) (e_ := (S0_.2.2.1 55 (0 + ll_) a2_.toNat)) (by omega) (by omega); have w9_ := plo_i (ip_ := (S0_.2.2.1 55 (0 + ll_) a2_.toNat)) (o_ := i_shr vw_ (S0_.2.2.1 55 (0 + ll_) a2_.toNat)) (k_ := (k9_ : Int)) (by omega); have u8_ := iat_b (sz_ := (S0_.2.2.1 55 (0 + ll_) a2_.toNat)) (o_ := i_shr vw_ (S0_.2.2.1 55 (0 + ll_) a2_.toNat)) (k_ := (k9_ : Int)) (by omega) (by omega) (by omega); have nx9_ : npd a1_ (S0_.2.2.1 59 0) (S0_.2.2.1 65 0 (3 * a3_ + plo (S0_.2.2.1 55 (0 + ll_) a2_.toNat) (i_shr vw_ (S0_.2.2.1 55 (0 + ll_) a2_.toNat)) (k9_ : Int)).toNat) := mcs_b hcs_ h3_ (by (rw [w9_]; omega)) (fun q9_ => by rcases his_ with x9_ | x9_; (exfalso; rw [w9_] at q9_; omega); exact x9_.2); rw [z9_]; exact pcc_cg (n_ := a1_) ⟨by have := nx9_.1; omega, nx9_.2.1⟩ (by omega) f60_ (fun j9_ v9_ => (hf_.1 j9_ (by omega) (by omega)).1) f5_ f57_))
        have r114_ := (px7_).2
        rw [f55_, f57_, f1_, f2_, c114_] at r114_
        have q114_ : wrc ll_ Sx4_ (2 * a1_).toNat (cfo (wvs adc (pcc (1 + S0_.1 3 dd_ 1 + S0_.1 3 dd_ 2) ll_ S0_) (fun v_ => decide (S0_.2.2.1 69 0 (48 * a2_.toNat + v_) = S0_.2.2.1 67 0 a3_.toNat)) (S0_.2.2.1 57 (0 + ll_) a2_.toNat) a2_.toNat c_ (S0_.2.2.1 55 (0 + ll_) a2_.toNat).toNat) (vw_.toNat + 1) b0_) := wrc_f hr0_ w114_ (by omega) (fr_arr hFx6_ rfl) (fun k9_ => (hI_.2 55 (0 + ll_) k9_).2)
        have x114_ : wo3 (1 + S0_.1 3 dd_ 1 + S0_.1 3 dd_ 2) a1_ ll_ Sx4_ (2 * a1_).toNat := wo3_cg hv0_ w114_ (by omega) (by omega) (hFx6_.1 5 ll_ 2 rfl) (fr_arr hFx6_ rfl) (fr_arr hFx6_ rfl) (fr_arr hFx6_ rfl) (fun k9_ => (hI_.2 55 (0 + ll_) k9_).2)
        refine sm_T_inc (a := 7) (z := 1) (v := vw_) (w := vw_ + 1) rfl rfl (by omega) (by omega) (by omega) ?_ -- pc_ 117
        refine sm_T_go 1 (c1 := (47, [some (.inr (.inr (some (6, 0)))), some (.inl a1_), some (.inl a2_), some (.inl a3_), some (.inl is_), some (.inl mk_), some (.inl ct), some (.inl (vw_ + 1)), some (.inl tb_)], [], Sx4_)) rfl ?_
        refine sm_T_wk [some (.inr (.inr (some (6, 0)))), some (.inl a1_), some (.inl a2_), some (.inl a3_), some (.inl is_), some (.inl mk_), some (.inl ct), some (.inl (vw_ + 1)), none] (by exact ⟨rfl, rfl, rfl, rfl, rfl, rfl, rfl, rfl, trivial⟩) ?_
        refine ih_.1 is_ mk_ ct (vw_ + 1) Sx4_ hIx5_ hFx8_ ⟨?_, ?_, ?_, ?_, ?_, ?_, ?_, ?_, trivial⟩ ?_
        · omega
        · first | exact hv0_ | exact x114_
        · first | exact hv1_ | exact o114_
        · (rw [show (vw_ + 1).toNat = vw_.toNat + 1 by omega]; first | (have y8_ := r114_; exact q114_) | exact hr0_)
        · have e9_ : S_.2.2.1 67 0 a3_.toNat = S0_.2.2.1 67 0 a3_.toNat := by rw [f67_]
          rw [show (vw_ + 1).toNat = vw_.toNat + 1 by omega, cfo_s]
          rw [e9_, htb_, hmk_] at cx3_
          first | (have y8_ := r114_; have h9_ : (fun v_ => decide (S0_.2.2.1 69 0 (48 * a2_.toNat + v_) = i_xor (S0_.2.2.1 67 0 a3_.toNat) (if (S0_.2.2.1 55 (0 + ll_) a2_.toNat) = 2 then 15 else 255))) vw_.toNat = true := decide_eq_true (Classical.byContradiction (fun u9_ => cx3_ u9_)); rw [wvs_h h9_, show ((a2_.toNat : Nat) : Int) = a2_ by omega]; exact r114_) | (have h9_ : ¬ ((fun v_ => decide (S0_.2.2.1 69 0 (48 * a2_.toNat + v_) = i_xor (S0_.2.2.1 67 0 a3_.toNat) (if (S0_.2.2.1 55 (0 + ll_) a2_.toNat) = 2 then 15 else 255))) vw_.toNat = true) := fun u9_ => cx3_ (of_decide_eq_true u9_); rw [wvs_n h9_]; exact hr1_)
        · exact hmk_
        · omega
        · first | exact hf_ | exact wfn_tr hf_ (wfn_l w114_ (by omega))
        · omega
set_option maxHeartbeats 3000000 in
theorem vc_107n {sc_ : Nat × (Nat → Int)} (a1_ : Int) (a2_ : Int) (a3_ : Int) (dd_ : Nat) (ll_ : Nat) (c_ : List Nat) (b0_ : Int × Int × Int × (Nat → Int)) (b1_ : Int × Int × Int × (Nat → Int)) (S0_ : sm_S) (hI_ : gi S0_) (hcv_ : ∀ j_ : Nat, j_ < 3 → S0_.2.2.1 65 0 (3 * a3_.toNat + j_) = cva c_ j_) (hb0_ : wrc ll_ S0_ (2 * a1_).toNat b0_) (hb1_ : wrc ll_ S0_ (2 * a1_ + 1).toNat b1_) (hd_ : S0_.2.1 6 0 0 = some dd_) (hc_ : S0_.2.1 6 0 1 = some ll_) (h1_ : 1 ≤ a1_ ∧ a1_ ≤ 1012) (h2_ : 0 ≤ a2_ ∧ a2_ ≤ 11) (h3_ : 0 ≤ a3_ ∧ a3_ < S0_.1 6 0 11) (his_ : (S0_.2.2.1 55 (0 + ll_) a2_.toNat) = 2 ∨ ((S0_.2.2.1 55 (0 + ll_) a2_.toNat) = 3 ∧ S0_.2.2.1 65 0 (3 * a3_ + 2).toNat ≠ -1)) (hcs_ : mcs (npd a1_ (S0_.2.2.1 59 0)) S0_) (hw0_ : wo3 (1 + S0_.1 3 dd_ 1 + S0_.1 3 dd_ 2) a1_ ll_ S0_ (2 * a1_).toNat) (hw1_ : wo3 (1 + S0_.1 3 dd_ 1 + S0_.1 3 dd_ 2) a1_ ll_ S0_ (2 * a1_ + 1).toNat) : sm_T (mt_P sc_) 3 107 (0, [some (.inr (.inr (some (6, 0)))), some (.inl a1_), some (.inl a2_), some (.inl a3_), none, none, none, none, none], [], S0_) (fun ro9_ => ∃ u_ S1_, ro9_ = (.inl u_, S1_, 0) ∧ vq_107n a1_ a2_ a3_ dd_ ll_ c_ b0_ b1_ S0_ u_ S1_) := by
  have hF_ : ai_fr (sx_W vw_107n) S0_ S0_ := ai_fr_rf
  have ck0_ : 0 ≤ S0_.1 6 0 11 ∧ S0_.1 6 0 11 ≤ 1024 := hI_.1 6 0 11 rfl
  refine sm_T_go 1 (c1 := (1, [some (.inr (.inr (some (6, 0)))), some (.inl a1_), some (.inl a2_), some (.inl a3_), none, none, none, none, none], [.inr (.inr (some (6, 0)))], S0_)) rfl ?_
  refine sm_T_gr rfl rfl ((hF_.2.1 6 0 1 rfl).trans hc_) ?_
  refine sm_T_go 2 (c1 := (8, [some (.inr (.inr (some (6, 0)))), some (.inl a1_), some (.inl a2_), some (.inl a3_), none, none, none, none, none], [.inl a2_, .inr (.inr (some (55, (0 + ll_))))], S0_)) rfl ?_
  refine sm_T_iald (n := 12) rfl rfl (by omega) (by omega) ?_
  have bx1_ : 0 ≤ S0_.2.2.1 55 (0 + ll_) a2_.toNat ∧ S0_.2.2.1 55 (0 + ll_) a2_.toNat ≤ 3 := hI_.2 55 (0 + ll_) _
  refine sm_T_go 3 (c1 := (14, [some (.inr (.inr (some (6, 0)))), some (.inl a1_), some (.inl a2_), some (.inl a3_), some (.inl (S0_.2.2.1 55 (0 + ll_) a2_.toNat)), none, none, none, none], [.inl 2, .inl (S0_.2.2.1 55 (0 + ll_) a2_.toNat)], S0_)) rfl ?_
  refine sm_T_br (a := 1) (z := 8) rfl (fun cx2_ => ?_) (fun cx2_ => ?_)
  · have cx2_ : (S0_.2.2.1 55 (0 + ll_) a2_.toNat) ≠ 2 := of_decide_eq_true cx2_
    refine sm_T_go 4 (c1 := (30, [some (.inr (.inr (some (6, 0)))), some (.inl a1_), some (.inl a2_), some (.inl a3_), some (.inl (S0_.2.2.1 55 (0 + ll_) a2_.toNat)), some (.inl 255), none, none, none], [.inl 2, .inl (S0_.2.2.1 55 (0 + ll_) a2_.toNat)], S0_)) rfl ?_
    refine sm_T_br (a := 1) (z := 7) rfl (fun cx3_ => ?_) (fun cx3_ => ?_)
    · have cx3_ : (S0_.2.2.1 55 (0 + ll_) a2_.toNat) ≠ 2 := of_decide_eq_true cx3_
      refine sm_T_go 2 (c1 := (41, [some (.inr (.inr (some (6, 0)))), some (.inl a1_), some (.inl a2_), some (.inl a3_), some (.inl (S0_.2.2.1 55 (0 + ll_) a2_.toNat)), some (.inl 255), none, none, none], [.inl (S0_.2.2.1 55 (0 + ll_) a2_.toNat), .inl 6], S0_)) rfl ?_
      refine sm_T_bin (w := (i_shl 6 (S0_.2.2.1 55 (0 + ll_) a2_.toNat))) rfl rfl ?_ -- pc_ 41
      have vp9_ := vpw (e_ := (S0_.2.2.1 55 (0 + ll_) a2_.toNat)) (by omega)
      refine sm_T_go 3 (c1 := (47, [some (.inr (.inr (some (6, 0)))), some (.inl a1_), some (.inl a2_), some (.inl a3_), some (.inl (S0_.2.2.1 55 (0 + ll_) a2_.toNat)), some (.inl 255), some (.inl (i_shl 6 (S0_.2.2.1 55 (0 + ll_) a2_.toNat))), some (.inl 0), none], [], S0_)) rfl ?_
      refine (vl_107n a1_ a2_ a3_ dd_ ll_ c_ b0_ b1_ S0_ hcv_ hb0_ hb1_ hd_ hc_ h1_ h2_ h3_ his_ hcs_ hw0_ hw1_ _).1 (S0_.2.2.1 55 (0 + ll_) a2_.toNat) 255 (i_shl 6 (S0_.2.2.1 55 (0 + ll_) a2_.toNat)) 0 S0_ hI_ hF_ ⟨?_, ?_, ?_, ?_, ?_, ?_, ?_, ?_, trivial⟩ (Nat.lt_succ_self _)
      · omega
      · exact hw0_
      · exact hw1_
      · exact hb0_
      · exact hb1_
      · first | (exfalso; omega) | (rw [if_pos (by omega)]) | (rw [if_neg (by omega)])
      · omega
      · exact wfn_rf
    · have cx3_ : ¬ ((S0_.2.2.1 55 (0 + ll_) a2_.toNat) ≠ 2) := of_decide_eq_false cx3_
      refine sm_T_go 3 (c1 := (41, [some (.inr (.inr (some (6, 0)))), some (.inl a1_), some (.inl a2_), some (.inl a3_), some (.inl (S0_.2.2.1 55 (0 + ll_) a2_.toNat)), some (.inl 255), none, none, none], [.inl (S0_.2.2.1 55 (0 + ll_) a2_.toNat), .inl 2], S0_)) rfl ?_
      refine sm_T_bin (w := (i_shl 2 (S0_.2.2.1 55 (0 + ll_) a2_.toNat))) rfl rfl ?_ -- pc_ 41
      have vp9_ := vpw (e_ := (S0_.2.2.1 55 (0 + ll_) a2_.toNat)) (by omega)
      refine sm_T_go 3 (c1 := (47, [some (.inr (.inr (some (6, 0)))), some (.inl a1_), some (.inl a2_), some (.inl a3_), some (.inl (S0_.2.2.1 55 (0 + ll_) a2_.toNat)), some (.inl 255), some (.inl (i_shl 2 (S0_.2.2.1 55 (0 + ll_) a2_.toNat))), some (.inl 0), none], [], S0_)) rfl ?_
      refine (vl_107n a1_ a2_ a3_ dd_ ll_ c_ b0_ b1_ S0_ hcv_ hb0_ hb1_ hd_ hc_ h1_ h2_ h3_ his_ hcs_ hw0_ hw1_ _).1 (S0_.2.2.1 55 (0 + ll_) a2_.toNat) 255 (i_shl 2 (S0_.2.2.1 55 (0 + ll_) a2_.toNat)) 0 S0_ hI_ hF_ ⟨?_, ?_, ?_, ?_, ?_, ?_, ?_, ?_, trivial⟩ (Nat.lt_succ_self _)
      · omega
      · exact hw0_
      · exact hw1_
      · exact hb0_
      · exact hb1_
      · first | (exfalso; omega) | (rw [if_pos (by omega)]) | (rw [if_neg (by omega)])
      · omega
      · exact wfn_rf
  · have cx2_ : ¬ ((S0_.2.2.1 55 (0 + ll_) a2_.toNat) ≠ 2) := of_decide_eq_false cx2_
    refine sm_T_go 5 (c1 := (30, [some (.inr (.inr (some (6, 0)))), some (.inl a1_), some (.inl a2_), some (.inl a3_), some (.inl (S0_.2.2.1 55 (0 + ll_) a2_.toNat)), some (.inl 15), none, none, none], [.inl 2, .inl (S0_.2.2.1 55 (0 + ll_) a2_.toNat)], S0_)) rfl ?_
    refine sm_T_br (a := 1) (z := 7) rfl (fun cx6_ => ?_) (fun cx6_ => ?_)
    · have cx6_ : (S0_.2.2.1 55 (0 + ll_) a2_.toNat) ≠ 2 := of_decide_eq_true cx6_
      exfalso; omega
    · have cx6_ : ¬ ((S0_.2.2.1 55 (0 + ll_) a2_.toNat) ≠ 2) := of_decide_eq_false cx6_
      refine sm_T_go 3 (c1 := (41, [some (.inr (.inr (some (6, 0)))), some (.inl a1_), some (.inl a2_), some (.inl a3_), some (.inl (S0_.2.2.1 55 (0 + ll_) a2_.toNat)), some (.inl 15), none, none, none], [.inl (S0_.2.2.1 55 (0 + ll_) a2_.toNat), .inl 2], S0_)) rfl ?_
      refine sm_T_bin (w := (i_shl 2 (S0_.2.2.1 55 (0 + ll_) a2_.toNat))) rfl rfl ?_ -- pc_ 41
      have vp9_ := vpw (e_ := (S0_.2.2.1 55 (0 + ll_) a2_.toNat)) (by omega)
      refine sm_T_go 3 (c1 := (47, [some (.inr (.inr (some (6, 0)))), some (.inl a1_), some (.inl a2_), some (.inl a3_), some (.inl (S0_.2.2.1 55 (0 + ll_) a2_.toNat)), some (.inl 15), some (.inl (i_shl 2 (S0_.2.2.1 55 (0 + ll_) a2_.toNat))), some (.inl 0), none], [], S0_)) rfl ?_
      refine (vl_107n a1_ a2_ a3_ dd_ ll_ c_ b0_ b1_ S0_ hcv_ hb0_ hb1_ hd_ hc_ h1_ h2_ h3_ his_ hcs_ hw0_ hw1_ _).1 (S0_.2.2.1 55 (0 + ll_) a2_.toNat) 15 (i_shl 2 (S0_.2.2.1 55 (0 + ll_) a2_.toNat)) 0 S0_ hI_ hF_ ⟨?_, ?_, ?_, ?_, ?_, ?_, ?_, ?_, trivial⟩ (Nat.lt_succ_self _)
      · omega
      · exact hw0_
      · exact hw1_
      · exact hb0_
      · exact hb1_
      · first | (exfalso; omega) | (rw [if_pos (by omega)]) | (rw [if_neg (by omega)])
      · omega
      · exact wfn_rf
end
/-! 99.ztZU -/
section
/-! all ways of a node: the class; written by wip/p55/gen/vg -/

/-! all_ ways of_ a_ node, the_ class -/
/-- the_ table of_ a_ cut_ -/
def tbo (cl_ ch_ : Nat → Nat) (tl_ tu_ : Nat → Int) (T_ : Nat → Prop) (n_ : Nat) (c_ : List Nat) (v_ : Int) : Prop := ∃ (B_ : Nat → Prop) (t_ : Nat → Int), B_ n_ ∧ (∀ x_, B_ x_ → T_ x_) ∧ tvf cl_ ch_ tl_ tu_ c_ B_ t_ ∧ v_ = t_ n_ % (if c_.length = 2 then 16 else 256)
/-- what a_ table has_ to_ be_, turned or not -/
def tbx (t_ : Nat) (x_ : Int) (len_ : Nat) : Int := if t_ = 0 then x_ else i_xor x_ (if len_ = 2 then 15 else 255)
def hcf (W_ : Nat → Int) (TB_ : Nat → Int) (Q_ : Nat → List Nat) (t_ cell i_ v_ : Nat) : Bool := decide (W_ (48 * cell + v_) = tbx t_ (TB_ i_) (Q_ i_).length)
theorem cbl_d {L_ : List (List Nat)} {S_ : sm_S} (h_ : cbl L_ S_) (d_ : dst L_) : cdi S_ (S_.1 6 0 11) := by
  intro i_ j_ hi_ hj_ n_
  have e_ := h_.1
  have hi_ : i_ < L_.length := by omega
  have hj_ : j_ < L_.length := by omega
  obtain ⟨c_, hc_⟩ : ∃ c_, L_[i_]? = some c_ := ⟨_, List.getElem?_eq_getElem hi_⟩
  obtain ⟨f_, hf_⟩ : ∃ f_, L_[j_]? = some f_ := ⟨_, List.getElem?_eq_getElem hj_⟩
  have ci_ := h_.2 i_ c_ hc_
  have cj_ := h_.2 j_ f_ hf_
  have ne : c_ ≠ f_ := fun u_ => d_ i_ j_ hi_ hj_ n_ (by
    rw [List.getD_eq_getElem?_getD, List.getD_eq_getElem?_getD, hc_, hf_, u_])
  obtain ⟨k_, k1_, k2_⟩ := cva_d ci_.1.1 cj_.1.1 ne
  refine ⟨k_, k1_, ?_⟩
  unfold cvs
  rw [ci_.2 k_ k1_, cj_.2 k_ k1_]
  exact k2_
theorem cor_g {V_ : Nat → Nat → Int} {O_ : List Nat} {n_ j_ : Nat} {A_ : Nat → Int} (h_ : cor V_ O_ n_ A_) (hj_ : j_ < n_) : O_[j_]? = some (O_.getD j_ 0) ∧ O_.getD j_ 0 < n_ ∧ A_ j_ = ((O_.getD j_ 0 : Nat) : Int) := by
  have l_ := h_.1
  obtain ⟨z_, hz_⟩ : ∃ z_, O_[j_]? = some z_ := ⟨_, List.getElem?_eq_getElem (by omega)⟩
  have e_ : O_.getD j_ 0 = z_ := by
    rw [List.getD_eq_getElem?_getD, hz_]
    rfl
  rw [e_]
  exact ⟨hz_, (h_.2.1 z_).mp (List.mem_of_getElem? hz_), h_.2.2.2 j_ z_ hz_⟩
theorem gd_s {L_ : List (List Nat)} {i_ : Nat} (h_ : i_ < L_.length) : L_[i_]? = some (L_.getD i_ []) := by
  rw [List.getD_eq_getElem?_getD, List.getElem?_eq_getElem h_]
  rfl
theorem lcv_cg {c_ e_ d_ f_ : Nat → Int} (h_ : lcv c_ e_) (h1_ : ∀ k_, k_ < 3 → c_ k_ = d_ k_) (h2_ : ∀ k_, k_ < 3 → e_ k_ = f_ k_) : lcv d_ f_ := by
  unfold lcv at *
  rw [← h1_ 0 (by decide), ← h1_ 1 (by decide), ← h1_ 2 (by decide), ← h2_ 0 (by decide), ← h2_ 1 (by decide), ← h2_ 2 (by decide)]
  exact h_
theorem cor_q {L_ : List (List Nat)} {S_ : sm_S} {O_ : List Nat} {A_ : Nat → Int} (h_ : cbl L_ S_) (d_ : dst L_) (g_ : cor (cvs S_) O_ L_.length A_) : prm L_.length (fun i_ => L_.getD (O_.getD i_ 0) []) (fun i_ => L_.getD i_ []) ∧ sor L_.length (fun i_ => L_.getD (O_.getD i_ 0) []) := by
  have lc_ : ∀ p_ q_, p_ < q_ → q_ < L_.length → lcv (cva (L_.getD (O_.getD p_ 0) [])) (cva (L_.getD (O_.getD q_ 0) [])) := by
    intro p_ q_ hpq_ hq_
    have a_ := cor_g g_ (show p_ < L_.length by omega)
    have b_ := cor_g g_ hq_
    have r_ := srtd_lt g_.2.2.1 hpq_ a_.1 b_.1
    have ca_ := (h_.2 _ _ (gd_s a_.2.1)).2
    have cb_ := (h_.2 _ _ (gd_s b_.2.1)).2
    exact lcv_cg r_ (fun k_ hk_ => ca_ k_ hk_) (fun k_ hk_ => cb_ k_ hk_)
  have ir_ : ∀ c_ : List Nat, ¬ lcv (cva c_) (cva c_) := fun c_ => lcv_q (fun _ _ => rfl)
  refine ⟨⟨fun i_ hi_ => ⟨O_.getD i_ 0, (cor_g g_ hi_).2.1, rfl⟩, fun j_ hj_ => ?_, fun i_ j_ hi_ hj_ n_ e_ => ?_⟩, lc_⟩
  · have m_ := (g_.2.1 j_).mpr hj_
    obtain ⟨i_, hi_⟩ := List.getElem?_of_mem m_
    have l_ := (List.getElem?_eq_some_iff.mp hi_).1
    refine ⟨i_, by rw [← g_.1]; exact l_, ?_⟩
    show L_.getD (O_.getD i_ 0) [] = L_.getD j_ []
    rw [List.getD_eq_getElem?_getD (l := O_), hi_]
    rfl
  · have e_ : L_.getD (O_.getD i_ 0) [] = L_.getD (O_.getD j_ 0) [] := e_
    rcases Nat.lt_trichotomy i_ j_ with u_ | u_ | u_
    · have q_ := lc_ i_ j_ u_ hj_
      rw [e_] at q_
      exact ir_ _ q_
    · exact n_ u_
    · have q_ := lc_ j_ i_ u_ hi_
      rw [e_] at q_
      exact ir_ _ q_
theorem cor_fr {w_ : sx_Wl} {O_ : List Nat} {n_ : Nat} {S_ S'_ : sm_S} (h_ : cor (cvs S_) O_ n_ (S_.2.2.1 66 0)) (g_ : ai_fr (sx_W w_) S_ S'_) (a_ : (sx_W w_).2.1 65 = false := by rfl) (b_ : (sx_W w_).2.1 66 = false := by rfl) : cor (cvs S'_) O_ n_ (S'_.2.2.1 66 0) := by
  have e_ : cvs S'_ = cvs S_ := by
    funext i_ k_
    unfold cvs
    rw [fr_arr (t := 65) g_ a_]
  rw [e_, fr_arr (t := 66) g_ b_]
  exact h_
/-- cuts, their order, their tables -/
def fwi (L_ : List (List Nat)) (P_ : List Nat → Int → Prop) (m_ : Nat) (S_ : sm_S) (O_ : List Nat) (TB_ : Nat → Int) (h_ : Int) : Prop := (cbl L_ S_ ∧ L_.length ≤ m_ / 3) ∧ cor (cvs S_) O_ L_.length (S_.2.2.1 66 0) ∧ ∀ (i_ : Nat) (c_ : List Nat), (i_ : Int) < h_ → L_[i_]? = some c_ → S_.2.2.1 67 0 i_ = TB_ i_ ∧ P_ c_ (TB_ i_)
theorem fwi_fr {w_ : sx_Wl} {L_ : List (List Nat)} {P_ : List Nat → Int → Prop} {m_ : Nat} {S_ S'_ : sm_S} {O_ : List Nat} {TB_ : Nat → Int} {h_ : Int} (q_ : fwi L_ P_ m_ S_ O_ TB_ h_) (g_ : ai_fr (sx_W w_) S_ S'_) (a_ : (sx_W w_).2.1 65 = false := by rfl) (b_ : (sx_W w_).2.1 66 = false := by rfl) (c_ : (sx_W w_).2.1 67 = false := by rfl) (d_ : (sx_W w_).1 6 11 = false := by rfl) : fwi L_ P_ m_ S'_ O_ TB_ h_ := by
  refine ⟨⟨cbl_fr q_.1.1 g_ d_ a_, q_.1.2⟩, cor_fr q_.2.1 g_ a_ b_, ?_⟩
  rw [fr_arr (t := 67) g_ c_]
  exact q_.2.2
theorem fwi_w {L_ : List (List Nat)} {P_ : List Nat → Int → Prop} {m_ i_ : Nat} {S_ : sm_S} {O_ : List Nat} {TB_ : Nat → Int} {h_ v_ : Int} {c_ : List Nat} (q_ : fwi L_ P_ m_ S_ O_ TB_ h_) (hc_ : L_[i_]? = some c_) (hi_ : (i_ : Int) = h_) (hv_ : P_ c_ v_) : ∃ TB'_ : Nat → Int, fwi L_ P_ m_ (sm_aI S_ 67 0 i_ v_) O_ TB'_ (h_ + 1) := by
  refine ⟨fun j_ => if j_ = i_ then v_ else TB_ j_, ⟨⟨?_, q_.1.2⟩, ?_, fun j_ d_ hj_ hd_ => ?_⟩⟩
  · exact cbl_fr (w_ := ([], [67], [])) q_.1.1 (ai_fr_aI rfl)
  · exact cor_fr (w_ := ([], [67], [])) q_.2.1 (ai_fr_aI rfl)
  · rw [rd_eq]
    show (if j_ = i_ then v_ else S_.2.2.1 67 0 j_) = (if j_ = i_ then v_ else TB_ j_) ∧ P_ d_ (if j_ = i_ then v_ else TB_ j_)
    by_cases e_ : j_ = i_
    · rw [if_pos e_, if_pos e_]
      rw [e_, hc_] at hd_
      rw [← Option.some.inj hd_]
      exact ⟨rfl, hv_⟩
    · rw [if_neg e_, if_neg e_]
      exact q_.2.2 j_ d_ (by omega) hd_
theorem cfo_cg {f_ g_ : Nat → Int × Int × Int × (Nat → Int) → Int × Int × Int × (Nat → Int)} {b_ : Int × Int × Int × (Nat → Int)} : ∀ m_ : Nat, (∀ i_ b_, i_ < m_ → f_ i_ b_ = g_ i_ b_) → cfo f_ m_ b_ = cfo g_ m_ b_
  | 0, _ => rfl
  | m_ + 1, h_ => by
    rw [cfo_s, cfo_s, cfo_cg m_ (fun i_ b_ hi_ => h_ i_ b_ (by omega)), h_ m_ _ (Nat.lt_succ_self m_)]
theorem cdn_m {c_ : List Nat} {ip_ o_ k_ : Nat} (hl_ : 2 ≤ c_.length ∧ c_.length ≤ 3) (hip_ : ip_ = c_.length) (ho_ : o_ ≤ 5) (hk_ : k_ < ip_) : ∃ x_ : Nat, x_ ∈ c_ ∧ cdn c_ ip_ o_ k_ = (x_ : Int) := by
  have b_ := iat_b (sz_ := (ip_ : Int)) (o_ := (o_ : Int)) (k_ := (k_ : Int)) (by omega) (by omega) (by omega)
  unfold cdn
  obtain ⟨x_, hx_⟩ : ∃ x_, c_[(iat (ip_ : Int) (o_ : Int) (k_ : Int)).toNat]? = some x_ := ⟨_, List.getElem?_eq_getElem (by omega)⟩
  refine ⟨x_, List.mem_of_getElem? hx_, ?_⟩
  unfold cva
  rw [hx_]
theorem wic_o {ip_ v_ : Nat} (hip_ : ip_ = 2 ∨ ip_ = 3) (hv_ : v_ < wic ip_) : v_ / 2 ^ ip_ ≤ 5 := by
  unfold wic at hv_
  rcases hip_ with e_ | e_
  · rw [e_] at hv_ ⊢
    rw [if_pos rfl] at hv_
    show v_ / 4 ≤ 5
    omega
  · rw [e_] at hv_ ⊢
    rw [if_neg (by decide)] at hv_
    show v_ / 8 ≤ 5
    omega
theorem wvs_cg {ad_ pc_ pd_ : Int → Int → Int} {hit_ hit'_ : Nat → Bool} {a_ : Int} {cell : Nat} {c_ : List Nat} {ip_ v_ : Nat} {b_ : Int × Int × Int × (Nat → Int)} (hl_ : 2 ≤ c_.length ∧ c_.length ≤ 3) (hip_ : ip_ = c_.length) (hv_ : v_ < wic ip_) (h_ : ∀ (x_ : Nat) (t_ : Int), x_ ∈ c_ → 0 ≤ t_ → t_ ≤ 1 → pc_ x_ t_ = pd_ x_ t_) (hh_ : hit_ v_ = hit'_ v_) : wvs ad_ pc_ hit_ a_ cell c_ ip_ v_ b_ = wvs ad_ pd_ hit'_ a_ cell c_ ip_ v_ b_ := by
  have o5_ := wic_o (by omega) hv_
  have e_ : cco ad_ pc_ a_ c_ ip_ v_ ip_ = cco ad_ pd_ a_ c_ ip_ v_ ip_ := cco_cg ip_ (fun k_ hk_ => by
    obtain ⟨x_, hx_, e_⟩ := cdn_m hl_ hip_ o5_ hk_
    rw [e_]
    exact h_ x_ _ hx_ (by omega) (by omega))
  unfold wvs
  rw [hh_, e_]
theorem wct_y {ad_ pc_ : Int → Int → Int} {hit_ : Nat → Nat → Bool} {a_ : Int} {cell ip_ i_ : Nat} {Q_ : Nat → List Nat} {b_ : Int × Int × Int × (Nat → Int)} (h_ : ip_ = (Q_ i_).length) : wct ad_ pc_ hit_ a_ cell ip_ Q_ i_ b_ = cfo (wvs ad_ pc_ (hit_ i_) a_ cell (Q_ i_) ip_) (wic ip_) b_ := if_pos h_
theorem wct_n {ad_ pc_ : Int → Int → Int} {hit_ : Nat → Nat → Bool} {a_ : Int} {cell ip_ i_ : Nat} {Q_ : Nat → List Nat} {b_ : Int × Int × Int × (Nat → Int)} (h_ : ¬ ip_ = (Q_ i_).length) : wct ad_ pc_ hit_ a_ cell ip_ Q_ i_ b_ = b_ := if_neg h_
/-- behind all_ cells: an_ inverter behind the_ other one_, or its_ own_ way_ -/
def fnc (ll_ : Nat) (S_ : sm_S) (l_ : Nat) (b_ o_ : Int × Int × Int × (Nat → Int)) : Prop := (S_.1 5 ll_ 2 ≠ -1 ∧ o_.1 + S_.2.2.1 57 (0 + ll_) (S_.1 5 ll_ 2).toNat < b_.1 ∧ S_.2.2.1 61 0 l_ = o_.1 + S_.2.2.1 57 (0 + ll_) (S_.1 5 ll_ 2).toNat ∧ S_.2.2.1 62 0 l_ = -2) ∨ (¬ (S_.1 5 ll_ 2 ≠ -1 ∧ o_.1 + S_.2.2.1 57 (0 + ll_) (S_.1 5 ll_ 2).toNat < b_.1) ∧ wrc ll_ S_ l_ b_)
theorem fnc_n {ll_ l_ l'_ : Nat} {S_ : sm_S} {b_ o_ : Int × Int × Int × (Nat → Int)} (h_ : wrc ll_ S_ l_ b_) (g_ : wrc ll_ S_ l'_ o_) (n_ : ¬ (S_.2.2.1 61 0 l'_ + S_.2.2.1 57 (0 + ll_) (S_.1 5 ll_ 2).toNat < S_.2.2.1 61 0 l_) ∨ S_.1 5 ll_ 2 = -1) : fnc ll_ S_ l_ b_ o_ := by
  have e0_ := h_.1
  have e1_ := g_.1
  exact Or.inr ⟨fun u_ => by omega, h_⟩
theorem fnc_i {ll_ l_ m_ : Nat} {S_ S'_ : sm_S} {z_ : Int} {b_ o_ : Int × Int × Int × (Nat → Int)} (hb_ : wrc ll_ S_ l_ b_) (ho_ : wrc ll_ S_ m_ o_) (ne : m_ ≠ l_) (iv_ : S_.1 5 ll_ 2 ≠ -1) (hz_ : z_ = S_.2.2.1 61 0 m_ + S_.2.2.1 57 (0 + ll_) (S_.1 5 ll_ 2).toNat) (lt_ : z_ < S_.2.2.1 61 0 l_) (a0_ : 0 ≤ S_.2.2.1 57 (0 + ll_) (S_.1 5 ll_ 2).toNat) (c55_ : ∀ k_, S_.2.2.1 55 (0 + ll_) k_ ≤ 3) (e_ : S'_ = sm_aI (sm_aI S_ 61 0 l_ z_) 62 0 l_ (-2)) : fnc ll_ S'_ l_ b_ o_ ∧ fnc ll_ S'_ m_ o_ b_ := by
  have r61_ : ∀ j_, S'_.2.2.1 61 0 j_ = if j_ = l_ then z_ else S_.2.2.1 61 0 j_ := fun j_ => by rw [e_, rd_ne (by decide), rd_eq]
  have r62_ : ∀ j_, S'_.2.2.1 62 0 j_ = if j_ = l_ then -2 else S_.2.2.1 62 0 j_ := fun j_ => by rw [e_, rd_eq, rd_ne (by decide)]
  have r5_ : S'_.1 5 ll_ 2 = S_.1 5 ll_ 2 := by rw [e_]; rfl
  have r57_ : S'_.2.2.1 57 (0 + ll_) = S_.2.2.1 57 (0 + ll_) := by rw [e_, rd_ne_ (by decide), rd_ne_ (by decide)]
  have h1_ := hb_.1
  have h2_ := ho_.1
  unfold fnc
  rw [r5_, r57_]
  refine ⟨Or.inl ⟨iv_, by omega, by rw [r61_, if_pos rfl]; omega, by rw [r62_, if_pos rfl]⟩, Or.inr ⟨fun u_ => by omega, ?_⟩⟩
  exact wrc_o ho_ (by rw [r61_, if_neg ne]) (by rw [r62_, if_neg ne]) (by rw [e_, rd_ne (by decide), rd_ne (by decide)]) (fun k_ _ => by rw [e_, rd_ne (by decide), rd_ne (by decide)]) (by rw [e_, rd_ne_ (by decide), rd_ne_ (by decide)]) c55_

/-! Mapper.findWays -/
def vw_99n : sx_Wl := ([(6, 11), (6, 13)], [61, 62, 63, 64, 65, 66, 67, 68, 70, 71], [])
def vq_99n (a1_ : Int) (dd_ : Nat) (F_ : Nat) (ll_ : Nat) (T_ : Nat → Prop) (S0_ : sm_S) (u_ : Option sm_V) (S1_ : sm_S) : Prop := u_ = none ∧ gi S1_ ∧ ai_fr (sx_W vw_99n) S0_ S1_ ∧ ((wok (1 + S0_.1 3 dd_ 1 + S0_.1 3 dd_ 2) a1_ ll_ S1_ (2 * a1_).toNat (2 * a1_ + 1).toNat ∧ wok (1 + S0_.1 3 dd_ 1 + S0_.1 3 dd_ 2) a1_ ll_ S1_ (2 * a1_ + 1).toNat (2 * a1_).toNat ∧ wfn a1_.toNat S0_ S1_) ∧ ∃ (m_ : Nat) (Q_ : Nat → List Nat) (TB_ : Nat → Int), (crn (fun x_ => decide (F_ ≤ x_ ∧ S0_.2.2.1 60 0 x_ = 0)) (fun x_ => srp dd_ S0_ (S0_.2.2.1 42 (0 + dd_) x_)) (fun x_ => srp dd_ S0_ (S0_.2.2.1 43 (0 + dd_) x_)) a1_.toNat m_).length ≤ m_ / 3 ∧ prm (crn (fun x_ => decide (F_ ≤ x_ ∧ S0_.2.2.1 60 0 x_ = 0)) (fun x_ => srp dd_ S0_ (S0_.2.2.1 42 (0 + dd_) x_)) (fun x_ => srp dd_ S0_ (S0_.2.2.1 43 (0 + dd_) x_)) a1_.toNat m_).length Q_ (fun i_ => (crn (fun x_ => decide (F_ ≤ x_ ∧ S0_.2.2.1 60 0 x_ = 0)) (fun x_ => srp dd_ S0_ (S0_.2.2.1 42 (0 + dd_) x_)) (fun x_ => srp dd_ S0_ (S0_.2.2.1 43 (0 + dd_) x_)) a1_.toNat m_).getD i_ []) ∧ sor (crn (fun x_ => decide (F_ ≤ x_ ∧ S0_.2.2.1 60 0 x_ = 0)) (fun x_ => srp dd_ S0_ (S0_.2.2.1 42 (0 + dd_) x_)) (fun x_ => srp dd_ S0_ (S0_.2.2.1 43 (0 + dd_) x_)) a1_.toNat m_).length Q_ ∧ (∀ i_, i_ < (crn (fun x_ => decide (F_ ≤ x_ ∧ S0_.2.2.1 60 0 x_ = 0)) (fun x_ => srp dd_ S0_ (S0_.2.2.1 42 (0 + dd_) x_)) (fun x_ => srp dd_ S0_ (S0_.2.2.1 43 (0 + dd_) x_)) a1_.toNat m_).length → ((2 ≤ (Q_ i_).length ∧ (Q_ i_).length ≤ 3) ∧ Q_ i_ ∈ crn (fun x_ => decide (F_ ≤ x_ ∧ S0_.2.2.1 60 0 x_ = 0)) (fun x_ => srp dd_ S0_ (S0_.2.2.1 42 (0 + dd_) x_)) (fun x_ => srp dd_ S0_ (S0_.2.2.1 43 (0 + dd_) x_)) a1_.toNat m_) ∧ (tbo (fun x_ => srp dd_ S0_ (S0_.2.2.1 42 (0 + dd_) x_)) (fun x_ => srp dd_ S0_ (S0_.2.2.1 43 (0 + dd_) x_)) (fun x_ => slt dd_ S0_ (S0_.2.2.1 42 (0 + dd_) x_) % 2) (fun x_ => slt dd_ S0_ (S0_.2.2.1 43 (0 + dd_) x_) % 2) T_ a1_.toNat) (Q_ i_) (TB_ i_)) ∧ fnc ll_ S1_ (2 * a1_).toNat (wbs adc (pcc (1 + S0_.1 3 dd_ 1 + S0_.1 3 dd_ 2) ll_ S0_) (hcf (S0_.2.2.1 69 0) TB_ Q_ 0) (fun cell => S0_.2.2.1 57 (0 + ll_) cell) (fun cell => (S0_.2.2.1 55 (0 + ll_) cell).toNat) Q_ (crn (fun x_ => decide (F_ ≤ x_ ∧ S0_.2.2.1 60 0 x_ = 0)) (fun x_ => srp dd_ S0_ (S0_.2.2.1 42 (0 + dd_) x_)) (fun x_ => srp dd_ S0_ (S0_.2.2.1 43 (0 + dd_) x_)) a1_.toNat m_).length (S0_.1 5 ll_ 1).toNat 268435456) (wbs adc (pcc (1 + S0_.1 3 dd_ 1 + S0_.1 3 dd_ 2) ll_ S0_) (hcf (S0_.2.2.1 69 0) TB_ Q_ 1) (fun cell => S0_.2.2.1 57 (0 + ll_) cell) (fun cell => (S0_.2.2.1 55 (0 + ll_) cell).toNat) Q_ (crn (fun x_ => decide (F_ ≤ x_ ∧ S0_.2.2.1 60 0 x_ = 0)) (fun x_ => srp dd_ S0_ (S0_.2.2.1 42 (0 + dd_) x_)) (fun x_ => srp dd_ S0_ (S0_.2.2.1 43 (0 + dd_) x_)) a1_.toNat m_).length (S0_.1 5 ll_ 1).toNat 268435456) ∧ fnc ll_ S1_ (2 * a1_ + 1).toNat (wbs adc (pcc (1 + S0_.1 3 dd_ 1 + S0_.1 3 dd_ 2) ll_ S0_) (hcf (S0_.2.2.1 69 0) TB_ Q_ 1) (fun cell => S0_.2.2.1 57 (0 + ll_) cell) (fun cell => (S0_.2.2.1 55 (0 + ll_) cell).toNat) Q_ (crn (fun x_ => decide (F_ ≤ x_ ∧ S0_.2.2.1 60 0 x_ = 0)) (fun x_ => srp dd_ S0_ (S0_.2.2.1 42 (0 + dd_) x_)) (fun x_ => srp dd_ S0_ (S0_.2.2.1 43 (0 + dd_) x_)) a1_.toNat m_).length (S0_.1 5 ll_ 1).toNat 268435456) (wbs adc (pcc (1 + S0_.1 3 dd_ 1 + S0_.1 3 dd_ 2) ll_ S0_) (hcf (S0_.2.2.1 69 0) TB_ Q_ 0) (fun cell => S0_.2.2.1 57 (0 + ll_) cell) (fun cell => (S0_.2.2.1 55 (0 + ll_) cell).toNat) Q_ (crn (fun x_ => decide (F_ ≤ x_ ∧ S0_.2.2.1 60 0 x_ = 0)) (fun x_ => srp dd_ S0_ (S0_.2.2.1 42 (0 + dd_) x_)) (fun x_ => srp dd_ S0_ (S0_.2.2.1 43 (0 + dd_) x_)) a1_.toNat m_).length (S0_.1 5 ll_ 1).toNat 268435456))
set_option maxHeartbeats 4000000 in
set_option maxRecDepth 20000 in
theorem vl_99n {sc_ : Nat × (Nat → Int)} (a1_ : Int) (dd_ : Nat) (F_ : Nat) (ll_ : Nat) (T_ : Nat → Prop) (S0_ : sm_S) (hd_ : S0_.2.1 6 0 0 = some dd_) (hc_ : S0_.2.1 6 0 1 = some ll_) (hg_ : dgr dd_ F_ S0_) (hs_ : swp dd_ F_ S0_) (hk_ : mkd dd_ F_ S0_ (S0_.2.2.1 59 0)) (h1_ : (F_ : Int) ≤ a1_ ∧ a1_ < S0_.1 3 dd_ 4) (hn_ : S0_.2.2.1 59 0 a1_.toNat = 1) (ht_ : trh (fun x_ => decide (F_ ≤ x_ ∧ S0_.2.2.1 60 0 x_ = 0)) (fun x_ => srp dd_ S0_ (S0_.2.2.1 42 (0 + dd_) x_)) (fun x_ => srp dd_ S0_ (S0_.2.2.1 43 (0 + dd_) x_)) a1_.toNat T_) (hlm_ : ∀ m_ : Nat, (crn (fun x_ => decide (F_ ≤ x_ ∧ S0_.2.2.1 60 0 x_ = 0)) (fun x_ => srp dd_ S0_ (S0_.2.2.1 42 (0 + dd_) x_)) (fun x_ => srp dd_ S0_ (S0_.2.2.1 43 (0 + dd_) x_)) a1_.toNat m_).length ≤ 1000) : ∀ nn_ : Nat, (∀ (i9_ : Int) (S_ : sm_S), gi S_ → ai_fr (sx_W vw_99n) S0_ S_ → ((0 ≤ i9_ ∧ i9_ ≤ 1024) ∧ (∃ (m_ : Nat) (O_ : List Nat) (TB_ : Nat → Int), fwi (crn (fun x_ => decide (F_ ≤ x_ ∧ S0_.2.2.1 60 0 x_ = 0)) (fun x_ => srp dd_ S0_ (S0_.2.2.1 42 (0 + dd_) x_)) (fun x_ => srp dd_ S0_ (S0_.2.2.1 43 (0 + dd_) x_)) a1_.toNat m_) (tbo (fun x_ => srp dd_ S0_ (S0_.2.2.1 42 (0 + dd_) x_)) (fun x_ => srp dd_ S0_ (S0_.2.2.1 43 (0 + dd_) x_)) (fun x_ => slt dd_ S0_ (S0_.2.2.1 42 (0 + dd_) x_) % 2) (fun x_ => slt dd_ S0_ (S0_.2.2.1 43 (0 + dd_) x_) % 2) T_ a1_.toNat) m_ S_ O_ TB_ i9_ ∧ wrc ll_ S_ (2 * a1_).toNat ((268435456, -1, 0, fun _ => 0)) ∧ wrc ll_ S_ (2 * a1_ + 1).toNat ((268435456, -1, 0, fun _ => 0))) ∧ (wo3 (1 + S0_.1 3 dd_ 1 + S0_.1 3 dd_ 2) a1_ ll_ S_ (2 * a1_).toNat) ∧ (wo3 (1 + S0_.1 3 dd_ 1 + S0_.1 3 dd_ 2) a1_ ll_ S_ (2 * a1_ + 1).toNat) ∧ (wfn a1_.toNat S0_ S_) ∧ (mcs (npd a1_ (S0_.2.2.1 59 0)) S_) ∧ (∀ i_ : Nat, (i_ : Int) < S_.1 6 0 11 → S_.2.2.1 66 0 i_ < S_.1 6 0 11) ∧ True) → ((90000000 - i9_).toNat) < nn_ → sm_T (mt_P sc_) 4 99 (53, [some (.inr (.inr (some (6, 0)))), some (.inl a1_), some (.inl i9_), none, none], [], S_) (fun ro9_ => ∃ u_ S1_, ro9_ = (.inl u_, S1_, 0) ∧ vq_99n a1_ dd_ F_ ll_ T_ S0_ u_ S1_)) ∧ (∀ (c9_ : Int) (S_ : sm_S), gi S_ → ai_fr (sx_W vw_99n) S0_ S_ → ((0 ≤ c9_ ∧ c9_ ≤ 12 ∧ c9_ ≤ S_.1 5 ll_ 1) ∧ (∃ (m_ : Nat) (O_ : List Nat) (TB_ : Nat → Int), fwi (crn (fun x_ => decide (F_ ≤ x_ ∧ S0_.2.2.1 60 0 x_ = 0)) (fun x_ => srp dd_ S0_ (S0_.2.2.1 42 (0 + dd_) x_)) (fun x_ => srp dd_ S0_ (S0_.2.2.1 43 (0 + dd_) x_)) a1_.toNat m_) (tbo (fun x_ => srp dd_ S0_ (S0_.2.2.1 42 (0 + dd_) x_)) (fun x_ => srp dd_ S0_ (S0_.2.2.1 43 (0 + dd_) x_)) (fun x_ => slt dd_ S0_ (S0_.2.2.1 42 (0 + dd_) x_) % 2) (fun x_ => slt dd_ S0_ (S0_.2.2.1 43 (0 + dd_) x_) % 2) T_ a1_.toNat) m_ S_ O_ TB_ (S_.1 6 0 11) ∧ wrc ll_ S_ (2 * a1_).toNat (cfo (wcl adc (pcc (1 + S0_.1 3 dd_ 1 + S0_.1 3 dd_ 2) ll_ S0_) (hcf (S0_.2.2.1 69 0) (fun i_ => TB_ (O_.getD i_ 0)) (fun i_ => (crn (fun x_ => decide (F_ ≤ x_ ∧ S0_.2.2.1 60 0 x_ = 0)) (fun x_ => srp dd_ S0_ (S0_.2.2.1 42 (0 + dd_) x_)) (fun x_ => srp dd_ S0_ (S0_.2.2.1 43 (0 + dd_) x_)) a1_.toNat m_).getD (O_.getD i_ 0) []) 0) (fun cell => S0_.2.2.1 57 (0 + ll_) cell) (fun cell => (S0_.2.2.1 55 (0 + ll_) cell).toNat) (fun i_ => (crn (fun x_ => decide (F_ ≤ x_ ∧ S0_.2.2.1 60 0 x_ = 0)) (fun x_ => srp dd_ S0_ (S0_.2.2.1 42 (0 + dd_) x_)) (fun x_ => srp dd_ S0_ (S0_.2.2.1 43 (0 + dd_) x_)) a1_.toNat m_).getD (O_.getD i_ 0) []) (crn (fun x_ => decide (F_ ≤ x_ ∧ S0_.2.2.1 60 0 x_ = 0)) (fun x_ => srp dd_ S0_ (S0_.2.2.1 42 (0 + dd_) x_)) (fun x_ => srp dd_ S0_ (S0_.2.2.1 43 (0 + dd_) x_)) a1_.toNat m_).length) (c9_.toNat) (268435456, -1, 0, fun _ => 0)) ∧ wrc ll_ S_ (2 * a1_ + 1).toNat (cfo (wcl adc (pcc (1 + S0_.1 3 dd_ 1 + S0_.1 3 dd_ 2) ll_ S0_) (hcf (S0_.2.2.1 69 0) (fun i_ => TB_ (O_.getD i_ 0)) (fun i_ => (crn (fun x_ => decide (F_ ≤ x_ ∧ S0_.2.2.1 60 0 x_ = 0)) (fun x_ => srp dd_ S0_ (S0_.2.2.1 42 (0 + dd_) x_)) (fun x_ => srp dd_ S0_ (S0_.2.2.1 43 (0 + dd_) x_)) a1_.toNat m_).getD (O_.getD i_ 0) []) 1) (fun cell => S0_.2.2.1 57 (0 + ll_) cell) (fun cell => (S0_.2.2.1 55 (0 + ll_) cell).toNat) (fun i_ => (crn (fun x_ => decide (F_ ≤ x_ ∧ S0_.2.2.1 60 0 x_ = 0)) (fun x_ => srp dd_ S0_ (S0_.2.2.1 42 (0 + dd_) x_)) (fun x_ => srp dd_ S0_ (S0_.2.2.1 43 (0 + dd_) x_)) a1_.toNat m_).getD (O_.getD i_ 0) []) (crn (fun x_ => decide (F_ ≤ x_ ∧ S0_.2.2.1 60 0 x_ = 0)) (fun x_ => srp dd_ S0_ (S0_.2.2.1 42 (0 + dd_) x_)) (fun x_ => srp dd_ S0_ (S0_.2.2.1 43 (0 + dd_) x_)) a1_.toNat m_).length) (c9_.toNat) (268435456, -1, 0, fun _ => 0))) ∧ (wo3 (1 + S0_.1 3 dd_ 1 + S0_.1 3 dd_ 2) a1_ ll_ S_ (2 * a1_).toNat) ∧ (wo3 (1 + S0_.1 3 dd_ 1 + S0_.1 3 dd_ 2) a1_ ll_ S_ (2 * a1_ + 1).toNat) ∧ (wfn a1_.toNat S0_ S_) ∧ (mcs (npd a1_ (S0_.2.2.1 59 0)) S_) ∧ (∀ i_ : Nat, (i_ : Int) < S_.1 6 0 11 → S_.2.2.1 66 0 i_ < S_.1 6 0 11) ∧ True) → ((10000 * (100 - c9_) + 9000).toNat) < nn_ → sm_T (mt_P sc_) 4 99 (81, [some (.inr (.inr (some (6, 0)))), some (.inl a1_), some (.inl c9_), none, none], [], S_) (fun ro9_ => ∃ u_ S1_, ro9_ = (.inl u_, S1_, 0) ∧ vq_99n a1_ dd_ F_ ll_ T_ S0_ u_ S1_)) ∧ (∀ (c9_ : Int) (i9_ : Int) (S_ : sm_S), gi S_ → ai_fr (sx_W vw_99n) S0_ S_ → ((0 ≤ c9_ ∧ c9_ < 12 ∧ 0 ≤ i9_ ∧ i9_ ≤ 1024 ∧ c9_ < S_.1 5 ll_ 1 ∧ i9_ ≤ S_.1 6 0 11) ∧ (∃ (m_ : Nat) (O_ : List Nat) (TB_ : Nat → Int), fwi (crn (fun x_ => decide (F_ ≤ x_ ∧ S0_.2.2.1 60 0 x_ = 0)) (fun x_ => srp dd_ S0_ (S0_.2.2.1 42 (0 + dd_) x_)) (fun x_ => srp dd_ S0_ (S0_.2.2.1 43 (0 + dd_) x_)) a1_.toNat m_) (tbo (fun x_ => srp dd_ S0_ (S0_.2.2.1 42 (0 + dd_) x_)) (fun x_ => srp dd_ S0_ (S0_.2.2.1 43 (0 + dd_) x_)) (fun x_ => slt dd_ S0_ (S0_.2.2.1 42 (0 + dd_) x_) % 2) (fun x_ => slt dd_ S0_ (S0_.2.2.1 43 (0 + dd_) x_) % 2) T_ a1_.toNat) m_ S_ O_ TB_ (S_.1 6 0 11) ∧ wrc ll_ S_ (2 * a1_).toNat (cfo (wct adc (pcc (1 + S0_.1 3 dd_ 1 + S0_.1 3 dd_ 2) ll_ S0_) ((hcf (S0_.2.2.1 69 0) (fun i_ => TB_ (O_.getD i_ 0)) (fun i_ => (crn (fun x_ => decide (F_ ≤ x_ ∧ S0_.2.2.1 60 0 x_ = 0)) (fun x_ => srp dd_ S0_ (S0_.2.2.1 42 (0 + dd_) x_)) (fun x_ => srp dd_ S0_ (S0_.2.2.1 43 (0 + dd_) x_)) a1_.toNat m_).getD (O_.getD i_ 0) []) 0) c9_.toNat) ((fun cell => S0_.2.2.1 57 (0 + ll_) cell) c9_.toNat) c9_.toNat ((fun cell => (S0_.2.2.1 55 (0 + ll_) cell).toNat) c9_.toNat) (fun i_ => (crn (fun x_ => decide (F_ ≤ x_ ∧ S0_.2.2.1 60 0 x_ = 0)) (fun x_ => srp dd_ S0_ (S0_.2.2.1 42 (0 + dd_) x_)) (fun x_ => srp dd_ S0_ (S0_.2.2.1 43 (0 + dd_) x_)) a1_.toNat m_).getD (O_.getD i_ 0) [])) (i9_.toNat) (cfo (wcl adc (pcc (1 + S0_.1 3 dd_ 1 + S0_.1 3 dd_ 2) ll_ S0_) (hcf (S0_.2.2.1 69 0) (fun i_ => TB_ (O_.getD i_ 0)) (fun i_ => (crn (fun x_ => decide (F_ ≤ x_ ∧ S0_.2.2.1 60 0 x_ = 0)) (fun x_ => srp dd_ S0_ (S0_.2.2.1 42 (0 + dd_) x_)) (fun x_ => srp dd_ S0_ (S0_.2.2.1 43 (0 + dd_) x_)) a1_.toNat m_).getD (O_.getD i_ 0) []) 0) (fun cell => S0_.2.2.1 57 (0 + ll_) cell) (fun cell => (S0_.2.2.1 55 (0 + ll_) cell).toNat) (fun i_ => (crn (fun x_ => decide (F_ ≤ x_ ∧ S0_.2.2.1 60 0 x_ = 0)) (fun x_ => srp dd_ S0_ (S0_.2.2.1 42 (0 + dd_) x_)) (fun x_ => srp dd_ S0_ (S0_.2.2.1 43 (0 + dd_) x_)) a1_.toNat m_).getD (O_.getD i_ 0) []) (crn (fun x_ => decide (F_ ≤ x_ ∧ S0_.2.2.1 60 0 x_ = 0)) (fun x_ => srp dd_ S0_ (S0_.2.2.1 42 (0 + dd_) x_)) (fun x_ => srp dd_ S0_ (S0_.2.2.1 43 (0 + dd_) x_)) a1_.toNat m_).length) (c9_.toNat) (268435456, -1, 0, fun _ => 0))) ∧ wrc ll_ S_ (2 * a1_ + 1).toNat (cfo (wct adc (pcc (1 + S0_.1 3 dd_ 1 + S0_.1 3 dd_ 2) ll_ S0_) ((hcf (S0_.2.2.1 69 0) (fun i_ => TB_ (O_.getD i_ 0)) (fun i_ => (crn (fun x_ => decide (F_ ≤ x_ ∧ S0_.2.2.1 60 0 x_ = 0)) (fun x_ => srp dd_ S0_ (S0_.2.2.1 42 (0 + dd_) x_)) (fun x_ => srp dd_ S0_ (S0_.2.2.1 43 (0 + dd_) x_)) a1_.toNat m_).getD (O_.getD i_ 0) []) 1) c9_.toNat) ((fun cell => S0_.2.2.1 57 (0 + ll_) cell) c9_.toNat) c9_.toNat ((fun cell => (S0_.2.2.1 55 (0 + ll_) cell).toNat) c9_.toNat) (fun i_ => (crn (fun x_ => decide (F_ ≤ x_ ∧ S0_.2.2.1 60 0 x_ = 0)) (fun x_ => srp dd_ S0_ (S0_.2.2.1 42 (0 + dd_) x_)) (fun x_ => srp dd_ S0_ (S0_.2.2.1 43 (0 + dd_) x_)) a1_.toNat m_).getD (O_.getD i_ 0) [])) (i9_.toNat) (cfo (wcl adc (pcc (1 + S0_.1 3 dd_ 1 + S0_.1 3 dd_ 2) ll_ S0_) (hcf (S0_.2.2.1 69 0) (fun i_ => TB_ (O_.getD i_ 0)) (fun i_ => (crn (fun x_ => decide (F_ ≤ x_ ∧ S0_.2.2.1 60 0 x_ = 0)) (fun x_ => srp dd_ S0_ (S0_.2.2.1 42 (0 + dd_) x_)) (fun x_ => srp dd_ S0_ (S0_.2.2.1 43 (0 + dd_) x_)) a1_.toNat m_).getD (O_.getD i_ 0) []) 1) (fun cell => S0_.2.2.1 57 (0 + ll_) cell) (fun cell => (S0_.2.2.1 55 (0 + ll_) cell).toNat) (fun i_ => (crn (fun x_ => decide (F_ ≤ x_ ∧ S0_.2.2.1 60 0 x_ = 0)) (fun x_ => srp dd_ S0_ (S0_.2.2.1 42 (0 + dd_) x_)) (fun x_ => srp dd_ S0_ (S0_.2.2.1 43 (0 + dd_) x_)) a1_.toNat m_).getD (O_.getD i_ 0) []) (crn (fun x_ => decide (F_ ≤ x_ ∧ S0_.2.2.1 60 0 x_ = 0)) (fun x_ => srp dd_ S0_ (S0_.2.2.1 42 (0 + dd_) x_)) (fun x_ => srp dd_ S0_ (S0_.2.2.1 43 (0 + dd_) x_)) a1_.toNat m_).length) (c9_.toNat) (268435456, -1, 0, fun _ => 0)))) ∧ (wo3 (1 + S0_.1 3 dd_ 1 + S0_.1 3 dd_ 2) a1_ ll_ S_ (2 * a1_).toNat) ∧ (wo3 (1 + S0_.1 3 dd_ 1 + S0_.1 3 dd_ 2) a1_ ll_ S_ (2 * a1_ + 1).toNat) ∧ (wfn a1_.toNat S0_ S_) ∧ (mcs (npd a1_ (S0_.2.2.1 59 0)) S_) ∧ (∀ i_ : Nat, (i_ : Int) < S_.1 6 0 11 → S_.2.2.1 66 0 i_ < S_.1 6 0 11) ∧ True) → ((10000 * (100 - c9_) + 8000 - i9_).toNat) < nn_ → sm_T (mt_P sc_) 4 99 (94, [some (.inr (.inr (some (6, 0)))), some (.inl a1_), some (.inl c9_), some (.inl i9_), none], [], S_) (fun ro9_ => ∃ u_ S1_, ro9_ = (.inl u_, S1_, 0) ∧ vq_99n a1_ dd_ F_ ll_ T_ S0_ u_ S1_)) := by
  intro nn_
  induction nn_ with
  | zero => exact ⟨fun _ _ _ _ _ h_ => absurd h_ (Nat.not_lt_zero _), fun _ _ _ _ _ h_ => absurd h_ (Nat.not_lt_zero _), fun _ _ _ _ _ _ h_ => absurd h_ (Nat.not_lt_zero _)⟩
  | succ nn_ ih_ =>
    refine ⟨?_, ?_, ?_⟩
    · rintro i9_ S_ hI_ hF_ ⟨h0_, hX_, hv0_, hv1_, hf_, hcs_, ho_, -⟩ hm_
      have f57_ : S_.2.2.1 57 (0 + ll_) = S0_.2.2.1 57 (0 + ll_) := fr_arr hF_ rfl
      have f69_ : S_.2.2.1 69 0 = S0_.2.2.1 69 0 := fr_arr hF_ rfl
      have f51_ : S_.1 5 ll_ 1 = S0_.1 5 ll_ 1 := hF_.1 5 ll_ 1 rfl
      have f55_ : S_.2.2.1 55 (0 + ll_) = S0_.2.2.1 55 (0 + ll_) := fr_arr hF_ rfl
      have f59_ : S_.2.2.1 59 0 = S0_.2.2.1 59 0 := fr_arr hF_ rfl
      have f60_ : S_.2.2.1 60 0 = S0_.2.2.1 60 0 := fr_arr hF_ rfl
      have f1_ : S_.1 3 dd_ 1 = S0_.1 3 dd_ 1 := hF_.1 3 dd_ 1 rfl
      have f2_ : S_.1 3 dd_ 2 = S0_.1 3 dd_ 2 := hF_.1 3 dd_ 2 rfl
      have f5_ : S_.1 5 ll_ 2 = S0_.1 5 ll_ 2 := hF_.1 5 ll_ 2 rfl
      have ck_ : 0 ≤ S_.1 6 0 11 ∧ S_.1 6 0 11 ≤ 1024 := hI_.1 6 0 11 rfl
      have cq_ : 0 ≤ S_.1 5 ll_ 1 ∧ S_.1 5 ll_ 1 ≤ 12 := hI_.1 5 ll_ 1 rfl
      have n13_ : 0 ≤ S_.1 3 dd_ 4 ∧ S_.1 3 dd_ 4 ≤ 1013 := hI_.1 3 dd_ 4 rfl
      have f4_ : S_.1 3 dd_ 4 = S0_.1 3 dd_ 4 := hF_.1 3 dd_ 4 rfl
      have g1_ := hg_.1
      have bx1_ : 0 ≤ S_.1 6 0 11 ∧ S_.1 6 0 11 ≤ 1024 := hI_.1 6 0 11 rfl
      refine sm_T_go 3 (c1 := (58, [some (.inr (.inr (some (6, 0)))), some (.inl a1_), some (.inl i9_), none, none], [.inl (S_.1 6 0 11), .inl i9_], S_)) rfl ?_
      refine sm_T_br (a := 3) (z := 21) rfl (fun cx2_ => ?_) (fun cx2_ => ?_)
      · have cx2_ : (S_.1 6 0 11) ≤ i9_ := of_decide_eq_true cx2_
        refine sm_T_go 2 (c1 := (81, [some (.inr (.inr (some (6, 0)))), some (.inl a1_), some (.inl 0), none, none], [], S_)) rfl ?_
        refine ih_.2.1 0 S_ hI_ hF_ ⟨?_, ?_, ?_, ?_, ?_, ?_, ?_, trivial⟩ ?_
        · omega
        · obtain ⟨m9_, O9_, B9_, q9_, r9_, s9_⟩ := hX_
          refine ⟨m9_, O9_, B9_, ⟨q9_.1, q9_.2.1, fun i_ c_ u_ w_ => q9_.2.2 i_ c_ (by omega) w_⟩, r9_, s9_⟩
        · exact hv0_
        · exact hv1_
        · exact hf_
        · exact hcs_
        · exact ho_
        · omega
      · have cx2_ : ¬ ((S_.1 6 0 11) ≤ i9_) := of_decide_eq_false cx2_
        obtain ⟨m9_, O9_, B9_, q9_, r9_, s9_⟩ := hX_
        obtain ⟨d9_, hd9_⟩ : ∃ d9_, (crn (fun x_ => decide (F_ ≤ x_ ∧ S0_.2.2.1 60 0 x_ = 0)) (fun x_ => srp dd_ S0_ (S0_.2.2.1 42 (0 + dd_) x_)) (fun x_ => srp dd_ S0_ (S0_.2.2.1 43 (0 + dd_) x_)) a1_.toNat m9_)[i9_.toNat]? = some d9_ := ⟨_, List.getElem?_eq_getElem (by (have z9_ := q9_.1.1.1; omega))⟩
        have y9_ := q9_.1.1.2 _ _ hd9_
        obtain ⟨E9_, e91_, e92_, e93_⟩ := crn_fr m9_ d9_ (List.mem_of_getElem? hd9_)
        have cl9_ := clo_of ht_ e91_
        rw [← e92_] at cl9_
        refine sm_T_go 6 (c1 := (69, [some (.inr (.inr (some (6, 0)))), some (.inl a1_), some (.inl i9_), none, none], [.inl i9_, .inl a1_, .inr (.inr (some (6, 0))), .inl i9_, .inr (.inr (some (67, 0)))], S_)) rfl ?_
        refine sm_T_cal (d1 := 2) (Q1 := vq_105n a1_ i9_ dd_ F_ (fun x_ => x_ ∈ a1_.toNat :: E9_) d9_ S_) rfl rfl (by decide) (vc_105n a1_ i9_ dd_ F_ (fun x_ => x_ ∈ a1_.toNat :: E9_) d9_ S_ hI_ (by exact (hF_.2.1 6 0 0 rfl).trans hd_) (by exact dgr_fr hg_ hF_ rfl rfl rfl rfl rfl) (by exact swp_fr hs_ hF_ rfl rfl rfl rfl) (by omega) (by omega) (by exact y9_.1) (by exact y9_.2) (by (rw [show srp dd_ S_ = srp dd_ S0_ from by (funext l9_; unfold srp; rw [fr_arr (t := 44) (i := 0 + dd_) hF_ rfl]), fr_arr (t := 42) (i := 0 + dd_) hF_ rfl, fr_arr (t := 43) (i := 0 + dd_) hF_ rfl]; exact cl9_)) (by (intro x9_ hx9_; rcases List.mem_cons.mp hx9_ with w9_ | w9_; (omega); (exact (of_decide_eq_true ((frc_a ht_ E9_ e91_).1 x9_ w9_).1).1)))) (fun u_ Sx3_ px6_ => ?_)
        obtain ⟨vx8_, rfl, hIx4_, hFx5_, px6_⟩ := px6_
        have hFx7_ : ai_fr (sx_W vw_99n) S0_ Sx3_ := ai_fr_tr hF_ (fr_le hFx5_ rfl)
        have ex9_ : Sx3_.1 6 0 11 = S_.1 6 0 11 := hFx5_.1 6 0 11 rfl
        have t69_ := (px6_).1
        have p69_ : (tbo (fun x_ => srp dd_ S0_ (S0_.2.2.1 42 (0 + dd_) x_)) (fun x_ => srp dd_ S0_ (S0_.2.2.1 43 (0 + dd_) x_)) (fun x_ => slt dd_ S0_ (S0_.2.2.1 42 (0 + dd_) x_) % 2) (fun x_ => slt dd_ S0_ (S0_.2.2.1 43 (0 + dd_) x_) % 2) T_ a1_.toNat) d9_ vx8_ := by (obtain ⟨B8_, t8_, b81_, b82_, b83_, b84_⟩ := (px6_).2; rw [show srp dd_ S_ = srp dd_ S0_ from by (funext l9_; unfold srp; rw [fr_arr (t := 44) (i := 0 + dd_) hF_ rfl]), show slt dd_ S_ = slt dd_ S0_ from by (funext l9_; unfold slt; rw [fr_arr (t := 44) (i := 0 + dd_) hF_ rfl]), fr_arr (t := 42) (i := 0 + dd_) hF_ rfl, fr_arr (t := 43) (i := 0 + dd_) hF_ rfl] at b83_; exact ⟨B8_, t8_, b81_, fun x8_ hx8_ => by (have q8_ : x8_ ∈ a1_.toNat :: E9_ := b82_ x8_ hx8_; rcases List.mem_cons.mp q8_ with w8_ | w8_; (rw [w8_]; exact ht_.1); (exact ((frc_a ht_ E9_ e91_).1 x8_ w8_).2.1)), b83_, b84_⟩)
        have q69_ := fwi_fr q9_ hFx5_
        have r69_ := wrc_fr r9_ hFx5_
        have s69_ := wrc_fr s9_ hFx5_
        have k69_ := hFx5_.1 6 0 11 rfl
        have u69_ := wo3_fr hv0_ hFx5_
        have v69_ := wo3_fr hv1_ hFx5_
        have w69_ := wfn_tr hf_ (wfn_fr (n_ := a1_.toNat) hFx5_)
        have c69_ : mcs (npd a1_ (S0_.2.2.1 59 0)) Sx3_ := mcs_fr hcs_ hFx5_
        have o69_ : ∀ i_ : Nat, (i_ : Int) < Sx3_.1 6 0 11 → Sx3_.2.2.1 66 0 i_ < Sx3_.1 6 0 11 := fun i_ q9_ => by (rw [k69_] at q9_ ⊢; rw [(hFx5_.2.2 66 rfl 0 i_).1]; exact ho_ i_ q9_)
        refine sm_T_iast (n := 1024) rfl rfl (by omega) (by omega) ?_
        have hIx10_ : gi (sm_aI Sx3_ 67 0 i9_.toNat vx8_) := gi_aI hIx4_ (show 0 ≤ vx8_ ∧ vx8_ ≤ 255 from ⟨by omega, by omega⟩)
        have hFx11_ : ai_fr (sx_W vw_99n) S0_ (sm_aI Sx3_ 67 0 i9_.toNat vx8_) := ai_fr_tr hFx7_ (ai_fr_aI rfl)
        refine sm_T_inc (a := 2) (z := 1) (v := i9_) (w := i9_ + 1) rfl rfl (by omega) (by omega) (by omega) ?_ -- pc_ 73
        refine sm_T_go 1 (c1 := (53, [some (.inr (.inr (some (6, 0)))), some (.inl a1_), some (.inl (i9_ + 1)), none, none], [], sm_aI Sx3_ 67 0 i9_.toNat vx8_)) rfl ?_
        refine ih_.1 (i9_ + 1) (sm_aI Sx3_ 67 0 i9_.toNat vx8_) hIx10_ hFx11_ ⟨?_, ?_, ?_, ?_, ?_, ?_, ?_, trivial⟩ ?_
        · omega
        · obtain ⟨T8_, t8_⟩ := fwi_w q69_ hd9_ (by omega) p69_
          skip
          exact ⟨m9_, O9_, T8_, t8_, wrc_fr (w_ := ([], [67], [])) r69_ (ai_fr_aI rfl), wrc_fr (w_ := ([], [67], [])) s69_ (ai_fr_aI rfl)⟩
        · exact u69_
        · exact v69_
        · exact w69_
        · exact c69_
        · exact o69_
        · omega
    · rintro c9_ S_ hI_ hF_ ⟨h0_, hX_, hv0_, hv1_, hf_, hcs_, ho_, -⟩ hm_
      have f57_ : S_.2.2.1 57 (0 + ll_) = S0_.2.2.1 57 (0 + ll_) := fr_arr hF_ rfl
      have f69_ : S_.2.2.1 69 0 = S0_.2.2.1 69 0 := fr_arr hF_ rfl
      have f51_ : S_.1 5 ll_ 1 = S0_.1 5 ll_ 1 := hF_.1 5 ll_ 1 rfl
      have f55_ : S_.2.2.1 55 (0 + ll_) = S0_.2.2.1 55 (0 + ll_) := fr_arr hF_ rfl
      have f59_ : S_.2.2.1 59 0 = S0_.2.2.1 59 0 := fr_arr hF_ rfl
      have f60_ : S_.2.2.1 60 0 = S0_.2.2.1 60 0 := fr_arr hF_ rfl
      have f1_ : S_.1 3 dd_ 1 = S0_.1 3 dd_ 1 := hF_.1 3 dd_ 1 rfl
      have f2_ : S_.1 3 dd_ 2 = S0_.1 3 dd_ 2 := hF_.1 3 dd_ 2 rfl
      have f5_ : S_.1 5 ll_ 2 = S0_.1 5 ll_ 2 := hF_.1 5 ll_ 2 rfl
      have ck_ : 0 ≤ S_.1 6 0 11 ∧ S_.1 6 0 11 ≤ 1024 := hI_.1 6 0 11 rfl
      have cq_ : 0 ≤ S_.1 5 ll_ 1 ∧ S_.1 5 ll_ 1 ≤ 12 := hI_.1 5 ll_ 1 rfl
      have n13_ : 0 ≤ S_.1 3 dd_ 4 ∧ S_.1 3 dd_ 4 ≤ 1013 := hI_.1 3 dd_ 4 rfl
      have f4_ : S_.1 3 dd_ 4 = S0_.1 3 dd_ 4 := hF_.1 3 dd_ 4 rfl
      have g1_ := hg_.1
      refine sm_T_go 2 (c1 := (83, [some (.inr (.inr (some (6, 0)))), some (.inl a1_), some (.inl c9_), none, none], [.inr (.inr (some (6, 0))), .inl c9_], S_)) rfl ?_
      refine sm_T_gr rfl rfl ((hF_.2.1 6 0 1 rfl).trans hc_) ?_
      have bx1_ : 0 ≤ S_.1 5 ll_ 1 ∧ S_.1 5 ll_ 1 ≤ 12 := hI_.1 5 ll_ 1 rfl
      refine sm_T_go 1 (c1 := (89, [some (.inr (.inr (some (6, 0)))), some (.inl a1_), some (.inl c9_), none, none], [.inl (S_.1 5 ll_ 1), .inl c9_], S_)) rfl ?_
      refine sm_T_br (a := 3) (z := 73) rfl (fun cx2_ => ?_) (fun cx2_ => ?_)
      · have cx2_ : (S_.1 5 ll_ 1) ≤ c9_ := of_decide_eq_true cx2_
        refine sm_T_go 1 (c1 := (163, [some (.inr (.inr (some (6, 0)))), some (.inl a1_), some (.inl c9_), none, none], [.inr (.inr (some (6, 0)))], S_)) rfl ?_
        refine sm_T_gr rfl rfl ((hF_.2.1 6 0 1 rfl).trans hc_) ?_
        have bx3_ : (-1) ≤ S_.1 5 ll_ 2 ∧ S_.1 5 ll_ 2 ≤ 11 := hI_.1 5 ll_ 2 rfl
        refine sm_T_go 2 (c1 := (170, [some (.inr (.inr (some (6, 0)))), some (.inl a1_), some (.inl c9_), none, none], [.inl (-1), .inl (S_.1 5 ll_ 2)], S_)) rfl ?_
        refine sm_T_br (a := 0) (z := 106) rfl (fun cx4_ => ?_) (fun cx4_ => ?_)
        · have cx4_ : (S_.1 5 ll_ 2) = (-1) := of_decide_eq_true cx4_
          refine sm_T_rv rfl ⟨_, _, rfl, rfl, hI_, hF_, ?_⟩
          refine ⟨?_, ?_⟩
          · first | exact ⟨Or.inl hv0_, Or.inl hv1_, hf_⟩ | (have z9_ := wok_iv hv0_ hv1_ (by omega) (by omega) (by omega) (show S_.2.2.1 61 0 (2 * a1_ + 1).toNat + S_.2.2.1 57 (0 + ll_) (S_.1 5 ll_ 2).toNat < S_.2.2.1 61 0 (2 * a1_).toNat by omega) (by omega) (by omega) (fun k9_ => (hI_.2 55 (0 + ll_) k9_).2); exact ⟨z9_.1, z9_.2.1, wfn_tr hf_ (wfn_l z9_.2.2 (by omega))⟩) | (have z9_ := wok_iv hv1_ hv0_ (by omega) (by omega) (by omega) (show S_.2.2.1 61 0 (2 * a1_).toNat + S_.2.2.1 57 (0 + ll_) (S_.1 5 ll_ 2).toNat < S_.2.2.1 61 0 (2 * a1_ + 1).toNat by omega) (by omega) (by omega) (fun k9_ => (hI_.2 55 (0 + ll_) k9_).2); exact ⟨z9_.2.1, z9_.1, wfn_tr hf_ (wfn_l z9_.2.2 (by omega))⟩)
          · obtain ⟨m9_, O9_, B9_, q9_, r9_, s9_⟩ := hX_
            have cq9_ := cor_q q9_.1.1 (crn_d m9_) q9_.2.1
            refine ⟨m9_, (fun i_ => (crn (fun x_ => decide (F_ ≤ x_ ∧ S0_.2.2.1 60 0 x_ = 0)) (fun x_ => srp dd_ S0_ (S0_.2.2.1 42 (0 + dd_) x_)) (fun x_ => srp dd_ S0_ (S0_.2.2.1 43 (0 + dd_) x_)) a1_.toNat m9_).getD (O9_.getD i_ 0) []), fun i_ => B9_ (O9_.getD i_ 0), q9_.1.2, cq9_.1, cq9_.2, fun i_ hi_ => ?_, ?_⟩
            · have g9_ := cor_g q9_.2.1 hi_
              have hd9_ := gd_s g9_.2.1
              exact ⟨⟨(q9_.1.1.2 _ _ hd9_).1.1, List.mem_of_getElem? hd9_⟩, (q9_.2.2 _ _ (by (have z9_ := q9_.1.1.1; omega)) hd9_).2⟩
            · rw [show c9_.toNat = (S0_.1 5 ll_ 1).toNat by omega] at r9_ s9_
              have a0_ : 0 ≤ S_.2.2.1 57 (0 + ll_) (S_.1 5 ll_ 2).toNat := (hI_.2 57 (0 + ll_) _).1
              first | (exact ⟨fnc_n r9_ s9_ (by omega), fnc_n s9_ r9_ (by omega)⟩) | (have z9_ := fnc_i r9_ s9_ (by omega) (by omega) rfl (show S_.2.2.1 61 0 (2 * a1_ + 1).toNat + S_.2.2.1 57 (0 + ll_) (S_.1 5 ll_ 2).toNat < S_.2.2.1 61 0 (2 * a1_).toNat by omega) a0_ (fun k9_ => (hI_.2 55 (0 + ll_) k9_).2) rfl; exact z9_) | (have z9_ := fnc_i s9_ r9_ (by omega) (by omega) rfl (show S_.2.2.1 61 0 (2 * a1_).toNat + S_.2.2.1 57 (0 + ll_) (S_.1 5 ll_ 2).toNat < S_.2.2.1 61 0 (2 * a1_ + 1).toNat by omega) a0_ (fun k9_ => (hI_.2 55 (0 + ll_) k9_).2) rfl; exact ⟨z9_.2, z9_.1⟩)
        · have cx4_ : ¬ ((S_.1 5 ll_ 2) = (-1)) := of_decide_eq_false cx4_
          refine sm_T_go 1 (c1 := (174, [some (.inr (.inr (some (6, 0)))), some (.inl a1_), some (.inl c9_), none, none], [.inr (.inr (some (6, 0)))], S_)) rfl ?_
          refine sm_T_gr rfl rfl ((hF_.2.1 6 0 1 rfl).trans hc_) ?_
          refine sm_T_go 2 (c1 := (181, [some (.inr (.inr (some (6, 0)))), some (.inl a1_), some (.inl c9_), none, none], [.inr (.inr (some (6, 0))), .inr (.inr (some (57, (0 + ll_))))], S_)) rfl ?_
          refine sm_T_gr rfl rfl ((hF_.2.1 6 0 1 rfl).trans hc_) ?_
          refine sm_T_go 1 (c1 := (187, [some (.inr (.inr (some (6, 0)))), some (.inl a1_), some (.inl c9_), none, none], [.inl (S_.1 5 ll_ 2), .inr (.inr (some (57, (0 + ll_))))], S_)) rfl ?_
          refine sm_T_iald (n := 12) rfl rfl (by omega) (by omega) ?_
          have bx5_ : 0 ≤ S_.2.2.1 57 (0 + ll_) (S_.1 5 ll_ 2).toNat ∧ S_.2.2.1 57 (0 + ll_) (S_.1 5 ll_ 2).toNat ≤ 1000 := hI_.2 57 (0 + ll_) _
          refine sm_T_go 5 (c1 := (195, [some (.inr (.inr (some (6, 0)))), some (.inl a1_), some (.inl (S_.2.2.1 57 (0 + ll_) (S_.1 5 ll_ 2).toNat)), none, none], [.inl a1_, .inl 2, .inr (.inr (some (61, 0)))], S_)) rfl ?_
          refine sm_T_bin (w := 2 * a1_) rfl (bi_mul (by omega) (by omega) (by omega)) ?_ -- pc_ 195
          refine sm_T_iald (n := 2026) rfl rfl (by omega) (by omega) ?_
          have bx6_ : 0 ≤ S_.2.2.1 61 0 (2 * a1_).toNat ∧ S_.2.2.1 61 0 (2 * a1_).toNat ≤ 268435456 := hI_.2 61 0 _
          refine sm_T_go 5 (c1 := (204, [some (.inr (.inr (some (6, 0)))), some (.inl a1_), some (.inl (S_.2.2.1 57 (0 + ll_) (S_.1 5 ll_ 2).toNat)), some (.inl (S_.2.2.1 61 0 (2 * a1_).toNat)), none], [.inl a1_, .inl 2, .inr (.inr (some (61, 0)))], S_)) rfl ?_
          refine sm_T_bin (w := 2 * a1_) rfl (bi_mul (by omega) (by omega) (by omega)) ?_ -- pc_ 204
          refine sm_T_go 1 (c1 := (206, [some (.inr (.inr (some (6, 0)))), some (.inl a1_), some (.inl (S_.2.2.1 57 (0 + ll_) (S_.1 5 ll_ 2).toNat)), some (.inl (S_.2.2.1 61 0 (2 * a1_).toNat)), none], [.inl 1, .inl (2 * a1_), .inr (.inr (some (61, 0)))], S_)) rfl ?_
          refine sm_T_bin (w := 2 * a1_ + 1) rfl (bi_add (by omega) (by omega) (by omega)) ?_ -- pc_ 206
          refine sm_T_iald (n := 2026) rfl rfl (by omega) (by omega) ?_
          have bx7_ : 0 ≤ S_.2.2.1 61 0 (2 * a1_ + 1).toNat ∧ S_.2.2.1 61 0 (2 * a1_ + 1).toNat ≤ 268435456 := hI_.2 61 0 _
          refine sm_T_go 3 (c1 := (213, [some (.inr (.inr (some (6, 0)))), some (.inl a1_), some (.inl (S_.2.2.1 57 (0 + ll_) (S_.1 5 ll_ 2).toNat)), some (.inl (S_.2.2.1 61 0 (2 * a1_).toNat)), some (.inl (S_.2.2.1 61 0 (2 * a1_ + 1).toNat))], [.inl (S_.2.2.1 57 (0 + ll_) (S_.1 5 ll_ 2).toNat), .inl (S_.2.2.1 61 0 (2 * a1_ + 1).toNat)], S_)) rfl ?_
          refine sm_T_bin (w := (S_.2.2.1 61 0 (2 * a1_ + 1).toNat) + (S_.2.2.1 57 (0 + ll_) (S_.1 5 ll_ 2).toNat)) rfl (bi_add (by omega) (by omega) (by omega)) ?_ -- pc_ 213
          refine sm_T_go 1 (c1 := (215, [some (.inr (.inr (some (6, 0)))), some (.inl a1_), some (.inl (S_.2.2.1 57 (0 + ll_) (S_.1 5 ll_ 2).toNat)), some (.inl (S_.2.2.1 61 0 (2 * a1_).toNat)), some (.inl (S_.2.2.1 61 0 (2 * a1_ + 1).toNat))], [.inl (S_.2.2.1 61 0 (2 * a1_).toNat), .inl ((S_.2.2.1 61 0 (2 * a1_ + 1).toNat) + (S_.2.2.1 57 (0 + ll_) (S_.1 5 ll_ 2).toNat))], S_)) rfl ?_
          refine sm_T_br (a := 3) (z := 28) rfl (fun cx8_ => ?_) (fun cx8_ => ?_)
          · have cx8_ : (S_.2.2.1 61 0 (2 * a1_).toNat) ≤ (S_.2.2.1 61 0 (2 * a1_ + 1).toNat) + (S_.2.2.1 57 (0 + ll_) (S_.1 5 ll_ 2).toNat) := of_decide_eq_true cx8_
            refine sm_T_go 2 (c1 := (245, [some (.inr (.inr (some (6, 0)))), some (.inl a1_), some (.inl (S_.2.2.1 57 (0 + ll_) (S_.1 5 ll_ 2).toNat)), some (.inl (S_.2.2.1 61 0 (2 * a1_).toNat)), some (.inl (S_.2.2.1 61 0 (2 * a1_ + 1).toNat))], [.inl (S_.2.2.1 57 (0 + ll_) (S_.1 5 ll_ 2).toNat), .inl (S_.2.2.1 61 0 (2 * a1_).toNat)], S_)) rfl ?_
            refine sm_T_bin (w := (S_.2.2.1 61 0 (2 * a1_).toNat) + (S_.2.2.1 57 (0 + ll_) (S_.1 5 ll_ 2).toNat)) rfl (bi_add (by omega) (by omega) (by omega)) ?_ -- pc_ 245
            refine sm_T_go 1 (c1 := (248, [some (.inr (.inr (some (6, 0)))), some (.inl a1_), some (.inl (S_.2.2.1 57 (0 + ll_) (S_.1 5 ll_ 2).toNat)), some (.inl (S_.2.2.1 61 0 (2 * a1_).toNat)), some (.inl (S_.2.2.1 61 0 (2 * a1_ + 1).toNat))], [.inl (S_.2.2.1 61 0 (2 * a1_ + 1).toNat), .inl ((S_.2.2.1 61 0 (2 * a1_).toNat) + (S_.2.2.1 57 (0 + ll_) (S_.1 5 ll_ 2).toNat))], S_)) rfl ?_
            refine sm_T_br (a := 3) (z := 28) rfl (fun cx9_ => ?_) (fun cx9_ => ?_)
            · have cx9_ : (S_.2.2.1 61 0 (2 * a1_ + 1).toNat) ≤ (S_.2.2.1 61 0 (2 * a1_).toNat) + (S_.2.2.1 57 (0 + ll_) (S_.1 5 ll_ 2).toNat) := of_decide_eq_true cx9_
              refine sm_T_rv rfl ⟨_, _, rfl, rfl, hI_, hF_, ?_⟩
              refine ⟨?_, ?_⟩
              · first | exact ⟨Or.inl hv0_, Or.inl hv1_, hf_⟩ | (have z9_ := wok_iv hv0_ hv1_ (by omega) (by omega) (by omega) (show S_.2.2.1 61 0 (2 * a1_ + 1).toNat + S_.2.2.1 57 (0 + ll_) (S_.1 5 ll_ 2).toNat < S_.2.2.1 61 0 (2 * a1_).toNat by omega) (by omega) (by omega) (fun k9_ => (hI_.2 55 (0 + ll_) k9_).2); exact ⟨z9_.1, z9_.2.1, wfn_tr hf_ (wfn_l z9_.2.2 (by omega))⟩) | (have z9_ := wok_iv hv1_ hv0_ (by omega) (by omega) (by omega) (show S_.2.2.1 61 0 (2 * a1_).toNat + S_.2.2.1 57 (0 + ll_) (S_.1 5 ll_ 2).toNat < S_.2.2.1 61 0 (2 * a1_ + 1).toNat by omega) (by omega) (by omega) (fun k9_ => (hI_.2 55 (0 + ll_) k9_).2); exact ⟨z9_.2.1, z9_.1, wfn_tr hf_ (wfn_l z9_.2.2 (by omega))⟩)
              · obtain ⟨m9_, O9_, B9_, q9_, r9_, s9_⟩ := hX_
                have cq9_ := cor_q q9_.1.1 (crn_d m9_) q9_.2.1
                refine ⟨m9_, (fun i_ => (crn (fun x_ => decide (F_ ≤ x_ ∧ S0_.2.2.1 60 0 x_ = 0)) (fun x_ => srp dd_ S0_ (S0_.2.2.1 42 (0 + dd_) x_)) (fun x_ => srp dd_ S0_ (S0_.2.2.1 43 (0 + dd_) x_)) a1_.toNat m9_).getD (O9_.getD i_ 0) []), fun i_ => B9_ (O9_.getD i_ 0), q9_.1.2, cq9_.1, cq9_.2, fun i_ hi_ => ?_, ?_⟩
                · have g9_ := cor_g q9_.2.1 hi_
                  have hd9_ := gd_s g9_.2.1
                  exact ⟨⟨(q9_.1.1.2 _ _ hd9_).1.1, List.mem_of_getElem? hd9_⟩, (q9_.2.2 _ _ (by (have z9_ := q9_.1.1.1; omega)) hd9_).2⟩
                · rw [show c9_.toNat = (S0_.1 5 ll_ 1).toNat by omega] at r9_ s9_
                  have a0_ : 0 ≤ S_.2.2.1 57 (0 + ll_) (S_.1 5 ll_ 2).toNat := (hI_.2 57 (0 + ll_) _).1
                  first | (exact ⟨fnc_n r9_ s9_ (by omega), fnc_n s9_ r9_ (by omega)⟩) | (have z9_ := fnc_i r9_ s9_ (by omega) (by omega) rfl (show S_.2.2.1 61 0 (2 * a1_ + 1).toNat + S_.2.2.1 57 (0 + ll_) (S_.1 5 ll_ 2).toNat < S_.2.2.1 61 0 (2 * a1_).toNat by omega) a0_ (fun k9_ => (hI_.2 55 (0 + ll_) k9_).2) rfl; exact z9_) | (have z9_ := fnc_i s9_ r9_ (by omega) (by omega) rfl (show S_.2.2.1 61 0 (2 * a1_).toNat + S_.2.2.1 57 (0 + ll_) (S_.1 5 ll_ 2).toNat < S_.2.2.1 61 0 (2 * a1_ + 1).toNat by omega) a0_ (fun k9_ => (hI_.2 55 (0 + ll_) k9_).2) rfl; exact ⟨z9_.2, z9_.1⟩)
            · have cx9_ : ¬ ((S_.2.2.1 61 0 (2 * a1_ + 1).toNat) ≤ (S_.2.2.1 61 0 (2 * a1_).toNat) + (S_.2.2.1 57 (0 + ll_) (S_.1 5 ll_ 2).toNat)) := of_decide_eq_false cx9_
              refine sm_T_go 4 (c1 := (257, [some (.inr (.inr (some (6, 0)))), some (.inl a1_), some (.inl (S_.2.2.1 57 (0 + ll_) (S_.1 5 ll_ 2).toNat)), some (.inl (S_.2.2.1 61 0 (2 * a1_).toNat)), some (.inl (S_.2.2.1 61 0 (2 * a1_ + 1).toNat))], [.inl a1_, .inl 2, .inr (.inr (some (61, 0)))], S_)) rfl ?_
              refine sm_T_bin (w := 2 * a1_) rfl (bi_mul (by omega) (by omega) (by omega)) ?_ -- pc_ 257
              refine sm_T_go 1 (c1 := (259, [some (.inr (.inr (some (6, 0)))), some (.inl a1_), some (.inl (S_.2.2.1 57 (0 + ll_) (S_.1 5 ll_ 2).toNat)), some (.inl (S_.2.2.1 61 0 (2 * a1_).toNat)), some (.inl (S_.2.2.1 61 0 (2 * a1_ + 1).toNat))], [.inl 1, .inl (2 * a1_), .inr (.inr (some (61, 0)))], S_)) rfl ?_
              refine sm_T_bin (w := 2 * a1_ + 1) rfl (bi_add (by omega) (by omega) (by omega)) ?_ -- pc_ 259
              refine sm_T_go 2 (c1 := (262, [some (.inr (.inr (some (6, 0)))), some (.inl a1_), some (.inl (S_.2.2.1 57 (0 + ll_) (S_.1 5 ll_ 2).toNat)), some (.inl (S_.2.2.1 61 0 (2 * a1_).toNat)), some (.inl (S_.2.2.1 61 0 (2 * a1_ + 1).toNat))], [.inl (S_.2.2.1 57 (0 + ll_) (S_.1 5 ll_ 2).toNat), .inl (S_.2.2.1 61 0 (2 * a1_).toNat), .inl (2 * a1_ + 1), .inr (.inr (some (61, 0)))], S_)) rfl ?_
              refine sm_T_bin (w := (S_.2.2.1 61 0 (2 * a1_).toNat) + (S_.2.2.1 57 (0 + ll_) (S_.1 5 ll_ 2).toNat)) rfl (bi_add (by omega) (by omega) (by omega)) ?_ -- pc_ 262
              refine sm_T_iast (n := 2026) rfl rfl (by omega) (by omega) ?_
              have hIx10_ : gi (sm_aI S_ 61 0 (2 * a1_ + 1).toNat ((S_.2.2.1 61 0 (2 * a1_).toNat) + (S_.2.2.1 57 (0 + ll_) (S_.1 5 ll_ 2).toNat))) := gi_aI hI_ (show 0 ≤ (S_.2.2.1 61 0 (2 * a1_).toNat) + (S_.2.2.1 57 (0 + ll_) (S_.1 5 ll_ 2).toNat) ∧ (S_.2.2.1 61 0 (2 * a1_).toNat) + (S_.2.2.1 57 (0 + ll_) (S_.1 5 ll_ 2).toNat) ≤ 268435456 from ⟨by omega, by omega⟩)
              have hFx11_ : ai_fr (sx_W vw_99n) S0_ (sm_aI S_ 61 0 (2 * a1_ + 1).toNat ((S_.2.2.1 61 0 (2 * a1_).toNat) + (S_.2.2.1 57 (0 + ll_) (S_.1 5 ll_ 2).toNat))) := ai_fr_tr hF_ (ai_fr_aI rfl)
              refine sm_T_go 4 (c1 := (270, [some (.inr (.inr (some (6, 0)))), some (.inl a1_), some (.inl (S_.2.2.1 57 (0 + ll_) (S_.1 5 ll_ 2).toNat)), some (.inl (S_.2.2.1 61 0 (2 * a1_).toNat)), some (.inl (S_.2.2.1 61 0 (2 * a1_ + 1).toNat))], [.inl a1_, .inl 2, .inr (.inr (some (62, 0)))], sm_aI S_ 61 0 (2 * a1_ + 1).toNat ((S_.2.2.1 61 0 (2 * a1_).toNat) + (S_.2.2.1 57 (0 + ll_) (S_.1 5 ll_ 2).toNat)))) rfl ?_
              refine sm_T_bin (w := 2 * a1_) rfl (bi_mul (by omega) (by omega) (by omega)) ?_ -- pc_ 270
              refine sm_T_go 1 (c1 := (272, [some (.inr (.inr (some (6, 0)))), some (.inl a1_), some (.inl (S_.2.2.1 57 (0 + ll_) (S_.1 5 ll_ 2).toNat)), some (.inl (S_.2.2.1 61 0 (2 * a1_).toNat)), some (.inl (S_.2.2.1 61 0 (2 * a1_ + 1).toNat))], [.inl 1, .inl (2 * a1_), .inr (.inr (some (62, 0)))], sm_aI S_ 61 0 (2 * a1_ + 1).toNat ((S_.2.2.1 61 0 (2 * a1_).toNat) + (S_.2.2.1 57 (0 + ll_) (S_.1 5 ll_ 2).toNat)))) rfl ?_
              refine sm_T_bin (w := 2 * a1_ + 1) rfl (bi_add (by omega) (by omega) (by omega)) ?_ -- pc_ 272
              refine sm_T_go 1 (c1 := (275, [some (.inr (.inr (some (6, 0)))), some (.inl a1_), some (.inl (S_.2.2.1 57 (0 + ll_) (S_.1 5 ll_ 2).toNat)), some (.inl (S_.2.2.1 61 0 (2 * a1_).toNat)), some (.inl (S_.2.2.1 61 0 (2 * a1_ + 1).toNat))], [.inl (-2), .inl (2 * a1_ + 1), .inr (.inr (some (62, 0)))], sm_aI S_ 61 0 (2 * a1_ + 1).toNat ((S_.2.2.1 61 0 (2 * a1_).toNat) + (S_.2.2.1 57 (0 + ll_) (S_.1 5 ll_ 2).toNat)))) rfl ?_
              refine sm_T_iast (n := 2026) rfl rfl (by omega) (by omega) ?_
              have hIx12_ : gi (sm_aI (sm_aI S_ 61 0 (2 * a1_ + 1).toNat ((S_.2.2.1 61 0 (2 * a1_).toNat) + (S_.2.2.1 57 (0 + ll_) (S_.1 5 ll_ 2).toNat))) 62 0 (2 * a1_ + 1).toNat (-2)) := gi_aI hIx10_ (show (-2) ≤ (-2) ∧ (-2) ≤ 11 from ⟨by omega, by omega⟩)
              have hFx13_ : ai_fr (sx_W vw_99n) S0_ (sm_aI (sm_aI S_ 61 0 (2 * a1_ + 1).toNat ((S_.2.2.1 61 0 (2 * a1_).toNat) + (S_.2.2.1 57 (0 + ll_) (S_.1 5 ll_ 2).toNat))) 62 0 (2 * a1_ + 1).toNat (-2)) := ai_fr_tr hFx11_ (ai_fr_aI rfl)
              refine sm_T_rv rfl ⟨_, _, rfl, rfl, hIx12_, hFx13_, ?_⟩
              refine ⟨?_, ?_⟩
              · first | exact ⟨Or.inl hv0_, Or.inl hv1_, hf_⟩ | (have z9_ := wok_iv hv0_ hv1_ (by omega) (by omega) (by omega) (show S_.2.2.1 61 0 (2 * a1_ + 1).toNat + S_.2.2.1 57 (0 + ll_) (S_.1 5 ll_ 2).toNat < S_.2.2.1 61 0 (2 * a1_).toNat by omega) (by omega) (by omega) (fun k9_ => (hI_.2 55 (0 + ll_) k9_).2); exact ⟨z9_.1, z9_.2.1, wfn_tr hf_ (wfn_l z9_.2.2 (by omega))⟩) | (have z9_ := wok_iv hv1_ hv0_ (by omega) (by omega) (by omega) (show S_.2.2.1 61 0 (2 * a1_).toNat + S_.2.2.1 57 (0 + ll_) (S_.1 5 ll_ 2).toNat < S_.2.2.1 61 0 (2 * a1_ + 1).toNat by omega) (by omega) (by omega) (fun k9_ => (hI_.2 55 (0 + ll_) k9_).2); exact ⟨z9_.2.1, z9_.1, wfn_tr hf_ (wfn_l z9_.2.2 (by omega))⟩)
              · obtain ⟨m9_, O9_, B9_, q9_, r9_, s9_⟩ := hX_
                have cq9_ := cor_q q9_.1.1 (crn_d m9_) q9_.2.1
                refine ⟨m9_, (fun i_ => (crn (fun x_ => decide (F_ ≤ x_ ∧ S0_.2.2.1 60 0 x_ = 0)) (fun x_ => srp dd_ S0_ (S0_.2.2.1 42 (0 + dd_) x_)) (fun x_ => srp dd_ S0_ (S0_.2.2.1 43 (0 + dd_) x_)) a1_.toNat m9_).getD (O9_.getD i_ 0) []), fun i_ => B9_ (O9_.getD i_ 0), q9_.1.2, cq9_.1, cq9_.2, fun i_ hi_ => ?_, ?_⟩
                · have g9_ := cor_g q9_.2.1 hi_
                  have hd9_ := gd_s g9_.2.1
                  exact ⟨⟨(q9_.1.1.2 _ _ hd9_).1.1, List.mem_of_getElem? hd9_⟩, (q9_.2.2 _ _ (by (have z9_ := q9_.1.1.1; omega)) hd9_).2⟩
                · rw [show c9_.toNat = (S0_.1 5 ll_ 1).toNat by omega] at r9_ s9_
                  have a0_ : 0 ≤ S_.2.2.1 57 (0 + ll_) (S_.1 5 ll_ 2).toNat := (hI_.2 57 (0 + ll_) _).1
                  first | (exact ⟨fnc_n r9_ s9_ (by omega), fnc_n s9_ r9_ (by omega)⟩) | (have z9_ := fnc_i r9_ s9_ (by omega) (by omega) rfl (show S_.2.2.1 61 0 (2 * a1_ + 1).toNat + S_.2.2.1 57 (0 + ll_) (S_.1 5 ll_ 2).toNat < S_.2.2.1 61 0 (2 * a1_).toNat by omega) a0_ (fun k9_ => (hI_.2 55 (0 + ll_) k9_).2) rfl; exact z9_) | (have z9_ := fnc_i s9_ r9_ (by omega) (by omega) rfl (show S_.2.2.1 61 0 (2 * a1_).toNat + S_.2.2.1 57 (0 + ll_) (S_.1 5 ll_ 2).toNat < S_.2.2.1 61 0 (2 * a1_ + 1).toNat by omega) a0_ (fun k9_ => (hI_.2 55 (0 + ll_) k9_).2) rfl; exact ⟨z9_.2, z9_.1⟩)
          · have cx8_ : ¬ ((S_.2.2.1 61 0 (2 * a1_).toNat) ≤ (S_.2.2.1 61 0 (2 * a1_ + 1).toNat) + (S_.2.2.1 57 (0 + ll_) (S_.1 5 ll_ 2).toNat)) := of_decide_eq_false cx8_
            refine sm_T_go 4 (c1 := (224, [some (.inr (.inr (some (6, 0)))), some (.inl a1_), some (.inl (S_.2.2.1 57 (0 + ll_) (S_.1 5 ll_ 2).toNat)), some (.inl (S_.2.2.1 61 0 (2 * a1_).toNat)), some (.inl (S_.2.2.1 61 0 (2 * a1_ + 1).toNat))], [.inl a1_, .inl 2, .inr (.inr (some (61, 0)))], S_)) rfl ?_
            refine sm_T_bin (w := 2 * a1_) rfl (bi_mul (by omega) (by omega) (by omega)) ?_ -- pc_ 224
            refine sm_T_go 2 (c1 := (228, [some (.inr (.inr (some (6, 0)))), some (.inl a1_), some (.inl (S_.2.2.1 57 (0 + ll_) (S_.1 5 ll_ 2).toNat)), some (.inl (S_.2.2.1 61 0 (2 * a1_).toNat)), some (.inl (S_.2.2.1 61 0 (2 * a1_ + 1).toNat))], [.inl (S_.2.2.1 57 (0 + ll_) (S_.1 5 ll_ 2).toNat), .inl (S_.2.2.1 61 0 (2 * a1_ + 1).toNat), .inl (2 * a1_), .inr (.inr (some (61, 0)))], S_)) rfl ?_
            refine sm_T_bin (w := (S_.2.2.1 61 0 (2 * a1_ + 1).toNat) + (S_.2.2.1 57 (0 + ll_) (S_.1 5 ll_ 2).toNat)) rfl (bi_add (by omega) (by omega) (by omega)) ?_ -- pc_ 228
            refine sm_T_iast (n := 2026) rfl rfl (by omega) (by omega) ?_
            have hIx14_ : gi (sm_aI S_ 61 0 (2 * a1_).toNat ((S_.2.2.1 61 0 (2 * a1_ + 1).toNat) + (S_.2.2.1 57 (0 + ll_) (S_.1 5 ll_ 2).toNat))) := gi_aI hI_ (show 0 ≤ (S_.2.2.1 61 0 (2 * a1_ + 1).toNat) + (S_.2.2.1 57 (0 + ll_) (S_.1 5 ll_ 2).toNat) ∧ (S_.2.2.1 61 0 (2 * a1_ + 1).toNat) + (S_.2.2.1 57 (0 + ll_) (S_.1 5 ll_ 2).toNat) ≤ 268435456 from ⟨by omega, by omega⟩)
            have hFx15_ : ai_fr (sx_W vw_99n) S0_ (sm_aI S_ 61 0 (2 * a1_).toNat ((S_.2.2.1 61 0 (2 * a1_ + 1).toNat) + (S_.2.2.1 57 (0 + ll_) (S_.1 5 ll_ 2).toNat))) := ai_fr_tr hF_ (ai_fr_aI rfl)
            refine sm_T_go 4 (c1 := (236, [some (.inr (.inr (some (6, 0)))), some (.inl a1_), some (.inl (S_.2.2.1 57 (0 + ll_) (S_.1 5 ll_ 2).toNat)), some (.inl (S_.2.2.1 61 0 (2 * a1_).toNat)), some (.inl (S_.2.2.1 61 0 (2 * a1_ + 1).toNat))], [.inl a1_, .inl 2, .inr (.inr (some (62, 0)))], sm_aI S_ 61 0 (2 * a1_).toNat ((S_.2.2.1 61 0 (2 * a1_ + 1).toNat) + (S_.2.2.1 57 (0 + ll_) (S_.1 5 ll_ 2).toNat)))) rfl ?_
            refine sm_T_bin (w := 2 * a1_) rfl (bi_mul (by omega) (by omega) (by omega)) ?_ -- pc_ 236
            refine sm_T_go 1 (c1 := (239, [some (.inr (.inr (some (6, 0)))), some (.inl a1_), some (.inl (S_.2.2.1 57 (0 + ll_) (S_.1 5 ll_ 2).toNat)), some (.inl (S_.2.2.1 61 0 (2 * a1_).toNat)), some (.inl (S_.2.2.1 61 0 (2 * a1_ + 1).toNat))], [.inl (-2), .inl (2 * a1_), .inr (.inr (some (62, 0)))], sm_aI S_ 61 0 (2 * a1_).toNat ((S_.2.2.1 61 0 (2 * a1_ + 1).toNat) + (S_.2.2.1 57 (0 + ll_) (S_.1 5 ll_ 2).toNat)))) rfl ?_
            refine sm_T_iast (n := 2026) rfl rfl (by omega) (by omega) ?_
            have hIx16_ : gi (sm_aI (sm_aI S_ 61 0 (2 * a1_).toNat ((S_.2.2.1 61 0 (2 * a1_ + 1).toNat) + (S_.2.2.1 57 (0 + ll_) (S_.1 5 ll_ 2).toNat))) 62 0 (2 * a1_).toNat (-2)) := gi_aI hIx14_ (show (-2) ≤ (-2) ∧ (-2) ≤ 11 from ⟨by omega, by omega⟩)
            have hFx17_ : ai_fr (sx_W vw_99n) S0_ (sm_aI (sm_aI S_ 61 0 (2 * a1_).toNat ((S_.2.2.1 61 0 (2 * a1_ + 1).toNat) + (S_.2.2.1 57 (0 + ll_) (S_.1 5 ll_ 2).toNat))) 62 0 (2 * a1_).toNat (-2)) := ai_fr_tr hFx15_ (ai_fr_aI rfl)
            refine sm_T_go 1 (c1 := (276, [some (.inr (.inr (some (6, 0)))), some (.inl a1_), some (.inl (S_.2.2.1 57 (0 + ll_) (S_.1 5 ll_ 2).toNat)), some (.inl (S_.2.2.1 61 0 (2 * a1_).toNat)), some (.inl (S_.2.2.1 61 0 (2 * a1_ + 1).toNat))], [], sm_aI (sm_aI S_ 61 0 (2 * a1_).toNat ((S_.2.2.1 61 0 (2 * a1_ + 1).toNat) + (S_.2.2.1 57 (0 + ll_) (S_.1 5 ll_ 2).toNat))) 62 0 (2 * a1_).toNat (-2))) rfl ?_
            refine sm_T_rv rfl ⟨_, _, rfl, rfl, hIx16_, hFx17_, ?_⟩
            refine ⟨?_, ?_⟩
            · first | exact ⟨Or.inl hv0_, Or.inl hv1_, hf_⟩ | (have z9_ := wok_iv hv0_ hv1_ (by omega) (by omega) (by omega) (show S_.2.2.1 61 0 (2 * a1_ + 1).toNat + S_.2.2.1 57 (0 + ll_) (S_.1 5 ll_ 2).toNat < S_.2.2.1 61 0 (2 * a1_).toNat by omega) (by omega) (by omega) (fun k9_ => (hI_.2 55 (0 + ll_) k9_).2); exact ⟨z9_.1, z9_.2.1, wfn_tr hf_ (wfn_l z9_.2.2 (by omega))⟩) | (have z9_ := wok_iv hv1_ hv0_ (by omega) (by omega) (by omega) (show S_.2.2.1 61 0 (2 * a1_).toNat + S_.2.2.1 57 (0 + ll_) (S_.1 5 ll_ 2).toNat < S_.2.2.1 61 0 (2 * a1_ + 1).toNat by omega) (by omega) (by omega) (fun k9_ => (hI_.2 55 (0 + ll_) k9_).2); exact ⟨z9_.2.1, z9_.1, wfn_tr hf_ (wfn_l z9_.2.2 (by omega))⟩)
            · obtain ⟨m9_, O9_, B9_, q9_, r9_, s9_⟩ := hX_
              have cq9_ := cor_q q9_.1.1 (crn_d m9_) q9_.2.1
              refine ⟨m9_, (fun i_ => (crn (fun x_ => decide (F_ ≤ x_ ∧ S0_.2.2.1 60 0 x_ = 0)) (fun x_ => srp dd_ S0_ (S0_.2.2.1 42 (0 + dd_) x_)) (fun x_ => srp dd_ S0_ (S0_.2.2.1 43 (0 + dd_) x_)) a1_.toNat m9_).getD (O9_.getD i_ 0) []), fun i_ => B9_ (O9_.getD i_ 0), q9_.1.2, cq9_.1, cq9_.2, fun i_ hi_ => ?_, ?_⟩
              · have g9_ := cor_g q9_.2.1 hi_
                have hd9_ := gd_s g9_.2.1
                exact ⟨⟨(q9_.1.1.2 _ _ hd9_).1.1, List.mem_of_getElem? hd9_⟩, (q9_.2.2 _ _ (by (have z9_ := q9_.1.1.1; omega)) hd9_).2⟩
              · rw [show c9_.toNat = (S0_.1 5 ll_ 1).toNat by omega] at r9_ s9_
                have a0_ : 0 ≤ S_.2.2.1 57 (0 + ll_) (S_.1 5 ll_ 2).toNat := (hI_.2 57 (0 + ll_) _).1
                first | (exact ⟨fnc_n r9_ s9_ (by omega), fnc_n s9_ r9_ (by omega)⟩) | (have z9_ := fnc_i r9_ s9_ (by omega) (by omega) rfl (show S_.2.2.1 61 0 (2 * a1_ + 1).toNat + S_.2.2.1 57 (0 + ll_) (S_.1 5 ll_ 2).toNat < S_.2.2.1 61 0 (2 * a1_).toNat by omega) a0_ (fun k9_ => (hI_.2 55 (0 + ll_) k9_).2) rfl; exact z9_) | (have z9_ := fnc_i s9_ r9_ (by omega) (by omega) rfl (show S_.2.2.1 61 0 (2 * a1_).toNat + S_.2.2.1 57 (0 + ll_) (S_.1 5 ll_ 2).toNat < S_.2.2.1 61 0 (2 * a1_ + 1).toNat by omega) a0_ (fun k9_ => (hI_.2 55 (0 + ll_) k9_).2) rfl; exact ⟨z9_.2, z9_.1⟩)
      · have cx2_ : ¬ ((S_.1 5 ll_ 1) ≤ c9_) := of_decide_eq_false cx2_
        refine sm_T_go 2 (c1 := (94, [some (.inr (.inr (some (6, 0)))), some (.inl a1_), some (.inl c9_), some (.inl 0), none], [], S_)) rfl ?_
        refine ih_.2.2 c9_ 0 S_ hI_ hF_ ⟨?_, ?_, ?_, ?_, ?_, ?_, ?_, trivial⟩ ?_
        · omega
        · exact hX_
        · exact hv0_
        · exact hv1_
        · exact hf_
        · exact hcs_
        · exact ho_
        · omega
    · rintro c9_ i9_ S_ hI_ hF_ ⟨h0_, hX_, hv0_, hv1_, hf_, hcs_, ho_, -⟩ hm_
      have f57_ : S_.2.2.1 57 (0 + ll_) = S0_.2.2.1 57 (0 + ll_) := fr_arr hF_ rfl
      have f69_ : S_.2.2.1 69 0 = S0_.2.2.1 69 0 := fr_arr hF_ rfl
      have f51_ : S_.1 5 ll_ 1 = S0_.1 5 ll_ 1 := hF_.1 5 ll_ 1 rfl
      have f55_ : S_.2.2.1 55 (0 + ll_) = S0_.2.2.1 55 (0 + ll_) := fr_arr hF_ rfl
      have f59_ : S_.2.2.1 59 0 = S0_.2.2.1 59 0 := fr_arr hF_ rfl
      have f60_ : S_.2.2.1 60 0 = S0_.2.2.1 60 0 := fr_arr hF_ rfl
      have f1_ : S_.1 3 dd_ 1 = S0_.1 3 dd_ 1 := hF_.1 3 dd_ 1 rfl
      have f2_ : S_.1 3 dd_ 2 = S0_.1 3 dd_ 2 := hF_.1 3 dd_ 2 rfl
      have f5_ : S_.1 5 ll_ 2 = S0_.1 5 ll_ 2 := hF_.1 5 ll_ 2 rfl
      have ck_ : 0 ≤ S_.1 6 0 11 ∧ S_.1 6 0 11 ≤ 1024 := hI_.1 6 0 11 rfl
      have cq_ : 0 ≤ S_.1 5 ll_ 1 ∧ S_.1 5 ll_ 1 ≤ 12 := hI_.1 5 ll_ 1 rfl
      have n13_ : 0 ≤ S_.1 3 dd_ 4 ∧ S_.1 3 dd_ 4 ≤ 1013 := hI_.1 3 dd_ 4 rfl
      have f4_ : S_.1 3 dd_ 4 = S0_.1 3 dd_ 4 := hF_.1 3 dd_ 4 rfl
      have g1_ := hg_.1
      have bx1_ : 0 ≤ S_.1 6 0 11 ∧ S_.1 6 0 11 ≤ 1024 := hI_.1 6 0 11 rfl
      refine sm_T_go 3 (c1 := (99, [some (.inr (.inr (some (6, 0)))), some (.inl a1_), some (.inl c9_), some (.inl i9_), none], [.inl (S_.1 6 0 11), .inl i9_], S_)) rfl ?_
      refine sm_T_br (a := 3) (z := 57) rfl (fun cx2_ => ?_) (fun cx2_ => ?_)
      · have cx2_ : (S_.1 6 0 11) ≤ i9_ := of_decide_eq_true cx2_
        refine sm_T_inc (a := 2) (z := 1) (v := c9_) (w := c9_ + 1) rfl rfl (by omega) (by omega) (by omega) ?_ -- pc_ 156
        refine sm_T_go 1 (c1 := (81, [some (.inr (.inr (some (6, 0)))), some (.inl a1_), some (.inl (c9_ + 1)), some (.inl i9_), none], [], S_)) rfl ?_
        refine sm_T_wk [some (.inr (.inr (some (6, 0)))), some (.inl a1_), some (.inl (c9_ + 1)), none, none] (by exact ⟨rfl, rfl, rfl, trivial⟩) ?_
        refine ih_.2.1 (c9_ + 1) S_ hI_ hF_ ⟨?_, ?_, ?_, ?_, ?_, ?_, ?_, trivial⟩ ?_
        · omega
        · obtain ⟨m9_, O9_, B9_, q9_, r9_, s9_⟩ := hX_
          have n9_ : i9_.toNat = (crn (fun x_ => decide (F_ ≤ x_ ∧ S0_.2.2.1 60 0 x_ = 0)) (fun x_ => srp dd_ S0_ (S0_.2.2.1 42 (0 + dd_) x_)) (fun x_ => srp dd_ S0_ (S0_.2.2.1 43 (0 + dd_) x_)) a1_.toNat m9_).length := by (have z9_ := q9_.1.1.1; omega)
          rw [n9_] at r9_ s9_
          refine ⟨m9_, O9_, B9_, q9_, ?_, ?_⟩
          · rw [show (c9_ + 1).toNat = c9_.toNat + 1 by omega, cfo_s]; exact r9_
          · rw [show (c9_ + 1).toNat = c9_.toNat + 1 by omega, cfo_s]; exact s9_
        · exact hv0_
        · exact hv1_
        · exact hf_
        · exact hcs_
        · exact ho_
        · omega
      · have cx2_ : ¬ ((S_.1 6 0 11) ≤ i9_) := of_decide_eq_false cx2_
        have o9_ := ho_ i9_.toNat (by omega)
        obtain ⟨m9_, O9_, B9_, q9_, r9_, s9_⟩ := hX_
        have g9_ := cor_g q9_.2.1 (j_ := i9_.toNat) (by (have z9_ := q9_.1.1.1; omega))
        have hd9_ := gd_s g9_.2.1
        have y9_ := q9_.1.1.2 _ _ hd9_
        have w9_ := q9_.2.2 _ _ (by omega) hd9_
        have cn9_ : (S_.2.2.1 66 0 i9_.toNat).toNat = O9_.getD i9_.toNat 0 := by omega
        have c29_ := y9_.2 2 (by decide)
        rw [show 3 * O9_.getD i9_.toNat 0 + 2 = (3 * S_.2.2.1 66 0 i9_.toNat + 2).toNat by omega] at c29_
        have l29_ : imq (S_.2.2.1 65 0 (3 * S_.2.2.1 66 0 i9_.toNat + 2).toNat = -1) (((fun i_ => (crn (fun x_ => decide (F_ ≤ x_ ∧ S0_.2.2.1 60 0 x_ = 0)) (fun x_ => srp dd_ S0_ (S0_.2.2.1 42 (0 + dd_) x_)) (fun x_ => srp dd_ S0_ (S0_.2.2.1 43 (0 + dd_) x_)) a1_.toNat m9_).getD (O9_.getD i_ 0) []) i9_.toNat).length = 2) ∧ imq (S_.2.2.1 65 0 (3 * S_.2.2.1 66 0 i9_.toNat + 2).toNat ≠ -1) (((fun i_ => (crn (fun x_ => decide (F_ ≤ x_ ∧ S0_.2.2.1 60 0 x_ = 0)) (fun x_ => srp dd_ S0_ (S0_.2.2.1 42 (0 + dd_) x_)) (fun x_ => srp dd_ S0_ (S0_.2.2.1 43 (0 + dd_) x_)) a1_.toNat m9_).getD (O9_.getD i_ 0) []) i9_.toNat).length = 3) := by (refine ⟨fun u9_ => ?_, fun u9_ => ?_⟩; (have v9_ := List.getElem?_eq_none_iff.mp (cva_z (c29_.symm.trans u9_)); have v8_ := y9_.1.1; show ((crn (fun x_ => decide (F_ ≤ x_ ∧ S0_.2.2.1 60 0 x_ = 0)) (fun x_ => srp dd_ S0_ (S0_.2.2.1 42 (0 + dd_) x_)) (fun x_ => srp dd_ S0_ (S0_.2.2.1 43 (0 + dd_) x_)) a1_.toNat m9_).getD (O9_.getD i9_.toNat 0) []).length = 2; omega); (have v9_ := (List.getElem?_eq_some_iff.mp (cva_x c29_.symm u9_)).1; have v8_ := y9_.1.1; show ((crn (fun x_ => decide (F_ ≤ x_ ∧ S0_.2.2.1 60 0 x_ = 0)) (fun x_ => srp dd_ S0_ (S0_.2.2.1 42 (0 + dd_) x_)) (fun x_ => srp dd_ S0_ (S0_.2.2.1 43 (0 + dd_) x_)) a1_.toNat m9_).getD (O9_.getD i9_.toNat 0) []).length = 3; omega))
        refine sm_T_go 3 (c1 := (107, [some (.inr (.inr (some (6, 0)))), some (.inl a1_), some (.inl c9_), some (.inl i9_), none], [.inl i9_, .inr (.inr (some (66, 0)))], S_)) rfl ?_
        refine sm_T_iald (n := 1024) rfl rfl (by omega) (by omega) ?_
        have bx3_ : 0 ≤ S_.2.2.1 66 0 i9_.toNat ∧ S_.2.2.1 66 0 i9_.toNat ≤ 1023 := hI_.2 66 0 _
        refine sm_T_go 2 (c1 := (111, [some (.inr (.inr (some (6, 0)))), some (.inl a1_), some (.inl c9_), some (.inl i9_), some (.inl (S_.2.2.1 66 0 i9_.toNat))], [.inr (.inr (some (6, 0)))], S_)) rfl ?_
        refine sm_T_gr rfl rfl ((hF_.2.1 6 0 1 rfl).trans hc_) ?_
        refine sm_T_go 2 (c1 := (118, [some (.inr (.inr (some (6, 0)))), some (.inl a1_), some (.inl c9_), some (.inl i9_), some (.inl (S_.2.2.1 66 0 i9_.toNat))], [.inl c9_, .inr (.inr (some (55, (0 + ll_))))], S_)) rfl ?_
        refine sm_T_iald (n := 12) rfl rfl (by omega) (by omega) ?_
        have bx4_ : 0 ≤ S_.2.2.1 55 (0 + ll_) c9_.toNat ∧ S_.2.2.1 55 (0 + ll_) c9_.toNat ≤ 3 := hI_.2 55 (0 + ll_) _
        refine sm_T_go 4 (c1 := (126, [some (.inr (.inr (some (6, 0)))), some (.inl a1_), some (.inl c9_), some (.inl i9_), some (.inl (S_.2.2.1 66 0 i9_.toNat))], [.inl (S_.2.2.1 66 0 i9_.toNat), .inl 3, .inr (.inr (some (65, 0))), .inl (S_.2.2.1 55 (0 + ll_) c9_.toNat)], S_)) rfl ?_
        refine sm_T_bin (w := 3 * (S_.2.2.1 66 0 i9_.toNat)) rfl (bi_mul (by omega) (by omega) (by omega)) ?_ -- pc_ 126
        refine sm_T_go 1 (c1 := (128, [some (.inr (.inr (some (6, 0)))), some (.inl a1_), some (.inl c9_), some (.inl i9_), some (.inl (S_.2.2.1 66 0 i9_.toNat))], [.inl 2, .inl (3 * (S_.2.2.1 66 0 i9_.toNat)), .inr (.inr (some (65, 0))), .inl (S_.2.2.1 55 (0 + ll_) c9_.toNat)], S_)) rfl ?_
        refine sm_T_bin (w := 3 * (S_.2.2.1 66 0 i9_.toNat) + 2) rfl (bi_add (by omega) (by omega) (by omega)) ?_ -- pc_ 128
        refine sm_T_iald (n := 3072) rfl rfl (by omega) (by omega) ?_
        have bx5_ : (-1) ≤ S_.2.2.1 65 0 (3 * (S_.2.2.1 66 0 i9_.toNat) + 2).toNat ∧ S_.2.2.1 65 0 (3 * (S_.2.2.1 66 0 i9_.toNat) + 2).toNat ≤ 1012 := hI_.2 65 0 _
        refine sm_T_go 1 (c1 := (131, [some (.inr (.inr (some (6, 0)))), some (.inl a1_), some (.inl c9_), some (.inl i9_), some (.inl (S_.2.2.1 66 0 i9_.toNat))], [.inl (-1), .inl (S_.2.2.1 65 0 (3 * (S_.2.2.1 66 0 i9_.toNat) + 2).toNat), .inl (S_.2.2.1 55 (0 + ll_) c9_.toNat)], S_)) rfl ?_
        refine sm_T_br (a := 1) (z := 7) rfl (fun cx6_ => ?_) (fun cx6_ => ?_)
        · have cx6_ : (S_.2.2.1 65 0 (3 * (S_.2.2.1 66 0 i9_.toNat) + 2).toNat) ≠ (-1) := of_decide_eq_true cx6_
          refine sm_T_go 1 (c1 := (139, [some (.inr (.inr (some (6, 0)))), some (.inl a1_), some (.inl c9_), some (.inl i9_), some (.inl (S_.2.2.1 66 0 i9_.toNat))], [.inl 3, .inl (S_.2.2.1 55 (0 + ll_) c9_.toNat)], S_)) rfl ?_
          refine sm_T_br (a := 1) (z := 11) rfl (fun cx7_ => ?_) (fun cx7_ => ?_)
          · have cx7_ : (S_.2.2.1 55 (0 + ll_) c9_.toNat) ≠ 3 := of_decide_eq_true cx7_
            refine sm_T_inc (a := 3) (z := 1) (v := i9_) (w := i9_ + 1) rfl rfl (by omega) (by omega) (by omega) ?_ -- pc_ 150
            refine sm_T_go 1 (c1 := (94, [some (.inr (.inr (some (6, 0)))), some (.inl a1_), some (.inl c9_), some (.inl (i9_ + 1)), some (.inl (S_.2.2.1 66 0 i9_.toNat))], [], S_)) rfl ?_
            refine sm_T_wk [some (.inr (.inr (some (6, 0)))), some (.inl a1_), some (.inl c9_), some (.inl (i9_ + 1)), none] (by exact ⟨rfl, rfl, rfl, rfl, trivial⟩) ?_
            refine ih_.2.2 c9_ (i9_ + 1) S_ hI_ hF_ ⟨?_, ?_, ?_, ?_, ?_, ?_, ?_, trivial⟩ ?_
            · omega
            · first | (have y8_ := A147_; rw [← k147_] at q147_; exact ⟨m9_, O9_, B9_, q147_, A147_, B147_⟩) | (refine ⟨m9_, O9_, B9_, q9_, ?_, ?_⟩; (rw [show (i9_ + 1).toNat = i9_.toNat + 1 by omega, cfo_s, wct_n (Q_ := (fun i_ => (crn (fun x_ => decide (F_ ≤ x_ ∧ S0_.2.2.1 60 0 x_ = 0)) (fun x_ => srp dd_ S0_ (S0_.2.2.1 42 (0 + dd_) x_)) (fun x_ => srp dd_ S0_ (S0_.2.2.1 43 (0 + dd_) x_)) a1_.toNat m9_).getD (O9_.getD i_ 0) [])) (i_ := i9_.toNat) (show ¬ (S0_.2.2.1 55 (0 + ll_) c9_.toNat).toNat = ((fun i_ => (crn (fun x_ => decide (F_ ≤ x_ ∧ S0_.2.2.1 60 0 x_ = 0)) (fun x_ => srp dd_ S0_ (S0_.2.2.1 42 (0 + dd_) x_)) (fun x_ => srp dd_ S0_ (S0_.2.2.1 43 (0 + dd_) x_)) a1_.toNat m9_).getD (O9_.getD i_ 0) []) i9_.toNat).length from fun u9_ => by (have z9_ := l29_; rw [← f55_] at u9_; first | (rw [z9_.1 (by omega)] at u9_; omega) | (rw [z9_.2 (by omega)] at u9_; omega)))]; exact r9_); (rw [show (i9_ + 1).toNat = i9_.toNat + 1 by omega, cfo_s, wct_n (Q_ := (fun i_ => (crn (fun x_ => decide (F_ ≤ x_ ∧ S0_.2.2.1 60 0 x_ = 0)) (fun x_ => srp dd_ S0_ (S0_.2.2.1 42 (0 + dd_) x_)) (fun x_ => srp dd_ S0_ (S0_.2.2.1 43 (0 + dd_) x_)) a1_.toNat m9_).getD (O9_.getD i_ 0) [])) (i_ := i9_.toNat) (show ¬ (S0_.2.2.1 55 (0 + ll_) c9_.toNat).toNat = ((fun i_ => (crn (fun x_ => decide (F_ ≤ x_ ∧ S0_.2.2.1 60 0 x_ = 0)) (fun x_ => srp dd_ S0_ (S0_.2.2.1 42 (0 + dd_) x_)) (fun x_ => srp dd_ S0_ (S0_.2.2.1 43 (0 + dd_) x_)) a1_.toNat m9_).getD (O9_.getD i_ 0) []) i9_.toNat).length from fun u9_ => by (have z9_ := l29_; rw [← f55_] at u9_; first | (rw [z9_.1 (by omega)] at u9_; omega) | (rw [z9_.2 (by omega)] at u9_; omega)))]; exact s9_))
            · first | exact hv0_ | exact t147_.1
            · first | exact hv1_ | exact t147_.2.1
            · first | exact hf_ | exact wfn_tr hf_ t147_.2.2
            · first | exact hcs_ | exact c147_
            · first | exact ho_ | exact o147_
            · omega
          · have cx7_ : ¬ ((S_.2.2.1 55 (0 + ll_) c9_.toNat) ≠ 3) := of_decide_eq_false cx7_
            refine sm_T_go 4 (c1 := (147, [some (.inr (.inr (some (6, 0)))), some (.inl a1_), some (.inl c9_), some (.inl i9_), some (.inl (S_.2.2.1 66 0 i9_.toNat))], [.inl (S_.2.2.1 66 0 i9_.toNat), .inl c9_, .inl a1_, .inr (.inr (some (6, 0)))], S_)) rfl ?_
            refine sm_T_cal (d1 := 3) (Q1 := vq_107n a1_ c9_ (S_.2.2.1 66 0 i9_.toNat) dd_ ll_ ((fun i_ => (crn (fun x_ => decide (F_ ≤ x_ ∧ S0_.2.2.1 60 0 x_ = 0)) (fun x_ => srp dd_ S0_ (S0_.2.2.1 42 (0 + dd_) x_)) (fun x_ => srp dd_ S0_ (S0_.2.2.1 43 (0 + dd_) x_)) a1_.toNat m9_).getD (O9_.getD i_ 0) []) i9_.toNat) (cfo (wct adc (pcc (1 + S0_.1 3 dd_ 1 + S0_.1 3 dd_ 2) ll_ S0_) ((hcf (S0_.2.2.1 69 0) (fun i_ => B9_ (O9_.getD i_ 0)) (fun i_ => (crn (fun x_ => decide (F_ ≤ x_ ∧ S0_.2.2.1 60 0 x_ = 0)) (fun x_ => srp dd_ S0_ (S0_.2.2.1 42 (0 + dd_) x_)) (fun x_ => srp dd_ S0_ (S0_.2.2.1 43 (0 + dd_) x_)) a1_.toNat m9_).getD (O9_.getD i_ 0) []) 0) c9_.toNat) ((fun cell => S0_.2.2.1 57 (0 + ll_) cell) c9_.toNat) c9_.toNat ((fun cell => (S0_.2.2.1 55 (0 + ll_) cell).toNat) c9_.toNat) (fun i_ => (crn (fun x_ => decide (F_ ≤ x_ ∧ S0_.2.2.1 60 0 x_ = 0)) (fun x_ => srp dd_ S0_ (S0_.2.2.1 42 (0 + dd_) x_)) (fun x_ => srp dd_ S0_ (S0_.2.2.1 43 (0 + dd_) x_)) a1_.toNat m9_).getD (O9_.getD i_ 0) [])) (i9_.toNat) (cfo (wcl adc (pcc (1 + S0_.1 3 dd_ 1 + S0_.1 3 dd_ 2) ll_ S0_) (hcf (S0_.2.2.1 69 0) (fun i_ => B9_ (O9_.getD i_ 0)) (fun i_ => (crn (fun x_ => decide (F_ ≤ x_ ∧ S0_.2.2.1 60 0 x_ = 0)) (fun x_ => srp dd_ S0_ (S0_.2.2.1 42 (0 + dd_) x_)) (fun x_ => srp dd_ S0_ (S0_.2.2.1 43 (0 + dd_) x_)) a1_.toNat m9_).getD (O9_.getD i_ 0) []) 0) (fun cell => S0_.2.2.1 57 (0 + ll_) cell) (fun cell => (S0_.2.2.1 55 (0 + ll_) cell).toNat) (fun i_ => (crn (fun x_ => decide (F_ ≤ x_ ∧ S0_.2.2.1 60 0 x_ = 0)) (fun x_ => srp dd_ S0_ (S0_.2.2.1 42 (0 + dd_) x_)) (fun x_ => srp dd_ S0_ (S0_.2.2.1 43 (0 + dd_) x_)) a1_.toNat m9_).getD (O9_.getD i_ 0) []) (crn (fun x_ => decide (F_ ≤ x_ ∧ S0_.2.2.1 60 0 x_ = 0)) (fun x_ => srp dd_ S0_ (S0_.2.2.1 42 (0 + dd_) x_)) (fun x_ => srp dd_ S0_ (S0_.2.2.1 43 (0 + dd_) x_)) a1_.toNat m9_).length) (c9_.toNat) (268435456, -1, 0, fun _ => 0))) (cfo (wct adc (pcc (1 + S0_.1 3 dd_ 1 + S0_.1 3 dd_ 2) ll_ S0_) ((hcf (S0_.2.2.1 69 0) (fun i_ => B9_ (O9_.getD i_ 0)) (fun i_ => (crn (fun x_ => decide (F_ ≤ x_ ∧ S0_.2.2.1 60 0 x_ = 0)) (fun x_ => srp dd_ S0_ (S0_.2.2.1 42 (0 + dd_) x_)) (fun x_ => srp dd_ S0_ (S0_.2.2.1 43 (0 + dd_) x_)) a1_.toNat m9_).getD (O9_.getD i_ 0) []) 1) c9_.toNat) ((fun cell => S0_.2.2.1 57 (0 + ll_) cell) c9_.toNat) c9_.toNat ((fun cell => (S0_.2.2.1 55 (0 + ll_) cell).toNat) c9_.toNat) (fun i_ => (crn (fun x_ => decide (F_ ≤ x_ ∧ S0_.2.2.1 60 0 x_ = 0)) (fun x_ => srp dd_ S0_ (S0_.2.2.1 42 (0 + dd_) x_)) (fun x_ => srp dd_ S0_ (S0_.2.2.1 43 (0 + dd_) x_)) a1_.toNat m9_).getD (O9_.getD i_ 0) [])) (i9_.toNat) (cfo (wcl adc (pcc (1 + S0_.1 3 dd_ 1 + S0_.1 3 dd_ 2) ll_ S0_) (hcf (S0_.2.2.1 69 0) (fun i_ => B9_ (O9_.getD i_ 0)) (fun i_ => (crn (fun x_ => decide (F_ ≤ x_ ∧ S0_.2.2.1 60 0 x_ = 0)) (fun x_ => srp dd_ S0_ (S0_.2.2.1 42 (0 + dd_) x_)) (fun x_ => srp dd_ S0_ (S0_.2.2.1 43 (0 + dd_) x_)) a1_.toNat m9_).getD (O9_.getD i_ 0) []) 1) (fun cell => S0_.2.2.1 57 (0 + ll_) cell) (fun cell => (S0_.2.2.1 55 (0 + ll_) cell).toNat) (fun i_ => (crn (fun x_ => decide (F_ ≤ x_ ∧ S0_.2.2.1 60 0 x_ = 0)) (fun x_ => srp dd_ S0_ (S0_.2.2.1 42 (0 + dd_) x_)) (fun x_ => srp dd_ S0_ (S0_.2.2.1 43 (0 + dd_) x_)) a1_.toNat m9_).getD (O9_.getD i_ 0) []) (crn (fun x_ => decide (F_ ≤ x_ ∧ S0_.2.2.1 60 0 x_ = 0)) (fun x_ => srp dd_ S0_ (S0_.2.2.1 42 (0 + dd_) x_)) (fun x_ => srp dd_ S0_ (S0_.2.2.1 43 (0 + dd_) x_)) a1_.toNat m9_).length) (c9_.toNat) (268435456, -1, 0, fun _ => 0))) S_) rfl rfl (by decide) (vc_107n a1_ c9_ (S_.2.2.1 66 0 i9_.toNat) dd_ ll_ ((fun i_ => (crn (fun x_ => decide (F_ ≤ x_ ∧ S0_.2.2.1 60 0 x_ = 0)) (fun x_ => srp dd_ S0_ (S0_.2.2.1 42 (0 + dd_) x_)) (fun x_ => srp dd_ S0_ (S0_.2.2.1 43 (0 + dd_) x_)) a1_.toNat m9_).getD (O9_.getD i_ 0) []) i9_.toNat) (cfo (wct adc (pcc (1 + S0_.1 3 dd_ 1 + S0_.1 3 dd_ 2) ll_ S0_) ((hcf (S0_.2.2.1 69 0) (fun i_ => B9_ (O9_.getD i_ 0)) (fun i_ => (crn (fun x_ => decide (F_ ≤ x_ ∧ S0_.2.2.1 60 0 x_ = 0)) (fun x_ => srp dd_ S0_ (S0_.2.2.1 42 (0 + dd_) x_)) (fun x_ => srp dd_ S0_ (S0_.2.2.1 43 (0 + dd_) x_)) a1_.toNat m9_).getD (O9_.getD i_ 0) []) 0) c9_.toNat) ((fun cell => S0_.2.2.1 57 (0 + ll_) cell) c9_.toNat) c9_.toNat ((fun cell => (S0_.2.2.1 55 (0 + ll_) cell).toNat) c9_.toNat) (fun i_ => (crn (fun x_ => decide (F_ ≤ x_ ∧ S0_.2.2.1 60 0 x_ = 0)) (fun x_ => srp dd_ S0_ (S0_.2.2.1 42 (0 + dd_) x_)) (fun x_ => srp dd_ S0_ (S0_.2.2.1 43 (0 + dd_) x_)) a1_.toNat m9_).getD (O9_.getD i_ 0) [])) (i9_.toNat) (cfo (wcl adc (pcc (1 + S0_.1 3 dd_ 1 + S0_.1 3 dd_ 2) ll_ S0_) (hcf (S0_.2.2.1 69 0) (fun i_ => B9_ (O9_.getD i_ 0)) (fun i_ => (crn (fun x_ => decide (F_ ≤ x_ ∧ S0_.2.2.1 60 0 x_ = 0)) (fun x_ => srp dd_ S0_ (S0_.2.2.1 42 (0 + dd_) x_)) (fun x_ => srp dd_ S0_ (S0_.2.2.1 43 (0 + dd_) x_)) a1_.toNat m9_).getD (O9_.getD i_ 0) []) 0) (fun cell => S0_.2.2.1 57 (0 + ll_) cell) (fun cell => (S0_.2.2.1 55 (0 + ll_) cell).toNat) (fun i_ => (crn (fun x_ => decide (F_ ≤ x_ ∧ S0_.2.2.1 60 0 x_ = 0)) (fun x_ => srp dd_ S0_ (S0_.2.2.1 42 (0 + dd_) x_)) (fun x_ => srp dd_ S0_ (S0_.2.2.1 43 (0 + dd_) x_)) a1_.toNat m9_).getD (O9_.getD i_ 0) []) (crn (fun x_ => decide (F_ ≤ x_ ∧ S0_.2.2.1 60 0 x_ = 0)) (fun x_ => srp dd_ S0_ (S0_.2.2.1 42 (0 + dd_) x_)) (fun x_ => srp dd_ S0_ (S0_.2.2.1 43 (0 + dd_) x_)) a1_.toNat m9_).length) (c9_.toNat) (268435456, -1, 0, fun _ => 0))) (cfo (wct adc (pcc (1 + S0_.1 3 dd_ 1 + S0_.1 3 dd_ 2) ll_ S0_) ((hcf (S0_.2.2.1 69 0) (fun i_ => B9_ (O9_.getD i_ 0)) (fun i_ => (crn (fun x_ => decide (F_ ≤ x_ ∧ S0_.2.2.1 60 0 x_ = 0)) (fun x_ => srp dd_ S0_ (S0_.2.2.1 42 (0 + dd_) x_)) (fun x_ => srp dd_ S0_ (S0_.2.2.1 43 (0 + dd_) x_)) a1_.toNat m9_).getD (O9_.getD i_ 0) []) 1) c9_.toNat) ((fun cell => S0_.2.2.1 57 (0 + ll_) cell) c9_.toNat) c9_.toNat ((fun cell => (S0_.2.2.1 55 (0 + ll_) cell).toNat) c9_.toNat) (fun i_ => (crn (fun x_ => decide (F_ ≤ x_ ∧ S0_.2.2.1 60 0 x_ = 0)) (fun x_ => srp dd_ S0_ (S0_.2.2.1 42 (0 + dd_) x_)) (fun x_ => srp dd_ S0_ (S0_.2.2.1 43 (0 + dd_) x_)) a1_.toNat m9_).getD (O9_.getD i_ 0) [])) (i9_.toNat) (cfo (wcl adc (pcc (1 + S0_.1 3 dd_ 1 + S0_.1 3 dd_ 2) ll_ S0_) (hcf (S0_.2.2.1 69 0) (fun i_ => B9_ (O9_.getD i_ 0)) (fun i_ => (crn (fun x_ => decide (F_ ≤ x_ ∧ S0_.2.2.1 60 0 x_ = 0)) (fun x_ => srp dd_ S0_ (S0_.2.2.1 42 (0 + dd_) x_)) (fun x_ => srp dd_ S0_ (S0_.2.2.1 43 (0 + dd_) x_)) a1_.toNat m9_).getD (O9_.getD i_ 0) []) 1) (fun cell => S0_.2.2.1 57 (0 + ll_) cell) (fun cell => (S0_.2.2.1 55 (0 + ll_) cell).toNat) (fun i_ => (crn (fun x_ => decide (F_ ≤ x_ ∧ S0_.2.2.1 60 0 x_ = 0)) (fun x_ => srp dd_ S0_ (S0_.2.2.1 42 (0 + dd_) x_)) (fun x_ => srp dd_ S0_ (S0_.2.2.1 43 (0 + dd_) x_)) a1_.toNat m9_).getD (O9_.getD i_ 0) []) (crn (fun x_ => decide (F_ ≤ x_ ∧ S0_.2.2.1 60 0 x_ = 0)) (fun x_ => srp dd_ S0_ (S0_.2.2.1 42 (0 + dd_) x_)) (fun x_ => srp dd_ S0_ (S0_.2.2.1 43 (0 + dd_) x_)) a1_.toNat m9_).length) (c9_.toNat) (268435456, -1, 0, fun _ => 0))) S_ hI_ (by (intro j9_ u9_; rw [cn9_]; exact y9_.2 j9_ u9_)) (by exact r9_) (by exact s9_) (by exact (hF_.2.1 6 0 0 rfl).trans hd_) (by exact (hF_.2.1 6 0 1 rfl).trans hc_) (by omega) (by omega) (by omega) (by omega) (by (rw [f59_]; exact hcs_)) (by (rw [f1_, f2_]; exact hv0_)) (by (rw [f1_, f2_]; exact hv1_))) (fun u_ Sx8_ px11_ => ?_)
            obtain ⟨rfl, hIx9_, hFx10_, px11_⟩ := px11_
            have hFx12_ : ai_fr (sx_W vw_99n) S0_ Sx8_ := ai_fr_tr hF_ (fr_le hFx10_ rfl)
            have ex13_ : Sx8_.1 6 0 11 = S_.1 6 0 11 := hFx10_.1 6 0 11 rfl
            have t147_ := (px11_).1
            rw [f1_, f2_] at t147_
            have X147_ := (px11_).2
            rw [f55_, f57_, f1_, f2_, f69_, cn9_, w9_.1] at X147_
            have lq9_ : (S0_.2.2.1 55 (0 + ll_) c9_.toNat).toNat = ((fun i_ => (crn (fun x_ => decide (F_ ≤ x_ ∧ S0_.2.2.1 60 0 x_ = 0)) (fun x_ => srp dd_ S0_ (S0_.2.2.1 42 (0 + dd_) x_)) (fun x_ => srp dd_ S0_ (S0_.2.2.1 43 (0 + dd_) x_)) a1_.toNat m9_).getD (O9_.getD i_ 0) []) i9_.toNat).length := by (have z9_ := l29_; rw [← f55_]; first | (rw [z9_.1 (by omega)]; omega) | (rw [z9_.2 (by omega)]; omega))
            have PQ9_ : ∀ (x_ : Nat) (t_ : Int), x_ ∈ (fun i_ => (crn (fun x_ => decide (F_ ≤ x_ ∧ S0_.2.2.1 60 0 x_ = 0)) (fun x_ => srp dd_ S0_ (S0_.2.2.1 42 (0 + dd_) x_)) (fun x_ => srp dd_ S0_ (S0_.2.2.1 43 (0 + dd_) x_)) a1_.toNat m9_).getD (O9_.getD i_ 0) []) i9_.toNat → 0 ≤ t_ → t_ ≤ 1 → pcc (1 + S0_.1 3 dd_ 1 + S0_.1 3 dd_ 2) ll_ S_ x_ t_ = pcc (1 + S0_.1 3 dd_ 1 + S0_.1 3 dd_ 2) ll_ S0_ x_ t_ := fun x_ t_ hx_ t0_ t1_ => pcc_cg (n_ := a1_) (by (obtain ⟨j9_, hj9_⟩ := List.getElem?_of_mem hx_; have jl_ := (List.getElem?_eq_some_iff.mp hj9_).1; have jv_ := y9_.2 j9_ (by (have z9_ := y9_.1.1; exact Nat.lt_of_lt_of_le jl_ z9_.2)); have je_ : cva ((fun i_ => (crn (fun x_ => decide (F_ ≤ x_ ∧ S0_.2.2.1 60 0 x_ = 0)) (fun x_ => srp dd_ S0_ (S0_.2.2.1 42 (0 + dd_) x_)) (fun x_ => srp dd_ S0_ (S0_.2.2.1 43 (0 + dd_) x_)) a1_.toNat m9_).getD (O9_.getD i_ 0) []) i9_.toNat) j9_ = (x_ : Int) := (by (unfold cva; rw [hj9_])); have jm_ := mcs_b hcs_ (i_ := ((O9_.getD i9_.toNat 0 : Nat) : Int)) (k_ := (j9_ : Int)) (by omega) (by (have z9_ := y9_.1.1; have z8_ : j9_ < 3 := Nat.lt_of_lt_of_le jl_ z9_.2; omega)) (fun u9_ => by (rw [show (3 * ((O9_.getD i9_.toNat 0 : Nat) : Int) + 2).toNat = 3 * O9_.getD i9_.toNat 0 + j9_ by omega, jv_]; rw [show cva ((crn (fun x_ => decide (F_ ≤ x_ ∧ S0_.2.2.1 60 0 x_ = 0)) (fun x_ => srp dd_ S0_ (S0_.2.2.1 42 (0 + dd_) x_)) (fun x_ => srp dd_ S0_ (S0_.2.2.1 43 (0 + dd_) x_)) a1_.toNat m9_).getD (O9_.getD i9_.toNat 0) []) j9_ = (x_ : Int) from je_]; omega)); rw [show (3 * ((O9_.getD i9_.toNat 0 : Nat) : Int) + (j9_ : Int)).toNat = 3 * O9_.getD i9_.toNat 0 + j9_ by omega, jv_, show cva ((crn (fun x_ => decide (F_ ≤ x_ ∧ S0_.2.2.1 60 0 x_ = 0)) (fun x_ => srp dd_ S0_ (S0_.2.2.1 42 (0 + dd_) x_)) (fun x_ => srp dd_ S0_ (S0_.2.2.1 43 (0 + dd_) x_)) a1_.toNat m9_).getD (O9_.getD i9_.toNat 0) []) j9_ = (x_ : Int) from je_] at jm_; exact ⟨by omega, jm_.2.1⟩)) ⟨t0_, t1_⟩ f60_ (fun j9_ u9_ => (hf_.1 j9_ (by omega) (by omega)).1) f5_ f57_
            have E147a : cfo (wvs adc (pcc (1 + S0_.1 3 dd_ 1 + S0_.1 3 dd_ 2) ll_ S_) (fun v_ => decide (S0_.2.2.1 69 0 (48 * c9_.toNat + v_) = B9_ (O9_.getD i9_.toNat 0))) (S0_.2.2.1 57 (0 + ll_) c9_.toNat) c9_.toNat ((fun i_ => (crn (fun x_ => decide (F_ ≤ x_ ∧ S0_.2.2.1 60 0 x_ = 0)) (fun x_ => srp dd_ S0_ (S0_.2.2.1 42 (0 + dd_) x_)) (fun x_ => srp dd_ S0_ (S0_.2.2.1 43 (0 + dd_) x_)) a1_.toNat m9_).getD (O9_.getD i_ 0) []) i9_.toNat) (S0_.2.2.1 55 (0 + ll_) c9_.toNat).toNat) (wic (S0_.2.2.1 55 (0 + ll_) c9_.toNat).toNat) (cfo (wct adc (pcc (1 + S0_.1 3 dd_ 1 + S0_.1 3 dd_ 2) ll_ S0_) ((hcf (S0_.2.2.1 69 0) (fun i_ => B9_ (O9_.getD i_ 0)) (fun i_ => (crn (fun x_ => decide (F_ ≤ x_ ∧ S0_.2.2.1 60 0 x_ = 0)) (fun x_ => srp dd_ S0_ (S0_.2.2.1 42 (0 + dd_) x_)) (fun x_ => srp dd_ S0_ (S0_.2.2.1 43 (0 + dd_) x_)) a1_.toNat m9_).getD (O9_.getD i_ 0) []) 0) c9_.toNat) ((fun cell => S0_.2.2.1 57 (0 + ll_) cell) c9_.toNat) c9_.toNat ((fun cell => (S0_.2.2.1 55 (0 + ll_) cell).toNat) c9_.toNat) (fun i_ => (crn (fun x_ => decide (F_ ≤ x_ ∧ S0_.2.2.1 60 0 x_ = 0)) (fun x_ => srp dd_ S0_ (S0_.2.2.1 42 (0 + dd_) x_)) (fun x_ => srp dd_ S0_ (S0_.2.2.1 43 (0 + dd_) x_)) a1_.toNat m9_).getD (O9_.getD i_ 0) [])) (i9_.toNat) (cfo (wcl adc (pcc (1 + S0_.1 3 dd_ 1 + S0_.1 3 dd_ 2) ll_ S0_) (hcf (S0_.2.2.1 69 0) (fun i_ => B9_ (O9_.getD i_ 0)) (fun i_ => (crn (fun x_ => decide (F_ ≤ x_ ∧ S0_.2.2.1 60 0 x_ = 0)) (fun x_ => srp dd_ S0_ (S0_.2.2.1 42 (0 + dd_) x_)) (fun x_ => srp dd_ S0_ (S0_.2.2.1 43 (0 + dd_) x_)) a1_.toNat m9_).getD (O9_.getD i_ 0) []) 0) (fun cell => S0_.2.2.1 57 (0 + ll_) cell) (fun cell => (S0_.2.2.1 55 (0 + ll_) cell).toNat) (fun i_ => (crn (fun x_ => decide (F_ ≤ x_ ∧ S0_.2.2.1 60 0 x_ = 0)) (fun x_ => srp dd_ S0_ (S0_.2.2.1 42 (0 + dd_) x_)) (fun x_ => srp dd_ S0_ (S0_.2.2.1 43 (0 + dd_) x_)) a1_.toNat m9_).getD (O9_.getD i_ 0) []) (crn (fun x_ => decide (F_ ≤ x_ ∧ S0_.2.2.1 60 0 x_ = 0)) (fun x_ => srp dd_ S0_ (S0_.2.2.1 42 (0 + dd_) x_)) (fun x_ => srp dd_ S0_ (S0_.2.2.1 43 (0 + dd_) x_)) a1_.toNat m9_).length) (c9_.toNat) (268435456, -1, 0, fun _ => 0))) = cfo (wvs adc (pcc (1 + S0_.1 3 dd_ 1 + S0_.1 3 dd_ 2) ll_ S0_) ((hcf (S0_.2.2.1 69 0) (fun i_ => B9_ (O9_.getD i_ 0)) (fun i_ => (crn (fun x_ => decide (F_ ≤ x_ ∧ S0_.2.2.1 60 0 x_ = 0)) (fun x_ => srp dd_ S0_ (S0_.2.2.1 42 (0 + dd_) x_)) (fun x_ => srp dd_ S0_ (S0_.2.2.1 43 (0 + dd_) x_)) a1_.toNat m9_).getD (O9_.getD i_ 0) []) 0) c9_.toNat i9_.toNat) (S0_.2.2.1 57 (0 + ll_) c9_.toNat) c9_.toNat ((fun i_ => (crn (fun x_ => decide (F_ ≤ x_ ∧ S0_.2.2.1 60 0 x_ = 0)) (fun x_ => srp dd_ S0_ (S0_.2.2.1 42 (0 + dd_) x_)) (fun x_ => srp dd_ S0_ (S0_.2.2.1 43 (0 + dd_) x_)) a1_.toNat m9_).getD (O9_.getD i_ 0) []) i9_.toNat) (S0_.2.2.1 55 (0 + ll_) c9_.toNat).toNat) (wic (S0_.2.2.1 55 (0 + ll_) c9_.toNat).toNat) (cfo (wct adc (pcc (1 + S0_.1 3 dd_ 1 + S0_.1 3 dd_ 2) ll_ S0_) ((hcf (S0_.2.2.1 69 0) (fun i_ => B9_ (O9_.getD i_ 0)) (fun i_ => (crn (fun x_ => decide (F_ ≤ x_ ∧ S0_.2.2.1 60 0 x_ = 0)) (fun x_ => srp dd_ S0_ (S0_.2.2.1 42 (0 + dd_) x_)) (fun x_ => srp dd_ S0_ (S0_.2.2.1 43 (0 + dd_) x_)) a1_.toNat m9_).getD (O9_.getD i_ 0) []) 0) c9_.toNat) ((fun cell => S0_.2.2.1 57 (0 + ll_) cell) c9_.toNat) c9_.toNat ((fun cell => (S0_.2.2.1 55 (0 + ll_) cell).toNat) c9_.toNat) (fun i_ => (crn (fun x_ => decide (F_ ≤ x_ ∧ S0_.2.2.1 60 0 x_ = 0)) (fun x_ => srp dd_ S0_ (S0_.2.2.1 42 (0 + dd_) x_)) (fun x_ => srp dd_ S0_ (S0_.2.2.1 43 (0 + dd_) x_)) a1_.toNat m9_).getD (O9_.getD i_ 0) [])) (i9_.toNat) (cfo (wcl adc (pcc (1 + S0_.1 3 dd_ 1 + S0_.1 3 dd_ 2) ll_ S0_) (hcf (S0_.2.2.1 69 0) (fun i_ => B9_ (O9_.getD i_ 0)) (fun i_ => (crn (fun x_ => decide (F_ ≤ x_ ∧ S0_.2.2.1 60 0 x_ = 0)) (fun x_ => srp dd_ S0_ (S0_.2.2.1 42 (0 + dd_) x_)) (fun x_ => srp dd_ S0_ (S0_.2.2.1 43 (0 + dd_) x_)) a1_.toNat m9_).getD (O9_.getD i_ 0) []) 0) (fun cell => S0_.2.2.1 57 (0 + ll_) cell) (fun cell => (S0_.2.2.1 55 (0 + ll_) cell).toNat) (fun i_ => (crn (fun x_ => decide (F_ ≤ x_ ∧ S0_.2.2.1 60 0 x_ = 0)) (fun x_ => srp dd_ S0_ (S0_.2.2.1 42 (0 + dd_) x_)) (fun x_ => srp dd_ S0_ (S0_.2.2.1 43 (0 + dd_) x_)) a1_.toNat m9_).getD (O9_.getD i_ 0) []) (crn (fun x_ => decide (F_ ≤ x_ ∧ S0_.2.2.1 60 0 x_ = 0)) (fun x_ => srp dd_ S0_ (S0_.2.2.1 42 (0 + dd_) x_)) (fun x_ => srp dd_ S0_ (S0_.2.2.1 43 (0 + dd_) x_)) a1_.toNat m9_).length) (c9_.toNat) (268435456, -1, 0, fun _ => 0))) := cfo_cg _ (fun v9_ b9_ hv9_ => wvs_cg y9_.1.1 lq9_ hv9_ PQ9_ (by rfl))
            have E147b : cfo (wvs adc (pcc (1 + S0_.1 3 dd_ 1 + S0_.1 3 dd_ 2) ll_ S_) (fun v_ => decide (S0_.2.2.1 69 0 (48 * c9_.toNat + v_) = i_xor (B9_ (O9_.getD i9_.toNat 0)) (if S0_.2.2.1 55 (0 + ll_) c9_.toNat = 2 then 15 else 255))) (S0_.2.2.1 57 (0 + ll_) c9_.toNat) c9_.toNat ((fun i_ => (crn (fun x_ => decide (F_ ≤ x_ ∧ S0_.2.2.1 60 0 x_ = 0)) (fun x_ => srp dd_ S0_ (S0_.2.2.1 42 (0 + dd_) x_)) (fun x_ => srp dd_ S0_ (S0_.2.2.1 43 (0 + dd_) x_)) a1_.toNat m9_).getD (O9_.getD i_ 0) []) i9_.toNat) (S0_.2.2.1 55 (0 + ll_) c9_.toNat).toNat) (wic (S0_.2.2.1 55 (0 + ll_) c9_.toNat).toNat) (cfo (wct adc (pcc (1 + S0_.1 3 dd_ 1 + S0_.1 3 dd_ 2) ll_ S0_) ((hcf (S0_.2.2.1 69 0) (fun i_ => B9_ (O9_.getD i_ 0)) (fun i_ => (crn (fun x_ => decide (F_ ≤ x_ ∧ S0_.2.2.1 60 0 x_ = 0)) (fun x_ => srp dd_ S0_ (S0_.2.2.1 42 (0 + dd_) x_)) (fun x_ => srp dd_ S0_ (S0_.2.2.1 43 (0 + dd_) x_)) a1_.toNat m9_).getD (O9_.getD i_ 0) []) 1) c9_.toNat) ((fun cell => S0_.2.2.1 57 (0 + ll_) cell) c9_.toNat) c9_.toNat ((fun cell => (S0_.2.2.1 55 (0 + ll_) cell).toNat) c9_.toNat) (fun i_ => (crn (fun x_ => decide (F_ ≤ x_ ∧ S0_.2.2.1 60 0 x_ = 0)) (fun x_ => srp dd_ S0_ (S0_.2.2.1 42 (0 + dd_) x_)) (fun x_ => srp dd_ S0_ (S0_.2.2.1 43 (0 + dd_) x_)) a1_.toNat m9_).getD (O9_.getD i_ 0) [])) (i9_.toNat) (cfo (wcl adc (pcc (1 + S0_.1 3 dd_ 1 + S0_.1 3 dd_ 2) ll_ S0_) (hcf (S0_.2.2.1 69 0) (fun i_ => B9_ (O9_.getD i_ 0)) (fun i_ => (crn (fun x_ => decide (F_ ≤ x_ ∧ S0_.2.2.1 60 0 x_ = 0)) (fun x_ => srp dd_ S0_ (S0_.2.2.1 42 (0 + dd_) x_)) (fun x_ => srp dd_ S0_ (S0_.2.2.1 43 (0 + dd_) x_)) a1_.toNat m9_).getD (O9_.getD i_ 0) []) 1) (fun cell => S0_.2.2.1 57 (0 + ll_) cell) (fun cell => (S0_.2.2.1 55 (0 + ll_) cell).toNat) (fun i_ => (crn (fun x_ => decide (F_ ≤ x_ ∧ S0_.2.2.1 60 0 x_ = 0)) (fun x_ => srp dd_ S0_ (S0_.2.2.1 42 (0 + dd_) x_)) (fun x_ => srp dd_ S0_ (S0_.2.2.1 43 (0 + dd_) x_)) a1_.toNat m9_).getD (O9_.getD i_ 0) []) (crn (fun x_ => decide (F_ ≤ x_ ∧ S0_.2.2.1 60 0 x_ = 0)) (fun x_ => srp dd_ S0_ (S0_.2.2.1 42 (0 + dd_) x_)) (fun x_ => srp dd_ S0_ (S0_.2.2.1 43 (0 + dd_) x_)) a1_.toNat m9_).length) (c9_.toNat) (268435456, -1, 0, fun _ => 0))) = cfo (wvs adc (pcc (1 + S0_.1 3 dd_ 1 + S0_.1 3 dd_ 2) ll_ S0_) ((hcf (S0_.2.2.1 69 0) (fun i_ => B9_ (O9_.getD i_ 0)) (fun i_ => (crn (fun x_ => decide (F_ ≤ x_ ∧ S0_.2.2.1 60 0 x_ = 0)) (fun x_ => srp dd_ S0_ (S0_.2.2.1 42 (0 + dd_) x_)) (fun x_ => srp dd_ S0_ (S0_.2.2.1 43 (0 + dd_) x_)) a1_.toNat m9_).getD (O9_.getD i_ 0) []) 1) c9_.toNat i9_.toNat) (S0_.2.2.1 57 (0 + ll_) c9_.toNat) c9_.toNat ((fun i_ => (crn (fun x_ => decide (F_ ≤ x_ ∧ S0_.2.2.1 60 0 x_ = 0)) (fun x_ => srp dd_ S0_ (S0_.2.2.1 42 (0 + dd_) x_)) (fun x_ => srp dd_ S0_ (S0_.2.2.1 43 (0 + dd_) x_)) a1_.toNat m9_).getD (O9_.getD i_ 0) []) i9_.toNat) (S0_.2.2.1 55 (0 + ll_) c9_.toNat).toNat) (wic (S0_.2.2.1 55 (0 + ll_) c9_.toNat).toNat) (cfo (wct adc (pcc (1 + S0_.1 3 dd_ 1 + S0_.1 3 dd_ 2) ll_ S0_) ((hcf (S0_.2.2.1 69 0) (fun i_ => B9_ (O9_.getD i_ 0)) (fun i_ => (crn (fun x_ => decide (F_ ≤ x_ ∧ S0_.2.2.1 60 0 x_ = 0)) (fun x_ => srp dd_ S0_ (S0_.2.2.1 42 (0 + dd_) x_)) (fun x_ => srp dd_ S0_ (S0_.2.2.1 43 (0 + dd_) x_)) a1_.toNat m9_).getD (O9_.getD i_ 0) []) 1) c9_.toNat) ((fun cell => S0_.2.2.1 57 (0 + ll_) cell) c9_.toNat) c9_.toNat ((fun cell => (S0_.2.2.1 55 (0 + ll_) cell).toNat) c9_.toNat) (fun i_ => (crn (fun x_ => decide (F_ ≤ x_ ∧ S0_.2.2.1 60 0 x_ = 0)) (fun x_ => srp dd_ S0_ (S0_.2.2.1 42 (0 + dd_) x_)) (fun x_ => srp dd_ S0_ (S0_.2.2.1 43 (0 + dd_) x_)) a1_.toNat m9_).getD (O9_.getD i_ 0) [])) (i9_.toNat) (cfo (wcl adc (pcc (1 + S0_.1 3 dd_ 1 + S0_.1 3 dd_ 2) ll_ S0_) (hcf (S0_.2.2.1 69 0) (fun i_ => B9_ (O9_.getD i_ 0)) (fun i_ => (crn (fun x_ => decide (F_ ≤ x_ ∧ S0_.2.2.1 60 0 x_ = 0)) (fun x_ => srp dd_ S0_ (S0_.2.2.1 42 (0 + dd_) x_)) (fun x_ => srp dd_ S0_ (S0_.2.2.1 43 (0 + dd_) x_)) a1_.toNat m9_).getD (O9_.getD i_ 0) []) 1) (fun cell => S0_.2.2.1 57 (0 + ll_) cell) (fun cell => (S0_.2.2.1 55 (0 + ll_) cell).toNat) (fun i_ => (crn (fun x_ => decide (F_ ≤ x_ ∧ S0_.2.2.1 60 0 x_ = 0)) (fun x_ => srp dd_ S0_ (S0_.2.2.1 42 (0 + dd_) x_)) (fun x_ => srp dd_ S0_ (S0_.2.2.1 43 (0 + dd_) x_)) a1_.toNat m9_).getD (O9_.getD i_ 0) []) (crn (fun x_ => decide (F_ ≤ x_ ∧ S0_.2.2.1 60 0 x_ = 0)) (fun x_ => srp dd_ S0_ (S0_.2.2.1 42 (0 + dd_) x_)) (fun x_ => srp dd_ S0_ (S0_.2.2.1 43 (0 + dd_) x_)) a1_.toNat m9_).length) (c9_.toNat) (268435456, -1, 0, fun _ => 0))) := cfo_cg _ (fun v9_ b9_ hv9_ => wvs_cg y9_.1.1 lq9_ hv9_ PQ9_ (by (show decide (S0_.2.2.1 69 0 (48 * c9_.toNat + v9_) = i_xor (B9_ (O9_.getD i9_.toNat 0)) (if S0_.2.2.1 55 (0 + ll_) c9_.toNat = 2 then 15 else 255)) = decide (S0_.2.2.1 69 0 (48 * c9_.toNat + v9_) = i_xor (B9_ (O9_.getD i9_.toNat 0)) (if ((fun i_ => (crn (fun x_ => decide (F_ ≤ x_ ∧ S0_.2.2.1 60 0 x_ = 0)) (fun x_ => srp dd_ S0_ (S0_.2.2.1 42 (0 + dd_) x_)) (fun x_ => srp dd_ S0_ (S0_.2.2.1 43 (0 + dd_) x_)) a1_.toNat m9_).getD (O9_.getD i_ 0) []) i9_.toNat).length = 2 then 15 else 255)); rw [← lq9_]; by_cases u9_ : S0_.2.2.1 55 (0 + ll_) c9_.toNat = 2; (rw [if_pos u9_, if_pos (show (S0_.2.2.1 55 (0 + ll_) c9_.toNat).toNat = 2 by omega)]); (rw [if_neg u9_, if_neg (show ¬ (S0_.2.2.1 55 (0 + ll_) c9_.toNat).toNat = 2 by omega)]))))
            have A147_ : wrc ll_ Sx8_ (2 * a1_).toNat (cfo (wct adc (pcc (1 + S0_.1 3 dd_ 1 + S0_.1 3 dd_ 2) ll_ S0_) ((hcf (S0_.2.2.1 69 0) (fun i_ => B9_ (O9_.getD i_ 0)) (fun i_ => (crn (fun x_ => decide (F_ ≤ x_ ∧ S0_.2.2.1 60 0 x_ = 0)) (fun x_ => srp dd_ S0_ (S0_.2.2.1 42 (0 + dd_) x_)) (fun x_ => srp dd_ S0_ (S0_.2.2.1 43 (0 + dd_) x_)) a1_.toNat m9_).getD (O9_.getD i_ 0) []) 0) c9_.toNat) ((fun cell => S0_.2.2.1 57 (0 + ll_) cell) c9_.toNat) c9_.toNat ((fun cell => (S0_.2.2.1 55 (0 + ll_) cell).toNat) c9_.toNat) (fun i_ => (crn (fun x_ => decide (F_ ≤ x_ ∧ S0_.2.2.1 60 0 x_ = 0)) (fun x_ => srp dd_ S0_ (S0_.2.2.1 42 (0 + dd_) x_)) (fun x_ => srp dd_ S0_ (S0_.2.2.1 43 (0 + dd_) x_)) a1_.toNat m9_).getD (O9_.getD i_ 0) [])) ((i9_ + 1).toNat) (cfo (wcl adc (pcc (1 + S0_.1 3 dd_ 1 + S0_.1 3 dd_ 2) ll_ S0_) (hcf (S0_.2.2.1 69 0) (fun i_ => B9_ (O9_.getD i_ 0)) (fun i_ => (crn (fun x_ => decide (F_ ≤ x_ ∧ S0_.2.2.1 60 0 x_ = 0)) (fun x_ => srp dd_ S0_ (S0_.2.2.1 42 (0 + dd_) x_)) (fun x_ => srp dd_ S0_ (S0_.2.2.1 43 (0 + dd_) x_)) a1_.toNat m9_).getD (O9_.getD i_ 0) []) 0) (fun cell => S0_.2.2.1 57 (0 + ll_) cell) (fun cell => (S0_.2.2.1 55 (0 + ll_) cell).toNat) (fun i_ => (crn (fun x_ => decide (F_ ≤ x_ ∧ S0_.2.2.1 60 0 x_ = 0)) (fun x_ => srp dd_ S0_ (S0_.2.2.1 42 (0 + dd_) x_)) (fun x_ => srp dd_ S0_ (S0_.2.2.1 43 (0 + dd_) x_)) a1_.toNat m9_).getD (O9_.getD i_ 0) []) (crn (fun x_ => decide (F_ ≤ x_ ∧ S0_.2.2.1 60 0 x_ = 0)) (fun x_ => srp dd_ S0_ (S0_.2.2.1 42 (0 + dd_) x_)) (fun x_ => srp dd_ S0_ (S0_.2.2.1 43 (0 + dd_) x_)) a1_.toNat m9_).length) (c9_.toNat) (268435456, -1, 0, fun _ => 0))) := by (have z9_ : wrc ll_ Sx8_ (2 * a1_).toNat (cfo (wvs adc (pcc (1 + S0_.1 3 dd_ 1 + S0_.1 3 dd_ 2) ll_ S_) (fun v_ => decide (S0_.2.2.1 69 0 (48 * c9_.toNat + v_) = B9_ (O9_.getD i9_.toNat 0))) (S0_.2.2.1 57 (0 + ll_) c9_.toNat) c9_.toNat ((fun i_ => (crn (fun x_ => decide (F_ ≤ x_ ∧ S0_.2.2.1 60 0 x_ = 0)) (fun x_ => srp dd_ S0_ (S0_.2.2.1 42 (0 + dd_) x_)) (fun x_ => srp dd_ S0_ (S0_.2.2.1 43 (0 + dd_) x_)) a1_.toNat m9_).getD (O9_.getD i_ 0) []) i9_.toNat) (S0_.2.2.1 55 (0 + ll_) c9_.toNat).toNat) (wic (S0_.2.2.1 55 (0 + ll_) c9_.toNat).toNat) (cfo (wct adc (pcc (1 + S0_.1 3 dd_ 1 + S0_.1 3 dd_ 2) ll_ S0_) ((hcf (S0_.2.2.1 69 0) (fun i_ => B9_ (O9_.getD i_ 0)) (fun i_ => (crn (fun x_ => decide (F_ ≤ x_ ∧ S0_.2.2.1 60 0 x_ = 0)) (fun x_ => srp dd_ S0_ (S0_.2.2.1 42 (0 + dd_) x_)) (fun x_ => srp dd_ S0_ (S0_.2.2.1 43 (0 + dd_) x_)) a1_.toNat m9_).getD (O9_.getD i_ 0) []) 0) c9_.toNat) ((fun cell => S0_.2.2.1 57 (0 + ll_) cell) c9_.toNat) c9_.toNat ((fun cell => (S0_.2.2.1 55 (0 + ll_) cell).toNat) c9_.toNat) (fun i_ => (crn (fun x_ => decide (F_ ≤ x_ ∧ S0_.2.2.1 60 0 x_ = 0)) (fun x_ => srp dd_ S0_ (S0_.2.2.1 42 (0 + dd_) x_)) (fun x_ => srp dd_ S0_ (S0_.2.2.1 43 (0 + dd_) x_)) a1_.toNat m9_).getD (O9_.getD i_ 0) [])) (i9_.toNat) (cfo (wcl adc (pcc (1 + S0_.1 3 dd_ 1 + S0_.1 3 dd_ 2) ll_ S0_) (hcf (S0_.2.2.1 69 0) (fun i_ => B9_ (O9_.getD i_ 0)) (fun i_ => (crn (fun x_ => decide (F_ ≤ x_ ∧ S0_.2.2.1 60 0 x_ = 0)) (fun x_ => srp dd_ S0_ (S0_.2.2.1 42 (0 + dd_) x_)) (fun x_ => srp dd_ S0_ (S0_.2.2.1 43 (0 + dd_) x_)) a1_.toNat m9_).getD (O9_.getD i_ 0) []) 0) (fun cell => S0_.2.2.1 57 (0 + ll_) cell) (fun cell => (S0_.2.2.1 55 (0 + ll_) cell).toNat) (fun i_ => (crn (fun x_ => decide (F_ ≤ x_ ∧ S0_.2.2.1 60 0 x_ = 0)) (fun x_ => srp dd_ S0_ (S0_.2.2.1 42 (0 + dd_) x_)) (fun x_ => srp dd_ S0_ (S0_.2.2.1 43 (0 + dd_) x_)) a1_.toNat m9_).getD (O9_.getD i_ 0) []) (crn (fun x_ => decide (F_ ≤ x_ ∧ S0_.2.2.1 60 0 x_ = 0)) (fun x_ => srp dd_ S0_ (S0_.2.2.1 42 (0 + dd_) x_)) (fun x_ => srp dd_ S0_ (S0_.2.2.1 43 (0 + dd_) x_)) a1_.toNat m9_).length) (c9_.toNat) (268435456, -1, 0, fun _ => 0)))) := X147_.1; rw [E147a] at z9_; rw [show (i9_ + 1).toNat = i9_.toNat + 1 by omega, cfo_s, wct_y (Q_ := (fun i_ => (crn (fun x_ => decide (F_ ≤ x_ ∧ S0_.2.2.1 60 0 x_ = 0)) (fun x_ => srp dd_ S0_ (S0_.2.2.1 42 (0 + dd_) x_)) (fun x_ => srp dd_ S0_ (S0_.2.2.1 43 (0 + dd_) x_)) a1_.toNat m9_).getD (O9_.getD i_ 0) [])) (i_ := i9_.toNat) lq9_]; exact z9_)
            have B147_ : wrc ll_ Sx8_ (2 * a1_ + 1).toNat (cfo (wct adc (pcc (1 + S0_.1 3 dd_ 1 + S0_.1 3 dd_ 2) ll_ S0_) ((hcf (S0_.2.2.1 69 0) (fun i_ => B9_ (O9_.getD i_ 0)) (fun i_ => (crn (fun x_ => decide (F_ ≤ x_ ∧ S0_.2.2.1 60 0 x_ = 0)) (fun x_ => srp dd_ S0_ (S0_.2.2.1 42 (0 + dd_) x_)) (fun x_ => srp dd_ S0_ (S0_.2.2.1 43 (0 + dd_) x_)) a1_.toNat m9_).getD (O9_.getD i_ 0) []) 1) c9_.toNat) ((fun cell => S0_.2.2.1 57 (0 + ll_) cell) c9_.toNat) c9_.toNat ((fun cell => (S0_.2.2.1 55 (0 + ll_) cell).toNat) c9_.toNat) (fun i_ => (crn (fun x_ => decide (F_ ≤ x_ ∧ S0_.2.2.1 60 0 x_ = 0)) (fun x_ => srp dd_ S0_ (S0_.2.2.1 42 (0 + dd_) x_)) (fun x_ => srp dd_ S0_ (S0_.2.2.1 43 (0 + dd_) x_)) a1_.toNat m9_).getD (O9_.getD i_ 0) [])) ((i9_ + 1).toNat) (cfo (wcl adc (pcc (1 + S0_.1 3 dd_ 1 + S0_.1 3 dd_ 2) ll_ S0_) (hcf (S0_.2.2.1 69 0) (fun i_ => B9_ (O9_.getD i_ 0)) (fun i_ => (crn (fun x_ => decide (F_ ≤ x_ ∧ S0_.2.2.1 60 0 x_ = 0)) (fun x_ => srp dd_ S0_ (S0_.2.2.1 42 (0 + dd_) x_)) (fun x_ => srp dd_ S0_ (S0_.2.2.1 43 (0 + dd_) x_)) a1_.toNat m9_).getD (O9_.getD i_ 0) []) 1) (fun cell => S0_.2.2.1 57 (0 + ll_) cell) (fun cell => (S0_.2.2.1 55 (0 + ll_) cell).toNat) (fun i_ => (crn (fun x_ => decide (F_ ≤ x_ ∧ S0_.2.2.1 60 0 x_ = 0)) (fun x_ => srp dd_ S0_ (S0_.2.2.1 42 (0 + dd_) x_)) (fun x_ => srp dd_ S0_ (S0_.2.2.1 43 (0 + dd_) x_)) a1_.toNat m9_).getD (O9_.getD i_ 0) []) (crn (fun x_ => decide (F_ ≤ x_ ∧ S0_.2.2.1 60 0 x_ = 0)) (fun x_ => srp dd_ S0_ (S0_.2.2.1 42 (0 + dd_) x_)) (fun x_ => srp dd_ S0_ (S0_.2.2.1 43 (0 + dd_) x_)) a1_.toNat m9_).length) (c9_.toNat) (268435456, -1, 0, fun _ => 0))) := by (have z9_ : wrc ll_ Sx8_ (2 * a1_ + 1).toNat (cfo (wvs adc (pcc (1 + S0_.1 3 dd_ 1 + S0_.1 3 dd_ 2) ll_ S_) (fun v_ => decide (S0_.2.2.1 69 0 (48 * c9_.toNat + v_) = i_xor (B9_ (O9_.getD i9_.toNat 0)) (if S0_.2.2.1 55 (0 + ll_) c9_.toNat = 2 then 15 else 255))) (S0_.2.2.1 57 (0 + ll_) c9_.toNat) c9_.toNat ((fun i_ => (crn (fun x_ => decide (F_ ≤ x_ ∧ S0_.2.2.1 60 0 x_ = 0)) (fun x_ => srp dd_ S0_ (S0_.2.2.1 42 (0 + dd_) x_)) (fun x_ => srp dd_ S0_ (S0_.2.2.1 43 (0 + dd_) x_)) a1_.toNat m9_).getD (O9_.getD i_ 0) []) i9_.toNat) (S0_.2.2.1 55 (0 + ll_) c9_.toNat).toNat) (wic (S0_.2.2.1 55 (0 + ll_) c9_.toNat).toNat) (cfo (wct adc (pcc (1 + S0_.1 3 dd_ 1 + S0_.1 3 dd_ 2) ll_ S0_) ((hcf (S0_.2.2.1 69 0) (fun i_ => B9_ (O9_.getD i_ 0)) (fun i_ => (crn (fun x_ => decide (F_ ≤ x_ ∧ S0_.2.2.1 60 0 x_ = 0)) (fun x_ => srp dd_ S0_ (S0_.2.2.1 42 (0 + dd_) x_)) (fun x_ => srp dd_ S0_ (S0_.2.2.1 43 (0 + dd_) x_)) a1_.toNat m9_).getD (O9_.getD i_ 0) []) 1) c9_.toNat) ((fun cell => S0_.2.2.1 57 (0 + ll_) cell) c9_.toNat) c9_.toNat ((fun cell => (S0_.2.2.1 55 (0 + ll_) cell).toNat) c9_.toNat) (fun i_ => (crn (fun x_ => decide (F_ ≤ x_ ∧ S0_.2.2.1 60 0 x_ = 0)) (fun x_ => srp dd_ S0_ (S0_.2.2.1 42 (0 + dd_) x_)) (fun x_ => srp dd_ S0_ (S0_.2.2.1 43 (0 + dd_) x_)) a1_.toNat m9_).getD (O9_.getD i_ 0) [])) (i9_.toNat) (cfo (wcl adc (pcc (1 + S0_.1 3 dd_ 1 + S0_.1 3 dd_ 2) ll_ S0_) (hcf (S0_.2.2.1 69 0) (fun i_ => B9_ (O9_.getD i_ 0)) (fun i_ => (crn (fun x_ => decide (F_ ≤ x_ ∧ S0_.2.2.1 60 0 x_ = 0)) (fun x_ => srp dd_ S0_ (S0_.2.2.1 42 (0 + dd_) x_)) (fun x_ => srp dd_ S0_ (S0_.2.2.1 43 (0 + dd_) x_)) a1_.toNat m9_).getD (O9_.getD i_ 0) []) 1) (fun cell => S0_.2.2.1 57 (0 + ll_) cell) (fun cell => (S0_.2.2.1 55 (0 + ll_) cell).toNat) (fun i_ => (crn (fun x_ => decide (F_ ≤ x_ ∧ S0_.2.2.1 60 0 x_ = 0)) (fun x_ => srp dd_ S0_ (S0_.2.2.1 42 (0 + dd_) x_)) (fun x_ => srp dd_ S0_ (S0_.2.2.1 43 (0 + dd_) x_)) a1_.toNat m9_).getD (O9_.getD i_ 0) []) (crn (fun x_ => decide (F_ ≤ x_ ∧ S0_.2.2.1 60 0 x_ = 0)) (fun x_ => srp dd_ S0_ (S0_.2.2.1 42 (0 + dd_) x_)) (fun x_ => srp dd_ S0_ (S0_.2.2.1 43 (0 + dd_) x_)) a1_.toNat m9_).length) (c9_.toNat) (268435456, -1, 0, fun _ => 0)))) := X147_.2; rw [E147b] at z9_; rw [show (i9_ + 1).toNat = i9_.toNat + 1 by omega, cfo_s, wct_y (Q_ := (fun i_ => (crn (fun x_ => decide (F_ ≤ x_ ∧ S0_.2.2.1 60 0 x_ = 0)) (fun x_ => srp dd_ S0_ (S0_.2.2.1 42 (0 + dd_) x_)) (fun x_ => srp dd_ S0_ (S0_.2.2.1 43 (0 + dd_) x_)) a1_.toNat m9_).getD (O9_.getD i_ 0) [])) (i_ := i9_.toNat) lq9_]; exact z9_)
            have q147_ := fwi_fr q9_ hFx10_
            have l147_ := hFx10_.1 5 ll_ 1 rfl
            have k147_ := hFx10_.1 6 0 11 rfl
            have c147_ : mcs (npd a1_ (S0_.2.2.1 59 0)) Sx8_ := mcs_fr hcs_ hFx10_
            have o147_ : ∀ i_ : Nat, (i_ : Int) < Sx8_.1 6 0 11 → Sx8_.2.2.1 66 0 i_ < Sx8_.1 6 0 11 := fun i_ q9_ => by (rw [k147_] at q9_ ⊢; rw [(hFx10_.2.2 66 rfl 0 i_).1]; exact ho_ i_ q9_)
            refine sm_T_inc (a := 3) (z := 1) (v := i9_) (w := i9_ + 1) rfl rfl (by omega) (by omega) (by omega) ?_ -- pc_ 150
            refine sm_T_go 1 (c1 := (94, [some (.inr (.inr (some (6, 0)))), some (.inl a1_), some (.inl c9_), some (.inl (i9_ + 1)), some (.inl (S_.2.2.1 66 0 i9_.toNat))], [], Sx8_)) rfl ?_
            refine sm_T_wk [some (.inr (.inr (some (6, 0)))), some (.inl a1_), some (.inl c9_), some (.inl (i9_ + 1)), none] (by exact ⟨rfl, rfl, rfl, rfl, trivial⟩) ?_
            refine ih_.2.2 c9_ (i9_ + 1) Sx8_ hIx9_ hFx12_ ⟨?_, ?_, ?_, ?_, ?_, ?_, ?_, trivial⟩ ?_
            · omega
            · first | (have y8_ := A147_; rw [← k147_] at q147_; exact ⟨m9_, O9_, B9_, q147_, A147_, B147_⟩) | (refine ⟨m9_, O9_, B9_, q9_, ?_, ?_⟩; (rw [show (i9_ + 1).toNat = i9_.toNat + 1 by omega, cfo_s, wct_n (Q_ := (fun i_ => (crn (fun x_ => decide (F_ ≤ x_ ∧ S0_.2.2.1 60 0 x_ = 0)) (fun x_ => srp dd_ S0_ (S0_.2.2.1 42 (0 + dd_) x_)) (fun x_ => srp dd_ S0_ (S0_.2.2.1 43 (0 + dd_) x_)) a1_.toNat m9_).getD (O9_.getD i_ 0) [])) (i_ := i9_.toNat) (show ¬ (S0_.2.2.1 55 (0 + ll_) c9_.toNat).toNat = ((fun i_ => (crn (fun x_ => decide (F_ ≤ x_ ∧ S0_.2.2.1 60 0 x_ = 0)) (fun x_ => srp dd_ S0_ (S0_.2.2.1 42 (0 + dd_) x_)) (fun x_ => srp dd_ S0_ (S0_.2.2.1 43 (0 + dd_) x_)) a1_.toNat m9_).getD (O9_.getD i_ 0) []) i9_.toNat).length from fun u9_ => by (have z9_ := l29_; rw [← f55_] at u9_; first | (rw [z9_.1 (by omega)] at u9_; omega) | (rw [z9_.2 (by omega)] at u9_; omega)))]; exact r9_); (rw [show (i9_ + 1).toNat = i9_.toNat + 1 by omega, cfo_s, wct_n (Q_ := (fun i_ => (crn (fun x_ => decide (F_ ≤ x_ ∧ S0_.2.2.1 60 0 x_ = 0)) (fun x_ => srp dd_ S0_ (S0_.2.2.1 42 (0 + dd_) x_)) (fun x_ => srp dd_ S0_ (S0_.2.2.1 43 (0 + dd_) x_)) a1_.toNat m9_).getD (O9_.getD i_ 0) [])) (i_ := i9_.toNat) (show ¬ (S0_.2.2.1 55 (0 + ll_) c9_.toNat).toNat = ((fun i_ => (crn (fun x_ => decide (F_ ≤ x_ ∧ S0_.2.2.1 60 0 x_ = 0)) (fun x_ => srp dd_ S0_ (S0_.2.2.1 42 (0 + dd_) x_)) (fun x_ => srp dd_ S0_ (S0_.2.2.1 43 (0 + dd_) x_)) a1_.toNat m9_).getD (O9_.getD i_ 0) []) i9_.toNat).length from fun u9_ => by (have z9_ := l29_; rw [← f55_] at u9_; first | (rw [z9_.1 (by omega)] at u9_; omega) | (rw [z9_.2 (by omega)] at u9_; omega)))]; exact s9_))
            · first | exact hv0_ | exact t147_.1
            · first | exact hv1_ | exact t147_.2.1
            · first | exact hf_ | exact wfn_tr hf_ t147_.2.2
            · first | exact hcs_ | exact c147_
            · first | exact ho_ | exact o147_
            · omega
        · have cx6_ : ¬ ((S_.2.2.1 65 0 (3 * (S_.2.2.1 66 0 i9_.toNat) + 2).toNat) ≠ (-1)) := of_decide_eq_false cx6_
          refine sm_T_go 2 (c1 := (139, [some (.inr (.inr (some (6, 0)))), some (.inl a1_), some (.inl c9_), some (.inl i9_), some (.inl (S_.2.2.1 66 0 i9_.toNat))], [.inl 2, .inl (S_.2.2.1 55 (0 + ll_) c9_.toNat)], S_)) rfl ?_
          refine sm_T_br (a := 1) (z := 11) rfl (fun cx14_ => ?_) (fun cx14_ => ?_)
          · have cx14_ : (S_.2.2.1 55 (0 + ll_) c9_.toNat) ≠ 2 := of_decide_eq_true cx14_
            refine sm_T_inc (a := 3) (z := 1) (v := i9_) (w := i9_ + 1) rfl rfl (by omega) (by omega) (by omega) ?_ -- pc_ 150
            refine sm_T_go 1 (c1 := (94, [some (.inr (.inr (some (6, 0)))), some (.inl a1_), some (.inl c9_), some (.inl (i9_ + 1)), some (.inl (S_.2.2.1 66 0 i9_.toNat))], [], S_)) rfl ?_
            refine sm_T_wk [some (.inr (.inr (some (6, 0)))), some (.inl a1_), some (.inl c9_), some (.inl (i9_ + 1)), none] (by exact ⟨rfl, rfl, rfl, rfl, trivial⟩) ?_
            refine ih_.2.2 c9_ (i9_ + 1) S_ hI_ hF_ ⟨?_, ?_, ?_, ?_, ?_, ?_, ?_, trivial⟩ ?_
            · omega
            · first | (have y8_ := A147_; rw [← k147_] at q147_; exact ⟨m9_, O9_, B9_, q147_, A147_, B147_⟩) | (refine ⟨m9_, O9_, B9_, q9_, ?_, ?_⟩; (rw [show (i9_ + 1).toNat = i9_.toNat + 1 by omega, cfo_s, wct_n (Q_ := (fun i_ => (crn (fun x_ => decide (F_ ≤ x_ ∧ S0_.2.2.1 60 0 x_ = 0)) (fun x_ => srp dd_ S0_ (S0_.2.2.1 42 (0 + dd_) x_)) (fun x_ => srp dd_ S0_ (S0_.2.2.1 43 (0 + dd_) x_)) a1_.toNat m9_).getD (O9_.getD i_ 0) [])) (i_ := i9_.toNat) (show ¬ (S0_.2.2.1 55 (0 + ll_) c9_.toNat).toNat = ((fun i_ => (crn (fun x_ => decide (F_ ≤ x_ ∧ S0_.2.2.1 60 0 x_ = 0)) (fun x_ => srp dd_ S0_ (S0_.2.2.1 42 (0 + dd_) x_)) (fun x_ => srp dd_ S0_ (S0_.2.2.1 43 (0 + dd_) x_)) a1_.toNat m9_).getD (O9_.getD i_ 0) []) i9_.toNat).length from fun u9_ => by (have z9_ := l29_; rw [← f55_] at u9_; first | (rw [z9_.1 (by omega)] at u9_; omega) | (rw [z9_.2 (by omega)] at u9_; omega)))]; exact r9_); (rw [show (i9_ + 1).toNat = i9_.toNat + 1 by omega, cfo_s, wct_n (Q_ := (fun i_ => (crn (fun x_ => decide (F_ ≤ x_ ∧ S0_.2.2.1 60 0 x_ = 0)) (fun x_ => srp dd_ S0_ (S0_.2.2.1 42 (0 + dd_) x_)) (fun x_ => srp dd_ S0_ (S0_.2.2.1 43 (0 + dd_) x_)) a1_.toNat m9_).getD (O9_.getD i_ 0) [])) (i_ := i9_.toNat) (show ¬ (S0_.2.2.1 55 (0 + ll_) c9_.toNat).toNat = ((fun i_ => (crn (fun x_ => decide (F_ ≤ x_ ∧ S0_.2.2.1 60 0 x_ = 0)) (fun x_ => srp dd_ S0_ (S0_.2.2.1 42 (0 + dd_) x_)) (fun x_ => srp dd_ S0_ (S0_.2.2.1 43 (0 + dd_) x_)) a1_.toNat m9_).getD (O9_.getD i_ 0) []) i9_.toNat).length from fun u9_ => by (have z9_ := l29_; rw [← f55_] at u9_; first | (rw [z9_.1 (by omega)] at u9_; omega) | (rw [z9_.2 (by omega)] at u9_; omega)))]; exact s9_))
            · first | exact hv0_ | exact t147_.1
            · first | exact hv1_ | exact t147_.2.1
            · first | exact hf_ | exact wfn_tr hf_ t147_.2.2
            · first | exact hcs_ | exact c147_
            · first | exact ho_ | exact o147_
            · omega
          · have cx14_ : ¬ ((S_.2.2.1 55 (0 + ll_) c9_.toNat) ≠ 2) := of_decide_eq_false cx14_
            refine sm_T_go 4 (c1 := (147, [some (.inr (.inr (some (6, 0)))), some (.inl a1_), some (.inl c9_), some (.inl i9_), some (.inl (S_.2.2.1 66 0 i9_.toNat))], [.inl (S_.2.2.1 66 0 i9_.toNat), .inl c9_, .inl a1_, .inr (.inr (some (6, 0)))], S_)) rfl ?_
            refine sm_T_cal (d1 := 3) (Q1 := vq_107n a1_ c9_ (S_.2.2.1 66 0 i9_.toNat) dd_ ll_ ((fun i_ => (crn (fun x_ => decide (F_ ≤ x_ ∧ S0_.2.2.1 60 0 x_ = 0)) (fun x_ => srp dd_ S0_ (S0_.2.2.1 42 (0 + dd_) x_)) (fun x_ => srp dd_ S0_ (S0_.2.2.1 43 (0 + dd_) x_)) a1_.toNat m9_).getD (O9_.getD i_ 0) []) i9_.toNat) (cfo (wct adc (pcc (1 + S0_.1 3 dd_ 1 + S0_.1 3 dd_ 2) ll_ S0_) ((hcf (S0_.2.2.1 69 0) (fun i_ => B9_ (O9_.getD i_ 0)) (fun i_ => (crn (fun x_ => decide (F_ ≤ x_ ∧ S0_.2.2.1 60 0 x_ = 0)) (fun x_ => srp dd_ S0_ (S0_.2.2.1 42 (0 + dd_) x_)) (fun x_ => srp dd_ S0_ (S0_.2.2.1 43 (0 + dd_) x_)) a1_.toNat m9_).getD (O9_.getD i_ 0) []) 0) c9_.toNat) ((fun cell => S0_.2.2.1 57 (0 + ll_) cell) c9_.toNat) c9_.toNat ((fun cell => (S0_.2.2.1 55 (0 + ll_) cell).toNat) c9_.toNat) (fun i_ => (crn (fun x_ => decide (F_ ≤ x_ ∧ S0_.2.2.1 60 0 x_ = 0)) (fun x_ => srp dd_ S0_ (S0_.2.2.1 42 (0 + dd_) x_)) (fun x_ => srp dd_ S0_ (S0_.2.2.1 43 (0 + dd_) x_)) a1_.toNat m9_).getD (O9_.getD i_ 0) [])) (i9_.toNat) (cfo (wcl adc (pcc (1 + S0_.1 3 dd_ 1 + S0_.1 3 dd_ 2) ll_ S0_) (hcf (S0_.2.2.1 69 0) (fun i_ => B9_ (O9_.getD i_ 0)) (fun i_ => (crn (fun x_ => decide (F_ ≤ x_ ∧ S0_.2.2.1 60 0 x_ = 0)) (fun x_ => srp dd_ S0_ (S0_.2.2.1 42 (0 + dd_) x_)) (fun x_ => srp dd_ S0_ (S0_.2.2.1 43 (0 + dd_) x_)) a1_.toNat m9_).getD (O9_.getD i_ 0) []) 0) (fun cell => S0_.2.2.1 57 (0 + ll_) cell) (fun cell => (S0_.2.2.1 55 (0 + ll_) cell).toNat) (fun i_ => (crn (fun x_ => decide (F_ ≤ x_ ∧ S0_.2.2.1 60 0 x_ = 0)) (fun x_ => srp dd_ S0_ (S0_.2.2.1 42 (0 + dd_) x_)) (fun x_ => srp dd_ S0_ (S0_.2.2.1 43 (0 + dd_) x_)) a1_.toNat m9_).getD (O9_.getD i_ 0) []) (crn (fun x_ => decide (F_ ≤ x_ ∧ S0_.2.2.1 60 0 x_ = 0)) (fun x_ => srp dd_ S0_ (S0_.2.2.1 42 (0 + dd_) x_)) (fun x_ => srp dd_ S0_ (S0_.2.2.1 43 (0 + dd_) x_)) a1_.toNat m9_).length) (c9_.toNat) (268435456, -1, 0, fun _ => 0))) (cfo (wct adc (pcc (1 + S0_.1 3 dd_ 1 + S0_.1 3 dd_ 2) ll_ S0_) ((hcf (S0_.2.2.1 69 0) (fun i_ => B9_ (O9_.getD i_ 0)) (fun i_ => (crn (fun x_ => decide (F_ ≤ x_ ∧ S0_.2.2.1 60 0 x_ = 0)) (fun x_ => srp dd_ S0_ (S0_.2.2.1 42 (0 + dd_) x_)) (fun x_ => srp dd_ S0_ (S0_.2.2.1 43 (0 + dd_) x_)) a1_.toNat m9_).getD (O9_.getD i_ 0) []) 1) c9_.toNat) ((fun cell => S0_.2.2.1 57 (0 + ll_) cell) c9_.toNat) c9_.toNat ((fun cell => (S0_.2.2.1 55 (0 + ll_) cell).toNat) c9_.toNat) (fun i_ => (crn (fun x_ => decide (F_ ≤ x_ ∧ S0_.2.2.1 60 0 x_ = 0)) (fun x_ => srp dd_ S0_ (S0_.2.2.1 42 (0 + dd_) x_)) (fun x_ => srp dd_ S0_ (S0_.2.2.1 43 (0 + dd_) x_)) a1_.toNat m9_).getD (O9_.getD i_ 0) [])) (i9_.toNat) (cfo (wcl adc (pcc (1 + S0_.1 3 dd_ 1 + S0_.1 3 dd_ 2) ll_ S0_) (hcf (S0_.2.2.1 69 0) (fun i_ => B9_ (O9_.getD i_ 0)) (fun i_ => (crn (fun x_ => decide (F_ ≤ x_ ∧ S0_.2.2.1 60 0 x_ = 0)) (fun x_ => srp dd_ S0_ (S0_.2.2.1 42 (0 + dd_) x_)) (fun x_ => srp dd_ S0_ (S0_.2.2.1 43 (0 + dd_) x_)) a1_.toNat m9_).getD (O9_.getD i_ 0) []) 1) (fun cell => S0_.2.2.1 57 (0 + ll_) cell) (fun cell => (S0_.2.2.1 55 (0 + ll_) cell).toNat) (fun i_ => (crn (fun x_ => decide (F_ ≤ x_ ∧ S0_.2.2.1 60 0 x_ = 0)) (fun x_ => srp dd_ S0_ (S0_.2.2.1 42 (0 + dd_) x_)) (fun x_ => srp dd_ S0_ (S0_.2.2.1 43 (0 + dd_) x_)) a1_.toNat m9_).getD (O9_.getD i_ 0) []) (crn (fun x_ => decide (F_ ≤ x_ ∧ S0_.2.2.1 60 0 x_ = 0)) (fun x_ => srp dd_ S0_ (S0_.2.2.1 42 (0 + dd_) x_)) (fun x_ => srp dd_ S0_ (S0_.2.2.1 43 (0 + dd_) x_)) a1_.toNat m9_).length) (c9_.toNat) (268435456, -1, 0, fun _ => 0))) S_) rfl rfl (by decide) (vc_107n a1_ c9_ (S_.2.2.1 66 0 i9_.toNat) dd_ ll_ ((fun i_ => (crn (fun x_ => decide (F_ ≤ x_ ∧ S0_.2.2.1 60 0 x_ = 0)) (fun x_ => srp dd_ S0_ (S0_.2.2.1 42 (0 + dd_) x_)) (fun x_ => srp dd_ S0_ (S0_.2.2.1 43 (0 + dd_) x_)) a1_.toNat m9_).getD (O9_.getD i_ 0) []) i9_.toNat) (cfo (wct adc (pcc (1 + S0_.1 3 dd_ 1 + S0_.1 3 dd_ 2) ll_ S0_) ((hcf (S0_.2.2.1 69 0) (fun i_ => B9_ (O9_.getD i_ 0)) (fun i_ => (crn (fun x_ => decide (F_ ≤ x_ ∧ S0_.2.2.1 60 0 x_ = 0)) (fun x_ => srp dd_ S0_ (S0_.2.2.1 42 (0 + dd_) x_)) (fun x_ => srp dd_ S0_ (S0_.2.2.1 43 (0 + dd_) x_)) a1_.toNat m9_).getD (O9_.getD i_ 0) []) 0) c9_.toNat) ((fun cell => S0_.2.2.1 57 (0 + ll_) cell) c9_.toNat) c9_.toNat ((fun cell => (S0_.2.2.1 55 (0 + ll_) cell).toNat) c9_.toNat) (fun i_ => (crn (fun x_ => decide (F_ ≤ x_ ∧ S0_.2.2.1 60 0 x_ = 0)) (fun x_ => srp dd_ S0_ (S0_.2.2.1 42 (0 + dd_) x_)) (fun x_ => srp dd_ S0_ (S0_.2.2.1 43 (0 + dd_) x_)) a1_.toNat m9_).getD (O9_.getD i_ 0) [])) (i9_.toNat) (cfo (wcl adc (pcc (1 + S0_.1 3 dd_ 1 + S0_.1 3 dd_ 2) ll_ S0_) (hcf (S0_.2.2.1 69 0) (fun i_ => B9_ (O9_.getD i_ 0)) (fun i_ => (crn (fun x_ => decide (F_ ≤ x_ ∧ S0_.2.2.1 60 0 x_ = 0)) (fun x_ => srp dd_ S0_ (S0_.2.2.1 42 (0 + dd_) x_)) (fun x_ => srp dd_ S0_ (S0_.2.2.1 43 (0 + dd_) x_)) a1_.toNat m9_).getD (O9_.getD i_ 0) []) 0) (fun cell => S0_.2.2.1 57 (0 + ll_) cell) (fun cell => (S0_.2.2.1 55 (0 + ll_) cell).toNat) (fun i_ => (crn (fun x_ => decide (F_ ≤ x_ ∧ S0_.2.2.1 60 0 x_ = 0)) (fun x_ => srp dd_ S0_ (S0_.2.2.1 42 (0 + dd_) x_)) (fun x_ => srp dd_ S0_ (S0_.2.2.1 43 (0 + dd_) x_)) a1_.toNat m9_).getD (O9_.getD i_ 0) []) (crn (fun x_ => decide (F_ ≤ x_ ∧ S0_.2.2.1 60 0 x_ = 0)) (fun x_ => srp dd_ S0_ (S0_.2.2.1 42 (0 + dd_) x_)) (fun x_ => srp dd_ S0_ (S0_.2.2.1 43 (0 + dd_) x_)) a1_.toNat m9_).length) (c9_.toNat) (268435456, -1, 0, fun _ => 0))) (cfo (wct adc (pcc (1 + S0_.1 3 dd_ 1 + S0_.1 3 dd_ 2) ll_ S0_) ((hcf (S0_.2.2.1 69 0) (fun i_ => B9_ (O9_.getD i_ 0)) (fun i_ => (crn (fun x_ => decide (F_ ≤ x_ ∧ S0_.2.2.1 60 0 x_ = 0)) (fun x_ => srp dd_ S0_ (S0_.2.2.1 42 (0 + dd_) x_)) (fun x_ => srp dd_ S0_ (S0_.2.2.1 43 (0 + dd_) x_)) a1_.toNat m9_).getD (O9_.getD i_ 0) []) 1) c9_.toNat) ((fun cell => S0_.2.2.1 57 (0 + ll_) cell) c9_.toNat) c9_.toNat ((fun cell => (S0_.2.2.1 55 (0 + ll_) cell).toNat) c9_.toNat) (fun i_ => (crn (fun x_ => decide (F_ ≤ x_ ∧ S0_.2.2.1 60 0 x_ = 0)) (fun x_ => srp dd_ S0_ (S0_.2.2.1 42 (0 + dd_) x_)) (fun x_ => srp dd_ S0_ (S0_.2.2.1 43 (0 + dd_) x_)) a1_.toNat m9_).getD (O9_.getD i_ 0) [])) (i9_.toNat) (cfo (wcl adc (pcc (1 + S0_.1 3 dd_ 1 + S0_.1 3 dd_ 2) ll_ S0_) (hcf (S0_.2.2.1 69 0) (fun i_ => B9_ (O9_.getD i_ 0)) (fun i_ => (crn (fun x_ => decide (F_ ≤ x_ ∧ S0_.2.2.1 60 0 x_ = 0)) (fun x_ => srp dd_ S0_ (S0_.2.2.1 42 (0 + dd_) x_)) (fun x_ => srp dd_ S0_ (S0_.2.2.1 43 (0 + dd_) x_)) a1_.toNat m9_).getD (O9_.getD i_ 0) []) 1) (fun cell => S0_.2.2.1 57 (0 + ll_) cell) (fun cell => (S0_.2.2.1 55 (0 + ll_) cell).toNat) (fun i_ => (crn (fun x_ => decide (F_ ≤ x_ ∧ S0_.2.2.1 60 0 x_ = 0)) (fun x_ => srp dd_ S0_ (S0_.2.2.1 42 (0 + dd_) x_)) (fun x_ => srp dd_ S0_ (S0_.2.2.1 43 (0 + dd_) x_)) a1_.toNat m9_).getD (O9_.getD i_ 0) []) (crn (fun x_ => decide (F_ ≤ x_ ∧ S0_.2.2.1 60 0 x_ = 0)) (fun x_ => srp dd_ S0_ (S0_.2.2.1 42 (0 + dd_) x_)) (fun x_ => srp dd_ S0_ (S0_.2.2.1 43 (0 + dd_) x_)) a1_.toNat m9_).length) (c9_.toNat) (268435456, -1, 0, fun _ => 0))) S_ hI_ (by (intro j9_ u9_; rw [cn9_]; exact y9_.2 j9_ u9_)) (by exact r9_) (by exact s9_) (by exact (hF_.2.1 6 0 0 rfl).trans hd_) (by exact (hF_.2.1 6 0 1 rfl).trans hc_) (by omega) (by omega) (by omega) (by omega) (by (rw [f59_]; exact hcs_)) (by (rw [f1_, f2_]; exact hv0_)) (by (rw [f1_, f2_]; exact hv1_))) (fun u_ Sx15_ px18_ => ?_)
            obtain ⟨rfl, hIx16_, hFx17_, px18_⟩ := px18_
            have hFx19_ : ai_fr (sx_W vw_99n) S0_ Sx15_ := ai_fr_tr hF_ (fr_le hFx17_ rfl)
            have ex20_ : Sx15_.1 6 0 11 = S_.1 6 0 11 := hFx17_.1 6 0 11 rfl
            have t147_ := (px18_).1
            rw [f1_, f2_] at t147_
            have X147_ := (px18_).2
            rw [f55_, f57_, f1_, f2_, f69_, cn9_, w9_.1] at X147_
            have lq9_ : (S0_.2.2.1 55 (0 + ll_) c9_.toNat).toNat = ((fun i_ => (crn (fun x_ => decide (F_ ≤ x_ ∧ S0_.2.2.1 60 0 x_ = 0)) (fun x_ => srp dd_ S0_ (S0_.2.2.1 42 (0 + dd_) x_)) (fun x_ => srp dd_ S0_ (S0_.2.2.1 43 (0 + dd_) x_)) a1_.toNat m9_).getD (O9_.getD i_ 0) []) i9_.toNat).length := by (have z9_ := l29_; rw [← f55_]; first | (rw [z9_.1 (by omega)]; omega) | (rw [z9_.2 (by omega)]; omega))
            have PQ9_ : ∀ (x_ : Nat) (t_ : Int), x_ ∈ (fun i_ => (crn (fun x_ => decide (F_ ≤ x_ ∧ S0_.2.2.1 60 0 x_ = 0)) (fun x_ => srp dd_ S0_ (S0_.2.2.1 42 (0 + dd_) x_)) (fun x_ => srp dd_ S0_ (S0_.2.2.1 43 (0 + dd_) x_)) a1_.toNat m9_).getD (O9_.getD i_ 0) []) i9_.toNat → 0 ≤ t_ → t_ ≤ 1 → pcc (1 + S0_.1 3 dd_ 1 + S0_.1 3 dd_ 2) ll_ S_ x_ t_ = pcc (1 + S0_.1 3 dd_ 1 + S0_.1 3 dd_ 2) ll_ S0_ x_ t_ := fun x_ t_ hx_ t0_ t1_ => pcc_cg (n_ := a1_) (by (obtain ⟨j9_, hj9_⟩ := List.getElem?_of_mem hx_; have jl_ := (List.getElem?_eq_some_iff.mp hj9_).1; have jv_ := y9_.2 j9_ (by (have z9_ := y9_.1.1; exact Nat.lt_of_lt_of_le jl_ z9_.2)); have je_ : cva ((fun i_ => (crn (fun x_ => decide (F_ ≤ x_ ∧ S0_.2.2.1 60 0 x_ = 0)) (fun x_ => srp dd_ S0_ (S0_.2.2.1 42 (0 + dd_) x_)) (fun x_ => srp dd_ S0_ (S0_.2.2.1 43 (0 + dd_) x_)) a1_.toNat m9_).getD (O9_.getD i_ 0) []) i9_.toNat) j9_ = (x_ : Int) := (by (unfold cva; rw [hj9_])); have jm_ := mcs_b hcs_ (i_ := ((O9_.getD i9_.toNat 0 : Nat) : Int)) (k_ := (j9_ : Int)) (by omega) (by (have z9_ := y9_.1.1; have z8_ : j9_ < 3 := Nat.lt_of_lt_of_le jl_ z9_.2; omega)) (fun u9_ => by (rw [show (3 * ((O9_.getD i9_.toNat 0 : Nat) : Int) + 2).toNat = 3 * O9_.getD i9_.toNat 0 + j9_ by omega, jv_]; rw [show cva ((crn (fun x_ => decide (F_ ≤ x_ ∧ S0_.2.2.1 60 0 x_ = 0)) (fun x_ => srp dd_ S0_ (S0_.2.2.1 42 (0 + dd_) x_)) (fun x_ => srp dd_ S0_ (S0_.2.2.1 43 (0 + dd_) x_)) a1_.toNat m9_).getD (O9_.getD i9_.toNat 0) []) j9_ = (x_ : Int) from je_]; omega)); rw [show (3 * ((O9_.getD i9_.toNat 0 : Nat) : Int) + (j9_ : Int)).toNat = 3 * O9_.getD i9_.toNat 0 + j9_ by omega, jv_, show cva ((crn (fun x_ => decide (F_ ≤ x_ ∧ S0_.2.2.1 60 0 x_ = 0)) (fun x_ => srp dd_ S0_ (S0_.2.2.1 42 (0 + dd_) x_)) (fun x_ => srp dd_ S0_ (S0_.2.2.1 43 (0 + dd_) x_)) a1_.toNat m9_).getD (O9_.getD i9_.toNat 0) []) j9_ = (x_ : Int) from je_] at jm_; exact ⟨by omega, jm_.2.1⟩)) ⟨t0_, t1_⟩ f60_ (fun j9_ u9_ => (hf_.1 j9_ (by omega) (by omega)).1) f5_ f57_
            have E147a : cfo (wvs adc (pcc (1 + S0_.1 3 dd_ 1 + S0_.1 3 dd_ 2) ll_ S_) (fun v_ => decide (S0_.2.2.1 69 0 (48 * c9_.toNat + v_) = B9_ (O9_.getD i9_.toNat 0))) (S0_.2.2.1 57 (0 + ll_) c9_.toNat) c9_.toNat ((fun i_ => (crn (fun x_ => decide (F_ ≤ x_ ∧ S0_.2.2.1 60 0 x_ = 0)) (fun x_ => srp dd_ S0_ (S0_.2.2.1 42 (0 + dd_) x_)) (fun x_ => srp dd_ S0_ (S0_.2.2.1 43 (0 + dd_) x_)) a1_.toNat m9_).getD (O9_.getD i_ 0) []) i9_.toNat) (S0_.2.2.1 55 (0 + ll_) c9_.toNat).toNat) (wic (S0_.2.2.1 55 (0 + ll_) c9_.toNat).toNat) (cfo (wct adc (pcc (1 + S0_.1 3 dd_ 1 + S0_.1 3 dd_ 2) ll_ S0_) ((hcf (S0_.2.2.1 69 0) (fun i_ => B9_ (O9_.getD i_ 0)) (fun i_ => (crn (fun x_ => decide (F_ ≤ x_ ∧ S0_.2.2.1 60 0 x_ = 0)) (fun x_ => srp dd_ S0_ (S0_.2.2.1 42 (0 + dd_) x_)) (fun x_ => srp dd_ S0_ (S0_.2.2.1 43 (0 + dd_) x_)) a1_.toNat m9_).getD (O9_.getD i_ 0) []) 0) c9_.toNat) ((fun cell => S0_.2.2.1 57 (0 + ll_) cell) c9_.toNat) c9_.toNat ((fun cell => (S0_.2.2.1 55 (0 + ll_) cell).toNat) c9_.toNat) (fun i_ => (crn (fun x_ => decide (F_ ≤ x_ ∧ S0_.2.2.1 60 0 x_ = 0)) (fun x_ => srp dd_ S0_ (S0_.2.2.1 42 (0 + dd_) x_)) (fun x_ => srp dd_ S0_ (S0_.2.2.1 43 (0 + dd_) x_)) a1_.toNat m9_).getD (O9_.getD i_ 0) [])) (i9_.toNat) (cfo (wcl adc (pcc (1 + S0_.1 3 dd_ 1 + S0_.1 3 dd_ 2) ll_ S0_) (hcf (S0_.2.2.1 69 0) (fun i_ => B9_ (O9_.getD i_ 0)) (fun i_ => (crn (fun x_ => decide (F_ ≤ x_ ∧ S0_.2.2.1 60 0 x_ = 0)) (fun x_ => srp dd_ S0_ (S0_.2.2.1 42 (0 + dd_) x_)) (fun x_ => srp dd_ S0_ (S0_.2.2.1 43 (0 + dd_) x_)) a1_.toNat m9_).getD (O9_.getD i_ 0) []) 0) (fun cell => S0_.2.2.1 57 (0 + ll_) cell) (fun cell => (S0_.2.2.1 55 (0 + ll_) cell).toNat) (fun i_ => (crn (fun x_ => decide (F_ ≤ x_ ∧ S0_.2.2.1 60 0 x_ = 0)) (fun x_ => srp dd_ S0_ (S0_.2.2.1 42 (0 + dd_) x_)) (fun x_ => srp dd_ S0_ (S0_.2.2.1 43 (0 + dd_) x_)) a1_.toNat m9_).getD (O9_.getD i_ 0) []) (crn (fun x_ => decide (F_ ≤ x_ ∧ S0_.2.2.1 60 0 x_ = 0)) (fun x_ => srp dd_ S0_ (S0_.2.2.1 42 (0 + dd_) x_)) (fun x_ => srp dd_ S0_ (S0_.2.2.1 43 (0 + dd_) x_)) a1_.toNat m9_).length) (c9_.toNat) (268435456, -1, 0, fun _ => 0))) = cfo (wvs adc (pcc (1 + S0_.1 3 dd_ 1 + S0_.1 3 dd_ 2) ll_ S0_) ((hcf (S0_.2.2.1 69 0) (fun i_ => B9_ (O9_.getD i_ 0)) (fun i_ => (crn (fun x_ => decide (F_ ≤ x_ ∧ S0_.2.2.1 60 0 x_ = 0)) (fun x_ => srp dd_ S0_ (S0_.2.2.1 42 (0 + dd_) x_)) (fun x_ => srp dd_ S0_ (S0_.2.2.1 43 (0 + dd_) x_)) a1_.toNat m9_).getD (O9_.getD i_ 0) []) 0) c9_.toNat i9_.toNat) (S0_.2.2.1 57 (0 + ll_) c9_.toNat) c9_.toNat ((fun i_ => (crn (fun x_ => decide (F_ ≤ x_ ∧ S0_.2.2.1 60 0 x_ = 0)) (fun x_ => srp dd_ S0_ (S0_.2.2.1 42 (0 + dd_) x_)) (fun x_ => srp dd_ S0_ (S0_.2.2.1 43 (0 + dd_) x_)) a1_.toNat m9_).getD (O9_.getD i_ 0) []) i9_.toNat) (S0_.2.2.1 55 (0 + ll_) c9_.toNat).toNat) (wic (S0_.2.2.1 55 (0 + ll_) c9_.toNat).toNat) (cfo (wct adc (pcc (1 + S0_.1 3 dd_ 1 + S0_.1 3 dd_ 2) ll_ S0_) ((hcf (S0_.2.2.1 69 0) (fun i_ => B9_ (O9_.getD i_ 0)) (fun i_ => (crn (fun x_ => decide (F_ ≤ x_ ∧ S0_.2.2.1 60 0 x_ = 0)) (fun x_ => srp dd_ S0_ (S0_.2.2.1 42 (0 + dd_) x_)) (fun x_ => srp dd_ S0_ (S0_.2.2.1 43 (0 + dd_) x_)) a1_.toNat m9_).getD (O9_.getD i_ 0) []) 0) c9_.toNat) ((fun cell => S0_.2.2.1 57 (0 + ll_) cell) c9_.toNat) c9_.toNat ((fun cell => (S0_.2.2.1 55 (0 + ll_) cell).toNat) c9_.toNat) (fun i_ => (crn (fun x_ => decide (F_ ≤ x_ ∧ S0_.2.2.1 60 0 x_ = 0)) (fun x_ => srp dd_ S0_ (S0_.2.2.1 42 (0 + dd_) x_)) (fun x_ => srp dd_ S0_ (S0_.2.2.1 43 (0 + dd_) x_)) a1_.toNat m9_).getD (O9_.getD i_ 0) [])) (i9_.toNat) (cfo (wcl adc (pcc (1 + S0_.1 3 dd_ 1 + S0_.1 3 dd_ 2) ll_ S0_) (hcf (S0_.2.2.1 69 0) (fun i_ => B9_ (O9_.getD i_ 0)) (fun i_ => (crn (fun x_ => decide (F_ ≤ x_ ∧ S0_.2.2.1 60 0 x_ = 0)) (fun x_ => srp dd_ S0_ (S0_.2.2.1 42 (0 + dd_) x_)) (fun x_ => srp dd_ S0_ (S0_.2.2.1 43 (0 + dd_) x_)) a1_.toNat m9_).getD (O9_.getD i_ 0) []) 0) (fun cell => S0_.2.2.1 57 (0 + ll_) cell) (fun cell => (S0_.2.2.1 55 (0 + ll_) cell).toNat) (fun i_ => (crn (fun x_ => decide (F_ ≤ x_ ∧ S0_.2.2.1 60 0 x_ = 0)) (fun x_ => srp dd_ S0_ (S0_.2.2.1 42 (0 + dd_) x_)) (fun x_ => srp dd_ S0_ (S0_.2.2.1 43 (0 + dd_) x_)) a1_.toNat m9_).getD (O9_.getD i_ 0) []) (crn (fun x_ => decide (F_ ≤ x_ ∧ S0_.2.2.1 60 0 x_ = 0)) (fun x_ => srp dd_ S0_ (S0_.2.2.1 42 (0 + dd_) x_)) (fun x_ => srp dd_ S0_ (S0_.2.2.1 43 (0 + dd_) x_)) a1_.toNat m9_).length) (c9_.toNat) (268435456, -1, 0, fun _ => 0))) := cfo_cg _ (fun v9_ b9_ hv9_ => wvs_cg y9_.1.1 lq9_ hv9_ PQ9_ (by rfl))
            have E147b : cfo (wvs adc (pcc (1 + S0_.1 3 dd_ 1 + S0_.1 3 dd_ 2) ll_ S_) (fun v_ => decide (S0_.2.2.1 69 0 (48 * c9_.toNat + v_) = i_xor (B9_ (O9_.getD i9_.toNat 0)) (if S0_.2.2.1 55 (0 + ll_) c9_.toNat = 2 then 15 else 255))) (S0_.2.2.1 57 (0 + ll_) c9_.toNat) c9_.toNat ((fun i_ => (crn (fun x_ => decide (F_ ≤ x_ ∧ S0_.2.2.1 60 0 x_ = 0)) (fun x_ => srp dd_ S0_ (S0_.2.2.1 42 (0 + dd_) x_)) (fun x_ => srp dd_ S0_ (S0_.2.2.1 43 (0 + dd_) x_)) a1_.toNat m9_).getD (O9_.getD i_ 0) []) i9_.toNat) (S0_.2.2.1 55 (0 + ll_) c9_.toNat).toNat) (wic (S0_.2.2.1 55 (0 + ll_) c9_.toNat).toNat) (cfo (wct adc (pcc (1 + S0_.1 3 dd_ 1 + S0_.1 3 dd_ 2) ll_ S0_) ((hcf (S0_.2.2.1 69 0) (fun i_ => B9_ (O9_.getD i_ 0)) (fun i_ => (crn (fun x_ => decide (F_ ≤ x_ ∧ S0_.2.2.1 60 0 x_ = 0)) (fun x_ => srp dd_ S0_ (S0_.2.2.1 42 (0 + dd_) x_)) (fun x_ => srp dd_ S0_ (S0_.2.2.1 43 (0 + dd_) x_)) a1_.toNat m9_).getD (O9_.getD i_ 0) []) 1) c9_.toNat) ((fun cell => S0_.2.2.1 57 (0 + ll_) cell) c9_.toNat) c9_.toNat ((fun cell => (S0_.2.2.1 55 (0 + ll_) cell).toNat) c9_.toNat) (fun i_ => (crn (fun x_ => decide (F_ ≤ x_ ∧ S0_.2.2.1 60 0 x_ = 0)) (fun x_ => srp dd_ S0_ (S0_.2.2.1 42 (0 + dd_) x_)) (fun x_ => srp dd_ S0_ (S0_.2.2.1 43 (0 + dd_) x_)) a1_.toNat m9_).getD (O9_.getD i_ 0) [])) (i9_.toNat) (cfo (wcl adc (pcc (1 + S0_.1 3 dd_ 1 + S0_.1 3 dd_ 2) ll_ S0_) (hcf (S0_.2.2.1 69 0) (fun i_ => B9_ (O9_.getD i_ 0)) (fun i_ => (crn (fun x_ => decide (F_ ≤ x_ ∧ S0_.2.2.1 60 0 x_ = 0)) (fun x_ => srp dd_ S0_ (S0_.2.2.1 42 (0 + dd_) x_)) (fun x_ => srp dd_ S0_ (S0_.2.2.1 43 (0 + dd_) x_)) a1_.toNat m9_).getD (O9_.getD i_ 0) []) 1) (fun cell => S0_.2.2.1 57 (0 + ll_) cell) (fun cell => (S0_.2.2.1 55 (0 + ll_) cell).toNat) (fun i_ => (crn (fun x_ => decide (F_ ≤ x_ ∧ S0_.2.2.1 60 0 x_ = 0)) (fun x_ => srp dd_ S0_ (S0_.2.2.1 42 (0 + dd_) x_)) (fun x_ => srp dd_ S0_ (S0_.2.2.1 43 (0 + dd_) x_)) a1_.toNat m9_).getD (O9_.getD i_ 0) []) (crn (fun x_ => decide (F_ ≤ x_ ∧ S0_.2.2.1 60 0 x_ = 0)) (fun x_ => srp dd_ S0_ (S0_.2.2.1 42 (0 + dd_) x_)) (fun x_ => srp dd_ S0_ (S0_.2.2.1 43 (0 + dd_) x_)) a1_.toNat m9_).length) (c9_.toNat) (268435456, -1, 0, fun _ => 0))) = cfo (wvs adc (pcc (1 + S0_.1 3 dd_ 1 + S0_.1 3 dd_ 2) ll_ S0_) ((hcf (S0_.2.2.1 69 0) (fun i_ => B9_ (O9_.getD i_ 0)) (fun i_ => (crn (fun x_ => decide (F_ ≤ x_ ∧ S0_.2.2.1 60 0 x_ = 0)) (fun x_ => srp dd_ S0_ (S0_.2.2.1 42 (0 + dd_) x_)) (fun x_ => srp dd_ S0_ (S0_.2.2.1 43 (0 + dd_) x_)) a1_.toNat m9_).getD (O9_.getD i_ 0) []) 1) c9_.toNat i9_.toNat) (S0_.2.2.1 57 (0 + ll_) c9_.toNat) c9_.toNat ((fun i_ => (crn (fun x_ => decide (F_ ≤ x_ ∧ S0_.2.2.1 60 0 x_ = 0)) (fun x_ => srp dd_ S0_ (S0_.2.2.1 42 (0 + dd_) x_)) (fun x_ => srp dd_ S0_ (S0_.2.2.1 43 (0 + dd_) x_)) a1_.toNat m9_).getD (O9_.getD i_ 0) []) i9_.toNat) (S0_.2.2.1 55 (0 + ll_) c9_.toNat).toNat) (wic (S0_.2.2.1 55 (0 + ll_) c9_.toNat).toNat) (cfo (wct adc (pcc (1 + S0_.1 3 dd_ 1 + S0_.1 3 dd_ 2) ll_ S0_) ((hcf (S0_.2.2.1 69 0) (fun i_ => B9_ (O9_.getD i_ 0)) (fun i_ => (crn (fun x_ => decide (F_ ≤ x_ ∧ S0_.2.2.1 60 0 x_ = 0)) (fun x_ => srp dd_ S0_ (S0_.2.2.1 42 (0 + dd_) x_)) (fun x_ => srp dd_ S0_ (S0_.2.2.1 43 (0 + dd_) x_)) a1_.toNat m9_).getD (O9_.getD i_ 0) []) 1) c9_.toNat) ((fun cell => S0_.2.2.1 57 (0 + ll_) cell) c9_.toNat) c9_.toNat ((fun cell => (S0_.2.2.1 55 (0 + ll_) cell).toNat) c9_.toNat) (fun i_ => (crn (fun x_ => decide (F_ ≤ x_ ∧ S0_.2.2.1 60 0 x_ = 0)) (fun x_ => srp dd_ S0_ (S0_.2.2.1 42 (0 + dd_) x_)) (fun x_ => srp dd_ S0_ (S0_.2.2.1 43 (0 + dd_) x_)) a1_.toNat m9_).getD (O9_.getD i_ 0) [])) (i9_.toNat) (cfo (wcl adc (pcc (1 + S0_.1 3 dd_ 1 + S0_.1 3 dd_ 2) ll_ S0_) (hcf (S0_.2.2.1 69 0) (fun i_ => B9_ (O9_.getD i_ 0)) (fun i_ => (crn (fun x_ => decide (F_ ≤ x_ ∧ S0_.2.2.1 60 0 x_ = 0)) (fun x_ => srp dd_ S0_ (S0_.2.2.1 42 (0 + dd_) x_)) (fun x_ => srp dd_ S0_ (S0_.2.2.1 43 (0 + dd_) x_)) a1_.toNat m9_).getD (O9_.getD i_ 0) []) 1) (fun cell => S0_.2.2.1 57 (0 + ll_) cell) (fun cell => (S0_.2.2.1 55 (0 + ll_) cell).toNat) (fun i_ => (crn (fun x_ => decide (F_ ≤ x_ ∧ S0_.2.2.1 60 0 x_ = 0)) (fun x_ => srp dd_ S0_ (S0_.2.2.1 42 (0 + dd_) x_)) (fun x_ => srp dd_ S0_ (S0_.2.2.1 43 (0 + dd_) x_)) a1_.toNat m9_).getD (O9_.getD i_ 0) []) (crn (fun x_ => decide (F_ ≤ x_ ∧ S0_.2.2.1 60 0 x_ = 0)) (fun x_ => srp dd_ S0_ (S0_.2.2.1 42 (0 + dd_) x_)) (fun x_ => srp dd_ S0_ (S0_.2.2.1 43 (0 + dd_) x_)) a1_.toNat m9_).length) (c9_.toNat) (268435456, -1, 0, fun _ => 0))) := cfo_cg _ (fun v9_ b9_ hv9_ => wvs_cg y9_.1.1 lq9_ hv9_ PQ9_ (by (show decide (S0_.2.2.1 69 0 (48 * c9_.toNat + v9_) = i_xor (B9_ (O9_.getD i9_.toNat 0)) (if S0_.2.2.1 55 (0 + ll_) c9_.toNat = 2 then 15 else 255)) = decide (S0_.2.2.1 69 0 (48 * c9_.toNat + v9_) = i_xor (B9_ (O9_.getD i9_.toNat 0)) (if ((fun i_ => (crn (fun x_ => decide (F_ ≤ x_ ∧ S0_.2.2.1 60 0 x_ = 0)) (fun x_ => srp dd_ S0_ (S0_.2.2.1 42 (0 + dd_) x_)) (fun x_ => srp dd_ S0_ (S0_.2.2.1 43 (0 + dd_) x_)) a1_.toNat m9_).getD (O9_.getD i_ 0) []) i9_.toNat).length = 2 then 15 else 255)); rw [← lq9_]; by_cases u9_ : S0_.2.2.1 55 (0 + ll_) c9_.toNat = 2; (rw [if_pos u9_, if_pos (show (S0_.2.2.1 55 (0 + ll_) c9_.toNat).toNat = 2 by omega)]); (rw [if_neg u9_, if_neg (show ¬ (S0_.2.2.1 55 (0 + ll_) c9_.toNat).toNat = 2 by omega)]))))
            have A147_ : wrc ll_ Sx15_ (2 * a1_).toNat (cfo (wct adc (pcc (1 + S0_.1 3 dd_ 1 + S0_.1 3 dd_ 2) ll_ S0_) ((hcf (S0_.2.2.1 69 0) (fun i_ => B9_ (O9_.getD i_ 0)) (fun i_ => (crn (fun x_ => decide (F_ ≤ x_ ∧ S0_.2.2.1 60 0 x_ = 0)) (fun x_ => srp dd_ S0_ (S0_.2.2.1 42 (0 + dd_) x_)) (fun x_ => srp dd_ S0_ (S0_.2.2.1 43 (0 + dd_) x_)) a1_.toNat m9_).getD (O9_.getD i_ 0) []) 0) c9_.toNat) ((fun cell => S0_.2.2.1 57 (0 + ll_) cell) c9_.toNat) c9_.toNat ((fun cell => (S0_.2.2.1 55 (0 + ll_) cell).toNat) c9_.toNat) (fun i_ => (crn (fun x_ => decide (F_ ≤ x_ ∧ S0_.2.2.1 60 0 x_ = 0)) (fun x_ => srp dd_ S0_ (S0_.2.2.1 42 (0 + dd_) x_)) (fun x_ => srp dd_ S0_ (S0_.2.2.1 43 (0 + dd_) x_)) a1_.toNat m9_).getD (O9_.getD i_ 0) [])) ((i9_ + 1).toNat) (cfo (wcl adc (pcc (1 + S0_.1 3 dd_ 1 + S0_.1 3 dd_ 2) ll_ S0_) (hcf (S0_.2.2.1 69 0) (fun i_ => B9_ (O9_.getD i_ 0)) (fun i_ => (crn (fun x_ => decide (F_ ≤ x_ ∧ S0_.2.2.1 60 0 x_ = 0)) (fun x_ => srp dd_ S0_ (S0_.2.2.1 42 (0 + dd_) x_)) (fun x_ => srp dd_ S0_ (S0_.2.2.1 43 (0 + dd_) x_)) a1_.toNat m9_).getD (O9_.getD i_ 0) []) 0) (fun cell => S0_.2.2.1 57 (0 + ll_) cell) (fun cell => (S0_.2.2.1 55 (0 + ll_) cell).toNat) (fun i_ => (crn (fun x_ => decide (F_ ≤ x_ ∧ S0_.2.2.1 60 0 x_ = 0)) (fun x_ => srp dd_ S0_ (S0_.2.2.1 42 (0 + dd_) x_)) (fun x_ => srp dd_ S0_ (S0_.2.2.1 43 (0 + dd_) x_)) a1_.toNat m9_).getD (O9_.getD i_ 0) []) (crn (fun x_ => decide (F_ ≤ x_ ∧ S0_.2.2.1 60 0 x_ = 0)) (fun x_ => srp dd_ S0_ (S0_.2.2.1 42 (0 + dd_) x_)) (fun x_ => srp dd_ S0_ (S0_.2.2.1 43 (0 + dd_) x_)) a1_.toNat m9_).length) (c9_.toNat) (268435456, -1, 0, fun _ => 0))) := by (have z9_ : wrc ll_ Sx15_ (2 * a1_).toNat (cfo (wvs adc (pcc (1 + S0_.1 3 dd_ 1 + S0_.1 3 dd_ 2) ll_ S_) (fun v_ => decide (S0_.2.2.1 69 0 (48 * c9_.toNat + v_) = B9_ (O9_.getD i9_.toNat 0))) (S0_.2.2.1 57 (0 + ll_) c9_.toNat) c9_.toNat ((fun i_ => (crn (fun x_ => decide (F_ ≤ x_ ∧ S0_.2.2.1 60 0 x_ = 0)) (fun x_ => srp dd_ S0_ (S0_.2.2.1 42 (0 + dd_) x_)) (fun x_ => srp dd_ S0_ (S0_.2.2.1 43 (0 + dd_) x_)) a1_.toNat m9_).getD (O9_.getD i_ 0) []) i9_.toNat) (S0_.2.2.1 55 (0 + ll_) c9_.toNat).toNat) (wic (S0_.2.2.1 55 (0 + ll_) c9_.toNat).toNat) (cfo (wct adc (pcc (1 + S0_.1 3 dd_ 1 + S0_.1 3 dd_ 2) ll_ S0_) ((hcf (S0_.2.2.1 69 0) (fun i_ => B9_ (O9_.getD i_ 0)) (fun i_ => (crn (fun x_ => decide (F_ ≤ x_ ∧ S0_.2.2.1 60 0 x_ = 0)) (fun x_ => srp dd_ S0_ (S0_.2.2.1 42 (0 + dd_) x_)) (fun x_ => srp dd_ S0_ (S0_.2.2.1 43 (0 + dd_) x_)) a1_.toNat m9_).getD (O9_.getD i_ 0) []) 0) c9_.toNat) ((fun cell => S0_.2.2.1 57 (0 + ll_) cell) c9_.toNat) c9_.toNat ((fun cell => (S0_.2.2.1 55 (0 + ll_) cell).toNat) c9_.toNat) (fun i_ => (crn (fun x_ => decide (F_ ≤ x_ ∧ S0_.2.2.1 60 0 x_ = 0)) (fun x_ => srp dd_ S0_ (S0_.2.2.1 42 (0 + dd_) x_)) (fun x_ => srp dd_ S0_ (S0_.2.2.1 43 (0 + dd_) x_)) a1_.toNat m9_).getD (O9_.getD i_ 0) [])) (i9_.toNat) (cfo (wcl adc (pcc (1 + S0_.1 3 dd_ 1 + S0_.1 3 dd_ 2) ll_ S0_) (hcf (S0_.2.2.1 69 0) (fun i_ => B9_ (O9_.getD i_ 0)) (fun i_ => (crn (fun x_ => decide (F_ ≤ x_ ∧ S0_.2.2.1 60 0 x_ = 0)) (fun x_ => srp dd_ S0_ (S0_.2.2.1 42 (0 + dd_) x_)) (fun x_ => srp dd_ S0_ (S0_.2.2.1 43 (0 + dd_) x_)) a1_.toNat m9_).getD (O9_.getD i_ 0) []) 0) (fun cell => S0_.2.2.1 57 (0 + ll_) cell) (fun cell => (S0_.2.2.1 55 (0 + ll_) cell).toNat) (fun i_ => (crn (fun x_ => decide (F_ ≤ x_ ∧ S0_.2.2.1 60 0 x_ = 0)) (fun x_ => srp dd_ S0_ (S0_.2.2.1 42 (0 + dd_) x_)) (fun x_ => srp dd_ S0_ (S0_.2.2.1 43 (0 + dd_) x_)) a1_.toNat m9_).getD (O9_.getD i_ 0) []) (crn (fun x_ => decide (F_ ≤ x_ ∧ S0_.2.2.1 60 0 x_ = 0)) (fun x_ => srp dd_ S0_ (S0_.2.2.1 42 (0 + dd_) x_)) (fun x_ => srp dd_ S0_ (S0_.2.2.1 43 (0 + dd_) x_)) a1_.toNat m9_).length) (c9_.toNat) (268435456, -1, 0, fun _ => 0)))) := X147_.1; rw [E147a] at z9_; rw [show (i9_ + 1).toNat = i9_.toNat + 1 by omega, cfo_s, wct_y (Q_ := (fun i_ => (crn (fun x_ => decide (F_ ≤ x_ ∧ S0_.2.2.1 60 0 x_ = 0)) (fun x_ => srp dd_ S0_ (S0_.2.2.1 42 (0 + dd_) x_)) (fun x_ => srp dd_ S0_ (S0_.2.2.1 43 (0 + dd_) x_)) a1_.toNat m9_).getD (O9_.getD i_ 0) [])) (i_ := i9_.toNat) lq9_]; exact z9_)
            have B147_ : wrc ll_ Sx15_ (2 * a1_ + 1).toNat (cfo (wct adc (pcc (1 + S0_.1 3 dd_ 1 + S0_.1 3 dd_ 2) ll_ S0_) ((hcf (S0_.2.2.1 69 0) (fun i_ => B9_ (O9_.getD i_ 0)) (fun i_ => (crn (fun x_ => decide (F_ ≤ x_ ∧ S0_.2.2.1 60 0 x_ = 0)) (fun x_ => srp dd_ S0_ (S0_.2.2.1 42 (0 + dd_) x_)) (fun x_ => srp dd_ S0_ (S0_.2.2.1 43 (0 + dd_) x_)) a1_.toNat m9_).getD (O9_.getD i_ 0) []) 1) c9_.toNat) ((fun cell => S0_.2.2.1 57 (0 + ll_) cell) c9_.toNat) c9_.toNat ((fun cell => (S0_.2.2.1 55 (0 + ll_) cell).toNat) c9_.toNat) (fun i_ => (crn (fun x_ => decide (F_ ≤ x_ ∧ S0_.2.2.1 60 0 x_ = 0)) (fun x_ => srp dd_ S0_ (S0_.2.2.1 42 (0 + dd_) x_)) (fun x_ => srp dd_ S0_ (S0_.2.2.1 43 (0 + dd_) x_)) a1_.toNat m9_).getD (O9_.getD i_ 0) [])) ((i9_ + 1).toNat) (cfo (wcl adc (pcc (1 + S0_.1 3 dd_ 1 + S0_.1 3 dd_ 2) ll_ S0_) (hcf (S0_.2.2.1 69 0) (fun i_ => B9_ (O9_.getD i_ 0)) (fun i_ => (crn (fun x_ => decide (F_ ≤ x_ ∧ S0_.2.2.1 60 0 x_ = 0)) (fun x_ => srp dd_ S0_ (S0_.2.2.1 42 (0 + dd_) x_)) (fun x_ => srp dd_ S0_ (S0_.2.2.1 43 (0 + dd_) x_)) a1_.toNat m9_).getD (O9_.getD i_ 0) []) 1) (fun cell => S0_.2.2.1 57 (0 + ll_) cell) (fun cell => (S0_.2.2.1 55 (0 + ll_) cell).toNat) (fun i_ => (crn (fun x_ => decide (F_ ≤ x_ ∧ S0_.2.2.1 60 0 x_ = 0)) (fun x_ => srp dd_ S0_ (S0_.2.2.1 42 (0 + dd_) x_)) (fun x_ => srp dd_ S0_ (S0_.2.2.1 43 (0 + dd_) x_)) a1_.toNat m9_).getD (O9_.getD i_ 0) []) (crn (fun x_ => decide (F_ ≤ x_ ∧ S0_.2.2.1 60 0 x_ = 0)) (fun x_ => srp dd_ S0_ (S0_.2.2.1 42 (0 + dd_) x_)) (fun x_ => srp dd_ S0_ (S0_.2.2.1 43 (0 + dd_) x_)) a1_.toNat m9_).length) (c9_.toNat) (268435456, -1, 0, fun _ => 0))) := by (have z9_ : wrc ll_ Sx15_ (2 * a1_ + 1).toNat (cfo (wvs adc (pcc (1 + S0_.1 3 dd_ 1 + S0_.1 3 dd_ 2) ll_ S_) (fun v_ => decide (S0_.2.2.1 69 0 (48 * c9_.toNat + v_) = i_xor (B9_ (O9_.getD i9_.toNat 0)) (if S0_.2.2.1 55 (0 + ll_) c9_.toNat = 2 then 15 else 255))) (S0_.2.2.1 57 (0 + ll_) c9_.toNat) c9_.toNat ((fun i_ => (crn (fun x_ => decide (F_ ≤ x_ ∧ S0_.2.2.1 60 0 x_ = 0)) (fun x_ => srp dd_ S0_ (S0_.2.2.1 42 (0 + dd_) x_)) (fun x_ => srp dd_ S0_ (S0_.2.2.1 43 (0 + dd_) x_)) a1_.toNat m9_).getD (O9_.getD i_ 0) []) i9_.toNat) (S0_.2.2.1 55 (0 + ll_) c9_.toNat).toNat) (wic (S0_.2.2.1 55 (0 + ll_) c9_.toNat).toNat) (cfo (wct adc (pcc (1 + S0_.1 3 dd_ 1 + S0_.1 3 dd_ 2) ll_ S0_) ((hcf (S0_.2.2.1 69 0) (fun i_ => B9_ (O9_.getD i_ 0)) (fun i_ => (crn (fun x_ => decide (F_ ≤ x_ ∧ S0_.2.2.1 60 0 x_ = 0)) (fun x_ => srp dd_ S0_ (S0_.2.2.1 42 (0 + dd_) x_)) (fun x_ => srp dd_ S0_ (S0_.2.2.1 43 (0 + dd_) x_)) a1_.toNat m9_).getD (O9_.getD i_ 0) []) 1) c9_.toNat) ((fun cell => S0_.2.2.1 57 (0 + ll_) cell) c9_.toNat) c9_.toNat ((fun cell => (S0_.2.2.1 55 (0 + ll_) cell).toNat) c9_.toNat) (fun i_ => (crn (fun x_ => decide (F_ ≤ x_ ∧ S0_.2.2.1 60 0 x_ = 0)) (fun x_ => srp dd_ S0_ (S0_.2.2.1 42 (0 + dd_) x_)) (fun x_ => srp dd_ S0_ (S0_.2.2.1 43 (0 + dd_) x_)) a1_.toNat m9_).getD (O9_.getD i_ 0) [])) (i9_.toNat) (cfo (wcl adc (pcc (1 + S0_.1 3 dd_ 1 + S0_.1 3 dd_ 2) ll_ S0_) (hcf (S0_.2.2.1 69 0) (fun i_ => B9_ (O9_.getD i_ 0)) (fun i_ => (crn (fun x_ => decide (F_ ≤ x_ ∧ S0_.2.2.1 60 0 x_ = 0)) (fun x_ => srp dd_ S0_ (S0_.2.2.1 42 (0 + dd_) x_)) (fun x_ => srp dd_ S0_ (S0_.2.2.1 43 (0 + dd_) x_)) a1_.toNat m9_).getD (O9_.getD i_ 0) []) 1) (fun cell => S0_.2.2.1 57 (0 + ll_) cell) (fun cell => (S0_.2.2.1 55 (0 + ll_) cell).toNat) (fun i_ => (crn (fun x_ => decide (F_ ≤ x_ ∧ S0_.2.2.1 60 0 x_ = 0)) (fun x_ => srp dd_ S0_ (S0_.2.2.1 42 (0 + dd_) x_)) (fun x_ => srp dd_ S0_ (S0_.2.2.1 43 (0 + dd_) x_)) a1_.toNat m9_).getD (O9_.getD i_ 0) []) (crn (fun x_ => decide (F_ ≤ x_ ∧ S0_.2.2.1 60 0 x_ = 0)) (fun x_ => srp dd_ S0_ (S0_.2.2.1 42 (0 + dd_) x_)) (fun x_ => srp dd_ S0_ (S0_.2.2.1 43 (0 + dd_) x_)) a1_.toNat m9_).length) (c9_.toNat) (268435456, -1, 0, fun _ => 0)))) := X147_.2; rw [E147b] at z9_; rw [show (i9_ + 1).toNat = i9_.toNat + 1 by omega, cfo_s, wct_y (Q_ := (fun i_ => (crn (fun x_ => decide (F_ ≤ x_ ∧ S0_.2.2.1 60 0 x_ = 0)) (fun x_ => srp dd_ S0_ (S0_.2.2.1 42 (0 + dd_) x_)) (fun x_ => srp dd_ S0_ (S0_.2.2.1 43 (0 + dd_) x_)) a1_.toNat m9_).getD (O9_.getD i_ 0) [])) (i_ := i9_.toNat) lq9_]; exact z9_)
            have q147_ := fwi_fr q9_ hFx17_
            have l147_ := hFx17_.1 5 ll_ 1 rfl
            have k147_ := hFx17_.1 6 0 11 rfl
            have c147_ : mcs (npd a1_ (S0_.2.2.1 59 0)) Sx15_ := mcs_fr hcs_ hFx17_
            have o147_ : ∀ i_ : Nat, (i_ : Int) < Sx15_.1 6 0 11 → Sx15_.2.2.1 66 0 i_ < Sx15_.1 6 0 11 := fun i_ q9_ => by (rw [k147_] at q9_ ⊢; rw [(hFx17_.2.2 66 rfl 0 i_).1]; exact ho_ i_ q9_)
            refine sm_T_inc (a := 3) (z := 1) (v := i9_) (w := i9_ + 1) rfl rfl (by omega) (by omega) (by omega) ?_ -- pc_ 150
            refine sm_T_go 1 (c1 := (94, [some (.inr (.inr (some (6, 0)))), some (.inl a1_), some (.inl c9_), some (.inl (i9_ + 1)), some (.inl (S_.2.2.1 66 0 i9_.toNat))], [], Sx15_)) rfl ?_
            refine sm_T_wk [some (.inr (.inr (some (6, 0)))), some (.inl a1_), some (.inl c9_), some (.inl (i9_ + 1)), none] (by exact ⟨rfl, rfl, rfl, rfl, trivial⟩) ?_
            refine ih_.2.2 c9_ (i9_ + 1) Sx15_ hIx16_ hFx19_ ⟨?_, ?_, ?_, ?_, ?_, ?_, ?_, trivial⟩ ?_
            · omega
            · first | (have y8_ := A147_; rw [← k147_] at q147_; exact ⟨m9_, O9_, B9_, q147_, A147_, B147_⟩) | (refine ⟨m9_, O9_, B9_, q9_, ?_, ?_⟩; (rw [show (i9_ + 1).toNat = i9_.toNat + 1 by omega, cfo_s, wct_n (Q_ := (fun i_ => (crn (fun x_ => decide (F_ ≤ x_ ∧ S0_.2.2.1 60 0 x_ = 0)) (fun x_ => srp dd_ S0_ (S0_.2.2.1 42 (0 + dd_) x_)) (fun x_ => srp dd_ S0_ (S0_.2.2.1 43 (0 + dd_) x_)) a1_.toNat m9_).getD (O9_.getD i_ 0) [])) (i_ := i9_.toNat) (show ¬ (S0_.2.2.1 55 (0 + ll_) c9_.toNat).toNat = ((fun i_ => (crn (fun x_ => decide (F_ ≤ x_ ∧ S0_.2.2.1 60 0 x_ = 0)) (fun x_ => srp dd_ S0_ (S0_.2.2.1 42 (0 + dd_) x_)) (fun x_ => srp dd_ S0_ (S0_.2.2.1 43 (0 + dd_) x_)) a1_.toNat m9_).getD (O9_.getD i_ 0) []) i9_.toNat).length from fun u9_ => by (have z9_ := l29_; rw [← f55_] at u9_; first | (rw [z9_.1 (by omega)] at u9_; omega) | (rw [z9_.2 (by omega)] at u9_; omega)))]; exact r9_); (rw [show (i9_ + 1).toNat = i9_.toNat + 1 by omega, cfo_s, wct_n (Q_ := (fun i_ => (crn (fun x_ => decide (F_ ≤ x_ ∧ S0_.2.2.1 60 0 x_ = 0)) (fun x_ => srp dd_ S0_ (S0_.2.2.1 42 (0 + dd_) x_)) (fun x_ => srp dd_ S0_ (S0_.2.2.1 43 (0 + dd_) x_)) a1_.toNat m9_).getD (O9_.getD i_ 0) [])) (i_ := i9_.toNat) (show ¬ (S0_.2.2.1 55 (0 + ll_) c9_.toNat).toNat = ((fun i_ => (crn (fun x_ => decide (F_ ≤ x_ ∧ S0_.2.2.1 60 0 x_ = 0)) (fun x_ => srp dd_ S0_ (S0_.2.2.1 42 (0 + dd_) x_)) (fun x_ => srp dd_ S0_ (S0_.2.2.1 43 (0 + dd_) x_)) a1_.toNat m9_).getD (O9_.getD i_ 0) []) i9_.toNat).length from fun u9_ => by (have z9_ := l29_; rw [← f55_] at u9_; first | (rw [z9_.1 (by omega)] at u9_; omega) | (rw [z9_.2 (by omega)] at u9_; omega)))]; exact s9_))
            · first | exact hv0_ | exact t147_.1
            · first | exact hv1_ | exact t147_.2.1
            · first | exact hf_ | exact wfn_tr hf_ t147_.2.2
            · first | exact hcs_ | exact c147_
            · first | exact ho_ | exact o147_
            · omega
set_option maxHeartbeats 4000000 in
set_option maxRecDepth 20000 in
theorem vc_99n {sc_ : Nat × (Nat → Int)} (a1_ : Int) (dd_ : Nat) (F_ : Nat) (ll_ : Nat) (T_ : Nat → Prop) (S0_ : sm_S) (hI_ : gi S0_) (hd_ : S0_.2.1 6 0 0 = some dd_) (hc_ : S0_.2.1 6 0 1 = some ll_) (hg_ : dgr dd_ F_ S0_) (hs_ : swp dd_ F_ S0_) (hk_ : mkd dd_ F_ S0_ (S0_.2.2.1 59 0)) (h1_ : (F_ : Int) ≤ a1_ ∧ a1_ < S0_.1 3 dd_ 4) (hn_ : S0_.2.2.1 59 0 a1_.toNat = 1) (ht_ : trh (fun x_ => decide (F_ ≤ x_ ∧ S0_.2.2.1 60 0 x_ = 0)) (fun x_ => srp dd_ S0_ (S0_.2.2.1 42 (0 + dd_) x_)) (fun x_ => srp dd_ S0_ (S0_.2.2.1 43 (0 + dd_) x_)) a1_.toNat T_) (hlm_ : ∀ m_ : Nat, (crn (fun x_ => decide (F_ ≤ x_ ∧ S0_.2.2.1 60 0 x_ = 0)) (fun x_ => srp dd_ S0_ (S0_.2.2.1 42 (0 + dd_) x_)) (fun x_ => srp dd_ S0_ (S0_.2.2.1 43 (0 + dd_) x_)) a1_.toNat m_).length ≤ 1000) : sm_T (mt_P sc_) 4 99 (0, [some (.inr (.inr (some (6, 0)))), some (.inl a1_), none, none, none], [], S0_) (fun ro9_ => ∃ u_ S1_, ro9_ = (.inl u_, S1_, 0) ∧ vq_99n a1_ dd_ F_ ll_ T_ S0_ u_ S1_) := by
  have hF_ : ai_fr (sx_W vw_99n) S0_ S0_ := ai_fr_rf
  have g1_ := hg_.1
  have n13_ : 0 ≤ S0_.1 3 dd_ 4 ∧ S0_.1 3 dd_ 4 ≤ 1013 := hI_.1 3 dd_ 4 rfl
  refine sm_T_go 4 (c1 := (6, [some (.inr (.inr (some (6, 0)))), some (.inl a1_), none, none, none], [.inl a1_, .inl 2, .inr (.inr (some (61, 0)))], S0_)) rfl ?_
  refine sm_T_bin (w := 2 * a1_) rfl (bi_mul (by omega) (by omega) (by omega)) ?_ -- pc_ 6
  refine sm_T_nt (u := some (.inl 268435456)) (S1 := S0_) rfl rfl rfl ?_
  refine sm_T_iast (n := 2026) rfl rfl (by omega) (by omega) ?_
  have hIx1_ : gi (sm_aI S0_ 61 0 (2 * a1_).toNat 268435456) := gi_aI hI_ (show 0 ≤ 268435456 ∧ 268435456 ≤ 268435456 from ⟨by omega, by omega⟩)
  have hFx2_ : ai_fr (sx_W vw_99n) S0_ (sm_aI S0_ 61 0 (2 * a1_).toNat 268435456) := ai_fr_tr hF_ (ai_fr_aI rfl)
  refine sm_T_go 4 (c1 := (16, [some (.inr (.inr (some (6, 0)))), some (.inl a1_), none, none, none], [.inl a1_, .inl 2, .inr (.inr (some (61, 0)))], sm_aI S0_ 61 0 (2 * a1_).toNat 268435456)) rfl ?_
  refine sm_T_bin (w := 2 * a1_) rfl (bi_mul (by omega) (by omega) (by omega)) ?_ -- pc_ 16
  refine sm_T_go 1 (c1 := (18, [some (.inr (.inr (some (6, 0)))), some (.inl a1_), none, none, none], [.inl 1, .inl (2 * a1_), .inr (.inr (some (61, 0)))], sm_aI S0_ 61 0 (2 * a1_).toNat 268435456)) rfl ?_
  refine sm_T_bin (w := 2 * a1_ + 1) rfl (bi_add (by omega) (by omega) (by omega)) ?_ -- pc_ 18
  refine sm_T_nt (u := some (.inl 268435456)) (S1 := sm_aI S0_ 61 0 (2 * a1_).toNat 268435456) rfl rfl rfl ?_
  refine sm_T_iast (n := 2026) rfl rfl (by omega) (by omega) ?_
  have hIx3_ : gi (sm_aI (sm_aI S0_ 61 0 (2 * a1_).toNat 268435456) 61 0 (2 * a1_ + 1).toNat 268435456) := gi_aI hIx1_ (show 0 ≤ 268435456 ∧ 268435456 ≤ 268435456 from ⟨by omega, by omega⟩)
  have hFx4_ : ai_fr (sx_W vw_99n) S0_ (sm_aI (sm_aI S0_ 61 0 (2 * a1_).toNat 268435456) 61 0 (2 * a1_ + 1).toNat 268435456) := ai_fr_tr hFx2_ (ai_fr_aI rfl)
  refine sm_T_go 4 (c1 := (28, [some (.inr (.inr (some (6, 0)))), some (.inl a1_), none, none, none], [.inl a1_, .inl 2, .inr (.inr (some (62, 0)))], sm_aI (sm_aI S0_ 61 0 (2 * a1_).toNat 268435456) 61 0 (2 * a1_ + 1).toNat 268435456)) rfl ?_
  refine sm_T_bin (w := 2 * a1_) rfl (bi_mul (by omega) (by omega) (by omega)) ?_ -- pc_ 28
  refine sm_T_go 1 (c1 := (30, [some (.inr (.inr (some (6, 0)))), some (.inl a1_), none, none, none], [.inl (-1), .inl (2 * a1_), .inr (.inr (some (62, 0)))], sm_aI (sm_aI S0_ 61 0 (2 * a1_).toNat 268435456) 61 0 (2 * a1_ + 1).toNat 268435456)) rfl ?_
  refine sm_T_iast (n := 2026) rfl rfl (by omega) (by omega) ?_
  have hIx5_ : gi (sm_aI (sm_aI (sm_aI S0_ 61 0 (2 * a1_).toNat 268435456) 61 0 (2 * a1_ + 1).toNat 268435456) 62 0 (2 * a1_).toNat (-1)) := gi_aI hIx3_ (show (-2) ≤ (-1) ∧ (-1) ≤ 11 from ⟨by omega, by omega⟩)
  have hFx6_ : ai_fr (sx_W vw_99n) S0_ (sm_aI (sm_aI (sm_aI S0_ 61 0 (2 * a1_).toNat 268435456) 61 0 (2 * a1_ + 1).toNat 268435456) 62 0 (2 * a1_).toNat (-1)) := ai_fr_tr hFx4_ (ai_fr_aI rfl)
  refine sm_T_go 4 (c1 := (37, [some (.inr (.inr (some (6, 0)))), some (.inl a1_), none, none, none], [.inl a1_, .inl 2, .inr (.inr (some (62, 0)))], sm_aI (sm_aI (sm_aI S0_ 61 0 (2 * a1_).toNat 268435456) 61 0 (2 * a1_ + 1).toNat 268435456) 62 0 (2 * a1_).toNat (-1))) rfl ?_
  refine sm_T_bin (w := 2 * a1_) rfl (bi_mul (by omega) (by omega) (by omega)) ?_ -- pc_ 37
  refine sm_T_go 1 (c1 := (39, [some (.inr (.inr (some (6, 0)))), some (.inl a1_), none, none, none], [.inl 1, .inl (2 * a1_), .inr (.inr (some (62, 0)))], sm_aI (sm_aI (sm_aI S0_ 61 0 (2 * a1_).toNat 268435456) 61 0 (2 * a1_ + 1).toNat 268435456) 62 0 (2 * a1_).toNat (-1))) rfl ?_
  refine sm_T_bin (w := 2 * a1_ + 1) rfl (bi_add (by omega) (by omega) (by omega)) ?_ -- pc_ 39
  refine sm_T_go 1 (c1 := (41, [some (.inr (.inr (some (6, 0)))), some (.inl a1_), none, none, none], [.inl (-1), .inl (2 * a1_ + 1), .inr (.inr (some (62, 0)))], sm_aI (sm_aI (sm_aI S0_ 61 0 (2 * a1_).toNat 268435456) 61 0 (2 * a1_ + 1).toNat 268435456) 62 0 (2 * a1_).toNat (-1))) rfl ?_
  refine sm_T_iast (n := 2026) rfl rfl (by omega) (by omega) ?_
  have hIx7_ : gi (sm_aI (sm_aI (sm_aI (sm_aI S0_ 61 0 (2 * a1_).toNat 268435456) 61 0 (2 * a1_ + 1).toNat 268435456) 62 0 (2 * a1_).toNat (-1)) 62 0 (2 * a1_ + 1).toNat (-1)) := gi_aI hIx5_ (show (-2) ≤ (-1) ∧ (-1) ≤ 11 from ⟨by omega, by omega⟩)
  have hFx8_ : ai_fr (sx_W vw_99n) S0_ (sm_aI (sm_aI (sm_aI (sm_aI S0_ 61 0 (2 * a1_).toNat 268435456) 61 0 (2 * a1_ + 1).toNat 268435456) 62 0 (2 * a1_).toNat (-1)) 62 0 (2 * a1_ + 1).toNat (-1)) := ai_fr_tr hFx6_ (ai_fr_aI rfl)
  refine sm_T_go 2 (c1 := (44, [some (.inr (.inr (some (6, 0)))), some (.inl a1_), none, none, none], [.inl a1_, .inr (.inr (some (6, 0)))], sm_aI (sm_aI (sm_aI (sm_aI S0_ 61 0 (2 * a1_).toNat 268435456) 61 0 (2 * a1_ + 1).toNat 268435456) 62 0 (2 * a1_).toNat (-1)) 62 0 (2 * a1_ + 1).toNat (-1))) rfl ?_
  refine sm_T_cal (d1 := 2) (Q1 := vq_100n a1_ dd_ F_ (sm_aI (sm_aI (sm_aI (sm_aI S0_ 61 0 (2 * a1_).toNat 268435456) 61 0 (2 * a1_ + 1).toNat 268435456) 62 0 (2 * a1_).toNat (-1)) 62 0 (2 * a1_ + 1).toNat (-1))) rfl rfl (by decide) (vc_100n a1_ dd_ F_ (sm_aI (sm_aI (sm_aI (sm_aI S0_ 61 0 (2 * a1_).toNat 268435456) 61 0 (2 * a1_ + 1).toNat 268435456) 62 0 (2 * a1_).toNat (-1)) 62 0 (2 * a1_ + 1).toNat (-1)) hIx7_ (by exact hd_) (by exact dgr_fr hg_ hFx8_ rfl rfl rfl rfl rfl) (by exact swp_fr hs_ hFx8_ rfl rfl rfl rfl) (by exact mkd_fr hk_ hFx8_) (by exact h1_) (by exact hn_) (by (intro m9_; rw [fr_arr (t := 60) (i := 0) hFx8_ rfl, fr_arr (t := 42) (i := 0 + dd_) hFx8_ rfl, fr_arr (t := 43) (i := 0 + dd_) hFx8_ rfl, show srp dd_ (sm_aI (sm_aI (sm_aI (sm_aI S0_ 61 0 (2 * a1_).toNat 268435456) 61 0 (2 * a1_ + 1).toNat 268435456) 62 0 (2 * a1_).toNat (-1)) 62 0 (2 * a1_ + 1).toNat (-1)) = srp dd_ S0_ from by (funext l9_; unfold srp; rw [fr_arr (t := 44) (i := 0 + dd_) hFx8_ rfl])]; exact hlm_ m9_))) (fun u_ Sx9_ px12_ => ?_)
  obtain ⟨rfl, hIx10_, hFx11_, px12_⟩ := px12_
  have hFx13_ : ai_fr (sx_W vw_99n) S0_ Sx9_ := ai_fr_tr hFx8_ (fr_le hFx11_ rfl)
  have c44_ := (px12_).1
  have x60_ := (fr_arr (t := 60) (i := 0) hFx11_ rfl).symm.trans (fr_arr (t := 60) (i := 0) hFx13_ rfl)
  have x42_ := (fr_arr (t := 42) (i := 0 + dd_) hFx11_ rfl).symm.trans (fr_arr (t := 42) (i := 0 + dd_) hFx13_ rfl)
  have x43_ := (fr_arr (t := 43) (i := 0 + dd_) hFx11_ rfl).symm.trans (fr_arr (t := 43) (i := 0 + dd_) hFx13_ rfl)
  have xs : srp dd_ (sm_aI (sm_aI (sm_aI (sm_aI S0_ 61 0 (2 * a1_).toNat 268435456) 61 0 (2 * a1_ + 1).toNat 268435456) 62 0 (2 * a1_).toNat (-1)) 62 0 (2 * a1_ + 1).toNat (-1)) = srp dd_ S0_ := by (funext l9_; unfold srp; rw [(fr_arr (t := 44) (i := 0 + dd_) hFx11_ rfl).symm.trans (fr_arr (t := 44) (i := 0 + dd_) hFx13_ rfl)])
  obtain ⟨m9_, hcb9_, hml9_⟩ := (px12_).2
  rw [x60_, xs, x42_, x43_] at hcb9_ hml9_
  have z44_ : wrc ll_ Sx9_ (2 * a1_).toNat ((268435456, -1, 0, fun _ => 0)) := ⟨by (rw [(hFx11_.2.2 61 rfl 0 _).1, rd_ne (by decide), rd_ne (by decide), rd_eq, if_neg (by omega), rd_eq, if_pos rfl]), Or.inl ⟨rfl, by (rw [(hFx11_.2.2 62 rfl 0 _).1, rd_eq, if_neg (by omega), rd_eq, if_pos rfl])⟩⟩
  have k44_ : wrc ll_ Sx9_ (2 * a1_ + 1).toNat ((268435456, -1, 0, fun _ => 0)) := ⟨by (rw [(hFx11_.2.2 61 rfl 0 _).1, rd_ne (by decide), rd_ne (by decide), rd_eq, if_pos rfl]), Or.inl ⟨rfl, by (rw [(hFx11_.2.2 62 rfl 0 _).1, rd_eq, if_pos rfl])⟩⟩
  have y44_ := hFx13_
  have A44_ : ∀ j9_, Sx9_.2.2.1 61 0 j9_ = if j9_ = (2 * a1_ + 1).toNat then 268435456 else if j9_ = (2 * a1_).toNat then 268435456 else S0_.2.2.1 61 0 j9_ := fun j9_ => by (rw [(hFx11_.2.2 61 rfl 0 j9_).1, rd_ne (by decide), rd_ne (by decide), rd_eq, rd_eq])
  have B44_ : ∀ j9_, Sx9_.2.2.1 62 0 j9_ = if j9_ = (2 * a1_ + 1).toNat then -1 else if j9_ = (2 * a1_).toNat then -1 else S0_.2.2.1 62 0 j9_ := fun j9_ => by (rw [(hFx11_.2.2 62 rfl 0 j9_).1, rd_eq, rd_eq, rd_ne (by decide), rd_ne (by decide)])
  have D44_ : ∀ j9_, Sx9_.2.2.1 63 0 j9_ = S0_.2.2.1 63 0 j9_ := fun j9_ => by (rw [(hFx11_.2.2 63 rfl 0 j9_).1, rd_ne (by decide), rd_ne (by decide), rd_ne (by decide), rd_ne (by decide)])
  have E44_ : ∀ j9_, Sx9_.2.2.1 64 0 j9_ = S0_.2.2.1 64 0 j9_ := fun j9_ => by (rw [(hFx11_.2.2 64 rfl 0 j9_).1, rd_ne (by decide), rd_ne (by decide), rd_ne (by decide), rd_ne (by decide)])
  have u44_ : wo3 (1 + S0_.1 3 dd_ 1 + S0_.1 3 dd_ 2) a1_ ll_ Sx9_ (2 * a1_).toNat := Or.inl ⟨by rw [B44_, if_neg (by omega), if_pos rfl], by rw [A44_, if_neg (by omega), if_pos rfl]⟩
  have v44_ : wo3 (1 + S0_.1 3 dd_ 1 + S0_.1 3 dd_ 2) a1_ ll_ Sx9_ (2 * a1_ + 1).toNat := Or.inl ⟨by rw [B44_, if_pos rfl], by rw [A44_, if_pos rfl]⟩
  have w44_ : wfn a1_.toNat S0_ Sx9_ := ⟨fun j9_ p9_ q9_ => ⟨by rw [A44_, if_neg (by omega), if_neg (by omega)], by rw [B44_, if_neg (by omega), if_neg (by omega)], D44_ j9_⟩, fun j9_ _ => E44_ j9_⟩
  refine sm_T_go 1 (c1 := (48, [some (.inr (.inr (some (6, 0)))), some (.inl a1_), none, none, none], [.inr (.inr (some (6, 0)))], Sx9_)) rfl ?_
  refine sm_T_cal (d1 := 1) (Q1 := vq_103n  Sx9_) rfl rfl (by decide) (vc_103n  Sx9_ hIx10_ (by exact cbl_d hcb9_ (crn_d m9_))) (fun u_ Sx14_ px17_ => ?_)
  obtain ⟨rfl, hIx15_, hFx16_, px17_⟩ := px17_
  have hFx18_ : ai_fr (sx_W vw_99n) S0_ Sx14_ := ai_fr_tr hFx13_ (fr_le hFx16_ rfl)
  obtain ⟨O9_, ho9_⟩ := px17_
  have n48_ : (Sx9_.1 6 0 11).toNat = (crn (fun x_ => decide (F_ ≤ x_ ∧ S0_.2.2.1 60 0 x_ = 0)) (fun x_ => srp dd_ S0_ (S0_.2.2.1 42 (0 + dd_) x_)) (fun x_ => srp dd_ S0_ (S0_.2.2.1 43 (0 + dd_) x_)) a1_.toNat m9_).length := by (have z9_ := hcb9_.1; omega)
  rw [n48_] at ho9_
  have o48_ : ∀ i_ : Nat, (i_ : Int) < Sx9_.1 6 0 11 → Sx14_.2.2.1 66 0 i_ < Sx9_.1 6 0 11 := fun i_ q9_ => by (have z9_ := cor_g ho9_ (j_ := i_) (by omega); rw [z9_.2.2]; omega)
  have s48_ : cvs Sx14_ = cvs Sx9_ := by (funext i9_ k9_; unfold cvs; rw [fr_arr (t := 65) (i := 0) hFx16_ rfl])
  have f48_ : fwi (crn (fun x_ => decide (F_ ≤ x_ ∧ S0_.2.2.1 60 0 x_ = 0)) (fun x_ => srp dd_ S0_ (S0_.2.2.1 42 (0 + dd_) x_)) (fun x_ => srp dd_ S0_ (S0_.2.2.1 43 (0 + dd_) x_)) a1_.toNat m9_) (tbo (fun x_ => srp dd_ S0_ (S0_.2.2.1 42 (0 + dd_) x_)) (fun x_ => srp dd_ S0_ (S0_.2.2.1 43 (0 + dd_) x_)) (fun x_ => slt dd_ S0_ (S0_.2.2.1 42 (0 + dd_) x_) % 2) (fun x_ => slt dd_ S0_ (S0_.2.2.1 43 (0 + dd_) x_) % 2) T_ a1_.toNat) m9_ Sx14_ O9_ (fun _ => 0) 0 := ⟨⟨cbl_fr hcb9_ hFx16_, hml9_⟩, by (rw [s48_]; exact ho9_), fun i9_ c9_ u9_ _ => by (exfalso; omega)⟩
  have r48_ := wrc_fr z44_ hFx16_
  have q48_ := wrc_fr k44_ hFx16_
  have k48_ := hFx16_.1 6 0 11 rfl
  have u48_ := wo3_fr u44_ hFx16_
  have v48_ := wo3_fr v44_ hFx16_
  have w48_ := wfn_tr w44_ (wfn_fr (n_ := a1_.toNat) hFx16_)
  have c48_ : mcs (npd a1_ (S0_.2.2.1 59 0)) Sx14_ := mcs_fr c44_ hFx16_
  refine sm_T_go 2 (c1 := (53, [some (.inr (.inr (some (6, 0)))), some (.inl a1_), some (.inl 0), none, none], [], Sx14_)) rfl ?_
  refine (vl_99n a1_ dd_ F_ ll_ T_ S0_ hd_ hc_ hg_ hs_ hk_ h1_ hn_ ht_ hlm_ _).1 0 Sx14_ hIx15_ hFx18_ ⟨?_, ?_, ?_, ?_, ?_, ?_, ?_, trivial⟩ (Nat.lt_succ_self _)
  · omega
  · exact ⟨m9_, O9_, _, f48_, r48_, q48_⟩
  · exact u48_
  · exact v48_
  · exact w48_
  · exact c48_
  · (intro i_ q9_; rw [k48_] at q9_ ⊢; exact o48_ i_ q9_)
end
