/-! the frames of the reference; written by wip/p55/gen/vg -/

/-! the_ frames: what is_ still to_ be_ done -/
theorem rev_l2 {fr_ K_ : Nat} {E_ : gE} {O_ : gO} {ok_ ok'_ : Prop} {S_ S'_ : sm_S} (h_ : rev fr_ K_ E_ O_ ok_ S_) (hK_ : K_ ≤ 40) (hok_ : ok'_ → ok_) (hE_ : ∀ s_, s_ < 40 → (E_ s_).length ≤ 8) (hO_ : ∀ s_ o_, O_ s_ = some o_ → ∀ o1_, o1_ < 40 → (o_ o1_).length ≤ 8) (e1_ : ∀ j_, j_ < 8 * (40 * (fr_ + 1)) → S'_.2.2.1 144 0 j_ = S_.2.2.1 144 0 j_) (e2_ : ∀ j_, j_ < 8 * (40 * (40 * (fr_ + 1))) → S'_.2.2.1 145 0 j_ = S_.2.2.1 145 0 j_) : rev fr_ K_ E_ O_ ok'_ S'_ := by
  intro q_
  obtain ⟨h1_, h2_⟩ := h_ (hok_ q_)
  refine ⟨fun s_ hs_ => ?_, fun s_ o_ hs_ e_ o1_ ho1_ => ?_⟩
  · have l1_ := hE_ s_ hs_
    exact rwv_cg (h1_ s_ hs_) (fun k9_ hk9_ => e1_ _ (by omega))
  · have l1_ := hO_ s_ o_ e_ o1_ ho1_
    exact rwv_cg (h2_ s_ o_ hs_ e_ o1_ ho1_) (fun k9_ hk9_ => e2_ _ (by omega))
/-- literals of_ what a_ frame holds are_ below the_ size of_ the_ graph -/
def lwB (F_ : Nat) (q_ : gQ) (E_ : gE) (O_ : gO) : Prop := imq (q_.1.length ≤ 1001) ((∀ s_, lwl (F_ + q_.1.length) (E_ s_)) ∧ ∀ s_ o_, O_ s_ = some o_ → ∀ t_, lwl (F_ + q_.1.length) (o_ t_))
def lwG (F_ : Nat) (q_ : gQ) (E_ : gE) (O_ : gO) : Prop := imq (q_.1.length ≤ 1001) (lwS F_ (q_, E_, O_, []))
/-- what the_ frames below do_, once the_ frame fr_ (module d_) has_ come to_ (q_, e_) -/
def bel (b_ : Nat → Int) (n_ T_ F_ I_ tp_ : Nat) (B_ : pA) (N_ : Nat → Nat) (X_ : Nat → gQ → gE → Option (gQ × gE)) (S_ : sm_S) (z_ : gQ × gE) : Nat → Nat → gQ → gE → Nat → Prop
  | 0, _, q_, e_, w_ => z_ = (q_, e_) ∧ w_ = 0
  | fr_ + 1, d_, q_, e_, w_ => ∃ (M_ f_ : Nat) (A_ : pA) (c_ : List Int) (p_ : Nat) (ce_ rest : List Int) (K_ : Nat) (E_ : gE) (O_ : gO) (i_ : Nat) (q'_ : gQ) (E'_ : gE) (O'_ : gO) (w'_ : Nat), (S_.2.2.1 146 0 fr_ = (M_ : Int) ∧ S_.2.2.1 148 0 (fr_ + 1) = (K_ : Int) ∧ S_.2.2.1 147 0 (fr_ + 1) = (i_ : Int) ∧ S_.2.2.1 149 0 fr_ = (K_ : Int) + 1) ∧ rp b_ n_ T_ i_ p_ ∧ mch b_ n_ B_ N_ M_ f_ A_ c_ p_ ce_ ∧ ce_ = rest ++ c_ ∧ (A_.1 M_ = K_ + 1 ∧ d_ < M_ ∧ fr_ + M_ ≤ tp_ ∧ K_ < B_.1 M_) ∧ (B_.2.2.1 (40 * M_ + K_) = 5 ∧ B_.2.2.2.2 (40 * M_ + K_) = (d_ : Int)) ∧ tst B_ I_ M_ K_ E_ O_ ∧ (∀ s_, s_ < 40 → (E_ s_).length ≤ 8) ∧ (∀ s_, B_.1 M_ ≤ s_ → E_ s_ = []) ∧ (∀ s_, K_ ≤ s_ → O_ s_ = none) ∧ (∀ s_ o_, O_ s_ = some o_ → ∀ o1_, o1_ < 40 → (o_ o1_).length ≤ 8) ∧ (rev fr_ K_ E_ O_ (q_.1.length ≤ 1001) S_ ∧ lwB F_ q_ E_ O_) ∧ ev F_ I_ B_ X_ M_ (q_, E_, up1 O_ K_ (some e_), []) rest = some (q'_, E'_, O'_, []) ∧ w_ = (1301 - p_) + w'_ ∧ bel b_ n_ T_ F_ I_ tp_ B_ N_ X_ S_ z_ fr_ M_ q'_ E'_ w'_
theorem bel_fr {b_ : Nat → Int} {n_ T_ F_ I_ tp_ : Nat} {B_ : pA} {N_ : Nat → Nat} {X_ : Nat → gQ → gE → Option (gQ × gE)} {S_ S'_ : sm_S} {z_ : gQ × gE} : ∀ (fr_ d_ : Nat) (q_ : gQ) (e_ : gE) (w_ : Nat), bel b_ n_ T_ F_ I_ tp_ B_ N_ X_ S_ z_ fr_ d_ q_ e_ w_ → (∀ j_, j_ < fr_ → S'_.2.2.1 146 0 j_ = S_.2.2.1 146 0 j_ ∧ S'_.2.2.1 149 0 j_ = S_.2.2.1 149 0 j_) → (∀ j_, j_ ≤ fr_ → S'_.2.2.1 147 0 j_ = S_.2.2.1 147 0 j_ ∧ S'_.2.2.1 148 0 j_ = S_.2.2.1 148 0 j_) → (∀ j_, j_ < 8 * (40 * fr_) → S'_.2.2.1 144 0 j_ = S_.2.2.1 144 0 j_) → (∀ j_, j_ < 8 * (40 * (40 * fr_)) → S'_.2.2.1 145 0 j_ = S_.2.2.1 145 0 j_) → bel b_ n_ T_ F_ I_ tp_ B_ N_ X_ S'_ z_ fr_ d_ q_ e_ w_
  | 0, d_, q_, e_, w_, h_, _, _, _, _ => h_
  | fr_ + 1, d_, q_, e_, w_, h_, a1_, a2_, a3_, a4_ => by
    obtain ⟨M_, f_, A_, c_, p_, ce_, rest, K_, E_, O_, i_, q'_, E'_, O'_, w'_, h1_, h2_, h3_, h4_, h5_, h6_, h7_, h8_, h9_, h10_, h11_, h12_, h13_, h14_, h15_⟩ := h_
    have K40_ : K_ ≤ 40 := by
      have := (mch_ex h3_).1.2 M_ (Nat.le_refl _)
      omega
    refine ⟨M_, f_, A_, c_, p_, ce_, rest, K_, E_, O_, i_, q'_, E'_, O'_, w'_, ?_, h2_, h3_, h4_, h5_, h6_, h7_, h8_, h9_, h10_, h11_, ⟨rev_l2 h12_.1 K40_ id h8_ h11_ (fun j_ hj_ => a3_ j_ hj_) (fun j_ hj_ => a4_ j_ hj_), h12_.2⟩, h13_, h14_, bel_fr fr_ M_ q'_ E'_ w'_ h15_ (fun j_ hj_ => a1_ j_ (by omega)) (fun j_ hj_ => a2_ j_ (by omega)) (fun j_ hj_ => a3_ j_ (by omega)) (fun j_ hj_ => a4_ j_ (by omega))⟩
    rw [(a1_ fr_ (by omega)).1, (a1_ fr_ (by omega)).2, (a2_ (fr_ + 1) (by omega)).1, (a2_ (fr_ + 1) (by omega)).2]
    exact h1_
theorem bel_le {b_ : Nat → Int} {n_ T_ F_ I_ tp_ : Nat} {B_ : pA} {N_ : Nat → Nat} {X_ : Nat → gQ → gE → Option (gQ × gE)} {S_ : sm_S} {z_ : gQ × gE} (hX_ : ∀ d_ q_ e_ z_, X_ d_ q_ e_ = some z_ → q_.1.length ≤ z_.1.1.length) : ∀ (fr_ d_ : Nat) (q_ : gQ) (e_ : gE) (w_ : Nat), bel b_ n_ T_ F_ I_ tp_ B_ N_ X_ S_ z_ fr_ d_ q_ e_ w_ → q_.1.length ≤ z_.1.1.length
  | 0, d_, q_, e_, w_, h_ => by rw [h_.1]; exact Nat.le_refl _
  | fr_ + 1, d_, q_, e_, w_, h_ => by
    obtain ⟨M_, f_, A_, c_, p_, ce_, rest, K_, E_, O_, i_, q'_, E'_, O'_, w'_, h1_, h2_, h3_, h4_, h5_, h6_, h7_, h8_, h9_, h10_, h11_, h12_, h13_, h14_, h15_⟩ := h_
    have l1_ : q_.1.length ≤ q'_.1.length := ev_le hX_ h13_
    exact Nat.le_trans l1_ (bel_le hX_ fr_ M_ q'_ E'_ w'_ h15_)
theorem bel_R {b_ : Nat → Int} {n_ T_ F_ I_ tp_ : Nat} {B_ : pA} {N_ : Nat → Nat} {X_ : Nat → gQ → gE → Option (gQ × gE)} {S_ : sm_S} {z_ : gQ × gE} (hX_ : lwX F_ I_ X_) : ∀ (fr_ d_ : Nat) (q_ : gQ) (e_ : gE) (w_ : Nat), bel b_ n_ T_ F_ I_ tp_ B_ N_ X_ S_ z_ fr_ d_ q_ e_ w_ → q_.2.1 ≤ z_.1.2.1
  | 0, d_, q_, e_, w_, h_ => by rw [h_.1]; exact Nat.le_refl _
  | fr_ + 1, d_, q_, e_, w_, h_ => by
    obtain ⟨M_, f_, A_, c_, p_, ce_, rest, K_, E_, O_, i_, q'_, E'_, O'_, w'_, h1_, h2_, h3_, h4_, h5_, h6_, h7_, h8_, h9_, h10_, h11_, h12_, h13_, h14_, h15_⟩ := h_
    have l1_ : q_.2.1 ≤ q'_.2.1 := ev_R hX_ h13_
    exact Nat.le_trans l1_ (bel_R hX_ fr_ M_ q'_ E'_ w'_ h15_)
/-- the_ state of_ the_ work: the_ frame on_ top_, and those below -/
def gin (b_ : Nat → Int) (n_ T_ F_ I_ tp_ : Nat) (B_ : pA) (N_ : Nat → Nat) (X_ : Nat → gQ → gE → Option (gQ × gE)) (z_ : gQ × gE) (mu_ fr_ M_ f_ : Nat) (A_ : pA) (c_ : List Int) (p_ : Nat) (ce_ rest : List Int) (E_ : gE) (O_ : gO) (q_ : gQ) (q'_ : gQ) (E'_ : gE) (O'_ : gO) (w_ : Nat) (S_ : sm_S) : Prop := (S_.1 13 0 29 = (fr_ : Int) ∧ S_.1 13 0 28 = (M_ : Int) ∧ S_.1 13 0 53 = (q_.2.1 : Int) ∧ S_.2.2.1 146 0 fr_ = (M_ : Int) ∧ S_.2.2.1 149 0 fr_ = (A_.1 M_ : Int)) ∧ rg b_ n_ T_ (.inr p_) S_ ∧ mch b_ n_ B_ N_ M_ f_ A_ c_ p_ ce_ ∧ ce_ = rest ++ c_ ∧ fr_ + M_ ≤ tp_ ∧ tst B_ I_ M_ (A_.1 M_) E_ O_ ∧ (∀ s_, s_ < 40 → (E_ s_).length ≤ 8) ∧ (∀ s_, B_.1 M_ ≤ s_ → E_ s_ = []) ∧ (∀ s_, A_.1 M_ ≤ s_ → O_ s_ = none) ∧ (∀ s_ o_, O_ s_ = some o_ → ∀ o1_, o1_ < 40 → (o_ o1_).length ≤ 8) ∧ (rev fr_ (A_.1 M_) E_ O_ (q_.1.length ≤ 1001) S_ ∧ lwG F_ q_ E_ O_) ∧ rgl F_ q_.1 S_ ∧ q_.2.2 ≤ 201 ∧ ev F_ I_ B_ X_ M_ (q_, E_, O_, []) rest = some (q'_, E'_, O'_, []) ∧ bel b_ n_ T_ F_ I_ tp_ B_ N_ X_ S_ z_ fr_ M_ q'_ E'_ w_ ∧ mu_ = (300 - q_.2.2) * 3000 + (1301 - p_) + w_
def gim (b_ : Nat → Int) (n_ T_ F_ I_ tp_ : Nat) (B_ : pA) (N_ : Nat → Nat) (X_ : Nat → gQ → gE → Option (gQ × gE)) (z_ : gQ × gE) (mu_ : Nat) (S_ : sm_S) : Prop := ∃ fr_ M_ f_ A_ c_ p_ ce_ rest E_ O_ q_ q'_ E'_ O'_ w_, gin b_ n_ T_ F_ I_ tp_ B_ N_ X_ z_ mu_ fr_ M_ f_ A_ c_ p_ ce_ rest E_ O_ q_ q'_ E'_ O'_ w_ S_
/-- a_ module, its_ code, its_ place -/
def gmd (b_ : Nat → Int) (n_ T_ : Nat) (B_ : pA) (N_ : Nat → Nat) (C_ : Nat → List Int) (m_ : Nat) (S_ : sm_S) : Prop := ∃ f_ A_ c0_ u_ ce_ i_, mch b_ n_ B_ N_ m_ f_ A_ c0_ u_ ce_ ∧ A_.1 m_ = 0 ∧ ce_ = (C_ m_).reverse ++ c0_ ∧ rp b_ n_ T_ i_ u_ ∧ S_.2.2.1 125 0 m_ = (i_ : Int)
theorem exm_hX {F_ I_ : Nat} {B_ : pA} {C_ : Nat → List Int} {f_ : Nat} : ∀ d_ q_ e_ z_, exm F_ I_ B_ C_ f_ d_ q_ e_ = some z_ → q_.1.length ≤ z_.1.1.length := exm_le f_
theorem exm_ev {F_ I_ d_ : Nat} {B_ : pA} {C_ : Nat → List Int} {q_ : gQ} {e_ : gE} {z_ : gQ × gE} (h_ : exm F_ I_ B_ C_ 16 d_ q_ e_ = some z_) : ∃ O'_, ev F_ I_ B_ (exm F_ I_ B_ C_ 16) d_ (q_, e_, fun _ => none, []) (C_ d_).reverse = some (z_.1, z_.2, O'_, []) := by
  rw [show (16 : Nat) = 15 + 1 from rfl, exm] at h_
  cases hs_ : ec F_ I_ B_ (exm F_ I_ B_ C_ 15) d_ (C_ d_) (q_, e_, fun _ => none, []) with
  | none => rw [hs_] at h_; cases h_
  | some s_ =>
    rw [hs_] at h_
    obtain ⟨s1_, s2_, s3_, s4_⟩ := s_
    cases s4_ with
    | cons x_ l_ =>
      have h_ : (none : Option (gQ × gE)) = some z_ := h_
      cases h_
    | nil =>
      have h_ : some (s1_, s2_) = some z_ := h_
      cases h_
      refine ⟨s3_, ?_⟩
      unfold ev
      rw [List.reverse_reverse]
      exact ec_mo (fun d_ q_ e_ z_ => exm_mo 15 d_ q_ e_ z_) _ _ _ hs_
theorem tst_0 {B_ : pA} {I_ d_ : Nat} {o_ : gE} (ho_ : oin B_ d_ (B_.1 d_) o_) : tst B_ I_ d_ 0 o_ (fun _ => none) := ⟨⟨Nat.zero_le _, fun s_ hs_ => absurd hs_ (Nat.not_lt_zero _)⟩, fun s_ hs_ => absurd hs_ (Nat.not_lt_zero _), fun s_ _ hs_ h0_ => ⟨ho_.2 s_ hs_ h0_, rfl⟩, fun s_ hs_ h0_ => ho_.1 s_ hs_ h0_ hs_⟩
theorem hB_40 {b_ : Nat → Int} {n_ M_ f_ : Nat} {A_ B_ : pA} {N_ : Nat → Nat} {c_ ce_ : List Int} {p_ : Nat} (h_ : mch b_ n_ B_ N_ M_ f_ A_ c_ p_ ce_) : A_.1 M_ ≤ 40 := ((mch_ex h_).1.2 M_ (Nat.le_refl _)).1
section GI_
variable {b_ : Nat → Int} {n_ T_ F_ I_ tp_ : Nat} {B_ : pA} {N_ : Nat → Nat} {C_ : Nat → List Int} {z_ : gQ × gE} {mu_ fr_ M_ f_ : Nat} {A_ : pA} {c_ : List Int} {p_ : Nat} {ce_ rest : List Int} {E_ : gE} {O_ : gO} {q_ q'_ : gQ} {E'_ : gE} {O'_ : gO} {w_ : Nat} {S_ S1_ : sm_S}
/-- one_ more item: what it_ is_ -/
theorem gin_it {X_ : Nat → gQ → gE → Option (gQ × gE)} (hn_ : n_ ≤ 1280) (h_ : gin b_ n_ T_ F_ I_ tp_ B_ N_ X_ z_ mu_ fr_ M_ f_ A_ c_ p_ ce_ rest E_ O_ q_ q'_ E'_ O'_ w_ S_) (hk_ : lx_kd b_ n_ p_ ≠ 125) : ∃ f1_ rr_ kk_ rest1 q1_ E1_ O1_ V1_, p_it b_ n_ A_ N_ M_ c_ p_ = some (.inr rr_) ∧ rr_.2.1 = kk_ ++ c_ ∧ a_ex rr_.1 B_ M_ ∧ ev F_ I_ B_ X_ M_ (q_, E_, O_, []) kk_ = some (q1_, E1_, O1_, V1_) ∧ mch b_ n_ B_ N_ M_ f1_ rr_.1 rr_.2.1 rr_.2.2 ce_ ∧ ce_ = rest1 ++ rr_.2.1 ∧ ev F_ I_ B_ X_ M_ (q1_, E1_, O1_, V1_) rest1 = some (q'_, E'_, O'_, []) ∧ (p_ < rr_.2.2 ∧ rr_.2.2 ≤ n_) ∧ A_.1 M_ ≤ rr_.1.1 M_ := by
  obtain ⟨h1_, h2_, h3_, h4_, h5_, h6_, h7_, h8_, h9_, h10_, h11_, h12_, h13_, h14_, h15_, h16_⟩ := h_
  cases f_ with
  | zero => exact h3_.elim
  | succ f1_ =>
    obtain ⟨⟨m1_, m2_, m3, m4_⟩, m5_⟩ := h3_
    rcases m5_ with ⟨z1_, -⟩ | ⟨rr_, z1_, z2_⟩
    · exact absurd z1_ hk_
    · obtain ⟨i1_, i2_, i3_, kk_, i4_⟩ := it_b hn_ m1_ m3 m4_ z1_
      obtain ⟨rest1, r1_⟩ := mch_cd hn_ _ _ _ _ _ z2_
      have hr_ : rest = rest1 ++ kk_ := by
        rw [h4_, i4_, ← List.append_assoc] at r1_
        exact List.append_cancel_right r1_
      rw [hr_] at h14_
      obtain ⟨⟨q1_, E1_, O1_, V1_⟩, s1_, s2_⟩ := ev_pre h14_
      exact ⟨f1_, rr_, kk_, rest1, q1_, E1_, O1_, V1_, z1_, i4_, (mch_ex z2_).2.1, s1_, z2_, r1_, s2_, ⟨i3_.1, i3_.2.1⟩, i2_.1⟩
theorem gin_N {X_ : Nat → gQ → gE → Option (gQ × gE)} {f1_ : Nat} {rr_ : pT} {kk_ rest1 : List Int} {q1_ : gQ} {E1_ : gE} {O1_ : gO} {V1_ : gV} (hn_ : n_ ≤ 1280) (h_ : gin b_ n_ T_ F_ I_ tp_ B_ N_ X_ z_ mu_ fr_ M_ f_ A_ c_ p_ ce_ rest E_ O_ q_ q'_ E'_ O'_ w_ S_) (hm_ : mch b_ n_ B_ N_ M_ f1_ rr_.1 rr_.2.1 rr_.2.2 ce_) (hc_ : ce_ = rest1 ++ rr_.2.1) (hv_ : ev F_ I_ B_ X_ M_ (q1_, E1_, O1_, V1_) rest1 = some (q'_, E'_, O'_, [])) (hp_ : p_ < rr_.2.2 ∧ rr_.2.2 ≤ n_) (hK_ : A_.1 M_ ≤ rr_.1.1 M_) (h45_ : S1_.2.2.1 145 0 = S_.2.2.1 145 0) (hXw_ : lwX F_ I_ X_) (hF13_ : F_ ≤ 13) (hek_ : ev F_ I_ B_ X_ M_ (q_, E_, O_, []) kk_ = some (q1_, E1_, O1_, V1_)) (hRF_ : 1 + I_ + q1_.2.1 ≤ F_) (hN_ : pN b_ n_ T_ F_ I_ B_ M_ fr_ (rr_.1.1 M_) q_.2.2 q1_ E1_ O_ O1_ V1_ rr_.2.2 S_ S1_) : ∃ mu1_, mu1_ < mu_ ∧ gin b_ n_ T_ F_ I_ tp_ B_ N_ X_ z_ mu1_ fr_ M_ f1_ rr_.1 rr_.2.1 rr_.2.2 ce_ rest1 E1_ O1_ q1_ q'_ E'_ O'_ w_ S1_ := by
  obtain ⟨h1_, h2_, h3_, h4_, h5_, h6_, h7_, h8_, h9_, h10_, h11_, h12_, h13_, h14_, h15_, h16_⟩ := h_
  obtain ⟨k1_, k2_, k3_, k4_, k5_, k6_, k7_, k8_, k9_, ka_, kb_, kc_, kd_, ke_⟩ := hN_
  subst kc_
  subst kd_
  have LW_ : lwG F_ q1_ E1_ O1_ := fun ok_ => ev_w hXw_ hek_ (by show F_ + q1_.1.length ≤ 1023; omega) hRF_ (h11_.2 (Nat.le_trans (ev_le (fun d_ q_ e_ z_ hz_ => (hXw_ d_ q_ e_ z_ hz_).1) hek_) ok_))
  refine ⟨(300 - q1_.2.2) * 3000 + (1301 - rr_.2.2) + w_, ?_, ⟨k6_.2.trans h1_.1, k6_.1.trans h1_.2.1, k4_, ?_, ?_⟩, k1_, hm_, hc_, h5_, ka_, k5_, ke_, fun s_ hs_ => h9_ s_ (by omega), h10_, ⟨k3_, LW_⟩, k2_, by omega, hv_, ?_, rfl⟩
  · rw [h16_, kb_]
    omega
  · rw [k7_.1]
    exact h1_.2.2.2.1
  · rw [k8_, if_pos rfl]
  · refine bel_fr fr_ M_ q'_ E'_ w_ h15_ (fun j_ hj_ => ⟨congrFun k7_.1 j_, ?_⟩) (fun j_ hj_ => ⟨congrFun k7_.2.1 j_, congrFun k7_.2.2 j_⟩) k9_ (fun j_ hj_ => congrFun h45_ j_)
    rw [k8_, if_neg (by omega)]
theorem gin_8 {f1_ : Nat} {rr_ : pT} {kk_ rest1 : List Int} {q1_ : gQ} {E1_ : gE} {O1_ : gO} {V1_ : gV} (hn_ : n_ ≤ 1280) (hmo_ : ∀ m_, m_ ≤ tp_ → gmd b_ n_ T_ B_ N_ C_ m_ S_) (h_ : gin b_ n_ T_ F_ I_ tp_ B_ N_ (exm F_ I_ B_ C_ 16) z_ mu_ fr_ M_ f_ A_ c_ p_ ce_ rest E_ O_ q_ q'_ E'_ O'_ w_ S_) (hm_ : mch b_ n_ B_ N_ M_ f1_ rr_.1 rr_.2.1 rr_.2.2 ce_) (hc_ : ce_ = rest1 ++ rr_.2.1) (he_ : ev F_ I_ B_ (exm F_ I_ B_ C_ 16) M_ (q_, E_, O_, []) kk_ = some (q1_, E1_, O1_, V1_)) (hv_ : ev F_ I_ B_ (exm F_ I_ B_ C_ 16) M_ (q1_, E1_, O1_, V1_) rest1 = some (q'_, E'_, O'_, [])) (hp_ : p_ < rr_.2.2 ∧ rr_.2.2 ≤ n_) (h45_ : S1_.2.2.1 145 0 = S_.2.2.1 145 0) (hF13_ : F_ ≤ 13) (hRz_ : 1 + I_ + z_.1.2.1 ≤ F_) (h8_ : p8 b_ n_ T_ F_ I_ B_ (exm F_ I_ B_ C_ 16) M_ fr_ (A_.1 M_) q_ E_ O_ kk_ (rr_.1.1 M_) rr_.2.2 S_ S1_) : ∃ mu1_, mu1_ < mu_ ∧ gim b_ n_ T_ F_ I_ tp_ B_ N_ (exm F_ I_ B_ C_ 16) z_ mu1_ S1_ := by
  obtain ⟨h1_, h2_, h3_, h4_, h5_, h6_, h7_, hEB_, h9_, h10_, h11_, h12_, h13_, h14_, h15_, h16_⟩ := h_
  obtain ⟨d_, k8_, G_, o_, i9_, g1_, g2_, g3_, g4_, g5_, g6_, g7_, g8_, g9_, gz_, ga_, gb_, gc_, gd_, ge_, gf_, gg_⟩ := h8_
  have A40_ := (hB_40 h3_)
  subst g1_
  rw [ev_c g7_] at he_
  obtain ⟨e1_, e2_, e3_⟩ := cw_d (k_ := 17) (a_ := (A_.1 M_ : Int)) (d_ := (d_ : Int)) (by omega) (by omega)
  obtain ⟨o'_, z2_, w1_, w2_, w3_, w4_, w5_, w6_, w7_⟩ := ew17 he_ e1_
  rw [e2_, Int.toNat_natCast] at w1_ w7_
  rw [e3_, Int.toNat_natCast] at w6_
  have oo_ : o'_ = o_ := by
    have w1_ : (if A_.1 M_ = A_.1 M_ then some o_ else O_ (A_.1 M_)) = some o'_ := w1_
    rw [if_pos rfl] at w1_
    exact (Option.some.inj w1_).symm
  subst oo_
  have w7_ : (q1_, E1_, O1_, V1_) = (z2_.1, E_, up1 (up1 O_ (A_.1 M_) (some o'_)) (A_.1 M_) (some z2_.2), []) := w7_
  rw [up1_2] at w7_
  rw [w7_] at hv_
  have w6_ : exm F_ I_ B_ C_ 16 d_ (G_, q_.2.1, q_.2.2 + 1) o'_ = some z2_ := w6_
  obtain ⟨O2_, x1_⟩ := exm_ev w6_
  obtain ⟨f2_, A2_, c2_, u_, ce2_, i2_, y1_, y2_, y3_, y4_, y5_⟩ := hmo_ d_ (by omega)
  have l1_ : q_.1.length ≤ G_.length := ev_le exm_hX g7_
  have l2_ : G_.length ≤ z2_.1.1.length := exm_hX _ _ _ _ w6_
  obtain ⟨m1_, m2_, m3, m4_, m5_, m6_, m7_, m8_⟩ := gd_
  have XW_ := exm_w (F_ := F_) (I_ := I_) (A_ := B_) (C_ := C_) 16
  have r1_ : z2_.1.2.1 ≤ q'_.2.1 := ev_R XW_ hv_
  have r2_ : q'_.2.1 ≤ z_.1.2.1 := bel_R XW_ _ _ _ _ _ h15_
  have r3_ : q_.2.1 ≤ z2_.1.2.1 := (XW_ _ _ _ _ w6_).2.1
  have LS_ : G_.length ≤ 1001 → lwS F_ ((G_, q_.2.1, q_.2.2 + 1), E_, up1 O_ (A_.1 M_) (some o'_), []) := fun ok_ => ev_w XW_ g7_ (by show F_ + G_.length ≤ 1023; omega) (by show 1 + I_ + q_.2.1 ≤ F_; omega) (h11_.2 (Nat.le_trans l1_ ok_))
  have LW_ : lwG F_ (G_, q_.2.1, q_.2.2 + 1) o'_ (fun _ => none) := fun ok_ => ⟨(LS_ ok_).1, (LS_ ok_).2.2.1 (A_.1 M_) o'_ (if_pos rfl), (fun a_ o_ e_ => by cases e_), (fun v_ hv_ => by cases hv_)⟩
  have LB_ : lwB F_ z2_.1 E_ O_ := fun ok_ => ⟨fun s_ => lwl_up (by show F_ + q_.1.length ≤ F_ + z2_.1.1.length; omega) ((h11_.2 (by omega)).2.1 s_), fun s_ o_ e_ t_ => lwl_up (by show F_ + q_.1.length ≤ F_ + z2_.1.1.length; omega) ((h11_.2 (by omega)).2.2.1 s_ o_ e_ t_)⟩
  have ub_ := (mch_ex y1_).2.2.1
  refine ⟨(300 - (q_.2.2 + 1)) * 3000 + (1301 - u_) + ((1301 - rr_.2.2) + w_), by omega, fr_ + 1, d_, f2_, A2_, c2_, u_, ce2_, (C_ d_).reverse, o'_, fun _ => none, (G_, q_.2.1, q_.2.2 + 1), z2_.1, z2_.2, O2_, (1301 - rr_.2.2) + w_, ⟨?_, m5_, gg_.trans h1_.2.2.1, ?_, ?_⟩, ⟨m8_, i2_, ?_, y4_⟩, y1_, y3_, by omega, ?_, g9_, gz_, fun s_ _ => rfl, (fun s_ o9_ e9_ => by cases e9_), ?_, gb_, ?_, x1_, ?_, rfl⟩
  · rw [m6_]; push_cast; rfl
  · rw [m1_, if_pos rfl]
  · rw [m4_, if_pos rfl, y2_]; rfl
  · rw [m7_, rd_ne (by decide)]; exact y5_
  · rw [y2_]; exact tst_0 g8_
  · rw [y2_]; exact ⟨gf_, LW_⟩
  · show q_.2.2 + 1 ≤ 201; omega
  · refine ⟨M_, f1_, rr_.1, rr_.2.1, rr_.2.2, ce_, rest1, A_.1 M_, E_, O_, i9_, q'_, E'_, O'_, w_, ⟨?_, ?_, ?_, ?_⟩, gc_, hm_, hc_, ⟨g4_, g2_, h5_, g3_⟩, ⟨g5_, g6_⟩, h6_, h7_, hEB_, h9_, h10_, ⟨rev_lo h11_.1 (fun z9_ => Nat.le_trans l1_ (Nat.le_trans l2_ z9_)) h7_ ge_ h45_, LB_⟩, hv_, rfl, ?_⟩
    · rw [m1_, if_neg (by omega), rd_ne (by decide)]; exact h1_.2.2.2.1
    · rw [m3, if_pos rfl]
    · rw [m2_, if_pos rfl]
    · rw [m4_, if_neg (by omega), rd_eq, if_pos rfl]
    · refine bel_fr fr_ M_ q'_ E'_ w_ h15_ (fun j_ hj_ => ⟨?_, ?_⟩) (fun j_ hj_ => ⟨?_, ?_⟩) (fun j_ hj_ => ge_ j_ (by omega)) (fun j_ hj_ => congrFun h45_ j_)
      · rw [m1_, if_neg (by omega), rd_ne (by decide)]
      · rw [m4_, if_neg (by omega), rd_eq, if_neg (by omega)]
      · rw [m2_, if_neg (by omega), rd_ne (by decide)]
      · rw [m3, if_neg (by omega), rd_ne (by decide)]
theorem gin_e {X_ : Nat → gQ → gE → Option (gQ × gE)} (h_ : gin b_ n_ T_ F_ I_ tp_ B_ N_ X_ z_ mu_ fr_ M_ f_ A_ c_ p_ ce_ rest E_ O_ q_ q'_ E'_ O'_ w_ S_) (hk_ : lx_kd b_ n_ p_ = 125) : A_.1 M_ = B_.1 M_ ∧ q'_ = q_ ∧ E'_ = E_ := by
  obtain ⟨h1_, h2_, h3_, h4_, h5_, h6_, h7_, h8_, h9_, h10_, h11_, h12_, h13_, h14_, h15_, h16_⟩ := h_
  cases f_ with
  | zero => exact h3_.elim
  | succ f1_ =>
    obtain ⟨⟨m1_, m2_, m3, m4_⟩, m5_⟩ := h3_
    rcases m5_ with ⟨z1_, z2_, z3_⟩ | ⟨rr_, z1_, z2_⟩
    · have r0_ : rest = [] := by
        rw [z3_] at h4_
        have e_ := congrArg List.length h4_
        rw [List.length_append] at e_
        exact List.eq_nil_of_length_eq_zero (by omega)
      rw [r0_, ev_n] at h14_
      cases h14_
      exact ⟨z2_, rfl, rfl⟩
    · exfalso
      unfold p_it at z1_
      rw [if_neg (by omega), if_neg (by omega), if_neg (by omega), if_neg (by omega), if_neg (by omega), if_neg (by omega)] at z1_
      cases z1_
theorem gin_le {X_ : Nat → gQ → gE → Option (gQ × gE)} (hX_ : ∀ d_ q_ e_ z_, X_ d_ q_ e_ = some z_ → q_.1.length ≤ z_.1.1.length) (h_ : gin b_ n_ T_ F_ I_ tp_ B_ N_ X_ z_ mu_ fr_ M_ f_ A_ c_ p_ ce_ rest E_ O_ q_ q'_ E'_ O'_ w_ S_) : q_.1.length ≤ z_.1.1.length := by
  obtain ⟨h1_, h2_, h3_, h4_, h5_, h6_, h7_, h8_, h9_, h10_, h11_, h12_, h13_, h14_, h15_, h16_⟩ := h_
  have l1_ : q_.1.length ≤ q'_.1.length := ev_le hX_ h14_
  exact Nat.le_trans l1_ (bel_le hX_ _ _ _ _ _ h15_)
theorem gin_D {X_ : Nat → gQ → gE → Option (gQ × gE)} (h_ : gin b_ n_ T_ F_ I_ tp_ B_ N_ X_ z_ mu_ 0 M_ f_ A_ c_ p_ ce_ rest E_ O_ q_ q'_ E'_ O'_ w_ S_) (hk_ : lx_kd b_ n_ p_ = 125) : z_ = (q_, E_) := by
  obtain ⟨e1_, e2_, e3_⟩ := gin_e h_ hk_
  obtain ⟨h1_, h2_, h3_, h4_, h5_, h6_, h7_, h8_, h9_, h10_, h11_, h12_, h13_, h14_, h15_, h16_⟩ := h_
  rw [e2_, e3_] at h15_
  exact h15_.1
theorem gin_L0 {X_ : Nat → gQ → gE → Option (gQ × gE)} (htp_ : tp_ ≤ 15) (h_ : gin b_ n_ T_ F_ I_ tp_ B_ N_ X_ z_ mu_ (fr_ + 1) M_ f_ A_ c_ p_ ce_ rest E_ O_ q_ q'_ E'_ O'_ w_ S_) : ∃ K_ : Nat, S_.2.2.1 148 0 (fr_ + 1) = (K_ : Int) ∧ K_ ≤ 39 ∧ M_ ≤ 15 ∧ fr_ ≤ 14 ∧ B_.1 M_ = B_.1 M_ := by
  obtain ⟨h1_, h2_, h3_, h4_, h5_, h6_, h7_, h8_, h9_, h10_, h11_, h12_, h13_, h14_, h15_, h16_⟩ := h_
  obtain ⟨M0_, f0_, A0_, c0_, p0_, ce0_, rest0, K_, E0_, O0_, i_, q2_, E2_, O2_, w'_, b1_, b2_, b3_, b4_, b5_, b6_, b7_, b8_, b9_, b10_, b11_, b12_, b13_, b14_, b15_⟩ := h15_
  have k_ := hB_40 b3_
  have m_ := (mch_ex h3_).1.1
  exact ⟨K_, b1_.2.1, by omega, m_, by omega, rfl⟩
theorem gin_L {X_ : Nat → gQ → gE → Option (gQ × gE)} {K_ : Nat} (hn_ : n_ ≤ 1280) (h_ : gin b_ n_ T_ F_ I_ tp_ B_ N_ X_ z_ mu_ (fr_ + 1) M_ f_ A_ c_ p_ ce_ rest E_ O_ q_ q'_ E'_ O'_ w_ S_) (hk_ : lx_kd b_ n_ p_ = 125) (hK_ : S_.2.2.1 148 0 (fr_ + 1) = (K_ : Int)) (p1_ : S1_.1 13 0 29 = (fr_ : Int)) (p2_ : ∀ o1_ k1_ : Nat, o1_ < B_.1 M_ → k1_ < 8 → S1_.2.2.1 145 0 (8 * (40 * (40 * fr_ + K_) + o1_) + k1_) = S_.2.2.1 144 0 (8 * (40 * (fr_ + 1) + o1_) + k1_)) (p3_ : ∀ j_, j_ < 8 * (40 * (40 * fr_ + K_)) ∨ 8 * (40 * (40 * fr_ + K_)) + 320 ≤ j_ → S1_.2.2.1 145 0 j_ = S_.2.2.1 145 0 j_) (p4_ : S1_.1 13 0 9 = S_.2.2.1 147 0 (fr_ + 1)) (p5_ : S1_.1 13 0 28 = S_.2.2.1 146 0 fr_) (f4_ : S1_.2.2.1 144 0 = S_.2.2.1 144 0) (f6_ : S1_.2.2.1 146 0 = S_.2.2.1 146 0) (f7_ : S1_.2.2.1 147 0 = S_.2.2.1 147 0) (f8 : S1_.2.2.1 148 0 = S_.2.2.1 148 0) (f9_ : S1_.2.2.1 149 0 = S_.2.2.1 149 0) (fu_ : S1_.1 13 0 53 = S_.1 13 0 53) (ff_ : S1_.1 13 0 10 = S_.1 13 0 10) (fg_ : rgl F_ q_.1 S_ → rgl F_ q_.1 S1_) : ∃ mu1_, mu1_ < mu_ ∧ gim b_ n_ T_ F_ I_ tp_ B_ N_ X_ z_ mu1_ S1_ := by
  obtain ⟨e1_, e2_, e3_⟩ := gin_e h_ hk_
  obtain ⟨h1_, h2_, h3_, h4_, h5_, h6_, h7_, h8_, h9_, h10_, h11_, h12_, h13_, h14_, h15_, h16_⟩ := h_
  subst e2_
  subst e3_
  obtain ⟨M0_, f0_, A0_, c0_, p0_, ce0_, rest0, K0_, E0_, O0_, i_, q2_, E2_, O2_, w'_, b1_, b2_, b3_, b4_, b5_, b6_, b7_, b8_, b9_, b10_, b11_, b12_, b13_, b14_, b15_⟩ := h15_
  have kk_ : K0_ = K_ := by
    have := b1_.2.1
    omega
  subst kk_
  have k40_ := hB_40 b3_
  have pn_ := (mch_ex h3_).2.2.1
  have up_ : ∀ s_ o_, up1 O0_ K0_ (some E'_) s_ = some o_ → (s_ = K0_ ∧ o_ = E'_) ∨ (s_ ≠ K0_ ∧ O0_ s_ = some o_) := by
    intro s_ o_ e_
    have e_ : (if s_ = K0_ then some E'_ else O0_ s_) = some o_ := e_
    by_cases q9_ : s_ = K0_
    · rw [if_pos q9_] at e_
      exact Or.inl ⟨q9_, (Option.some.inj e_).symm⟩
    · rw [if_neg q9_] at e_
      exact Or.inr ⟨q9_, e_⟩
  refine ⟨(300 - q'_.2.2) * 3000 + (1301 - p0_) + w'_, by omega, fr_, M0_, f0_, A0_, c0_, p0_, ce0_, rest0, E0_, up1 O0_ K0_ (some E'_), q'_, q2_, E2_, O2_, w'_, ⟨p1_, p5_.trans b1_.1, fu_.trans h1_.2.2.1, ?_, ?_⟩, ⟨ff_.trans h2_.1, i_, p4_.trans b1_.2.2.1, b2_⟩, b3_, b4_, by omega, ?_, b8_, b9_, ?_, ?_, ?_, fg_ h12_, h13_, b13_, ?_, rfl⟩
  · rw [f6_]; exact b1_.1
  · rw [f9_, b1_.2.2.2, b5_.1]; push_cast; rfl
  · rw [b5_.1]
    refine tst_us b7_ b5_.2.2.2 b6_.1 ?_
    rw [b6_.2, Int.toNat_natCast]
    intro o1_ ho1_ hs_
    exact (h6_.1.2 o1_ (by omega)).1 hs_
  · intro s_ hs_
    rw [b5_.1] at hs_
    show (if s_ = K0_ then some E'_ else O0_ s_) = none
    rw [if_neg (by omega)]
    exact b10_ s_ (by omega)
  · intro s_ o_ e_ o1_ ho1_
    rcases up_ s_ o_ e_ with ⟨u1_, u2_⟩ | ⟨u1_, u2_⟩
    · rw [u2_]; exact h7_ o1_ ho1_
    · exact b11_ s_ o_ u2_ o1_ ho1_
  · refine ⟨?_, fun ok_ => ⟨(h11_.2 ok_).1, (b12_.2 ok_).1, fun s_ o_ e_ t_ => ?_, fun v_ hv_ => by cases hv_⟩⟩
    rotate_left
    · rcases up_ s_ o_ e_ with ⟨u1_, u2_⟩ | ⟨u1_, u2_⟩
      · rw [u2_]; exact (h11_.2 ok_).2.1 t_
      · exact (b12_.2 ok_).2 s_ o_ u2_ t_
    intro ok_
    obtain ⟨v1_, v2_⟩ := b12_.1 ok_
    obtain ⟨v3_, -⟩ := h11_.1 ok_
    rw [b5_.1]
    refine ⟨fun s_ hs_ => by rw [f4_]; exact v1_ s_ hs_, fun s_ o_ hs_ e_ o1_ ho1_ => ?_⟩
    rcases up_ s_ o_ e_ with ⟨u1_, u2_⟩ | ⟨u1_, u2_⟩
    · rw [u1_, u2_]
      by_cases oB_ : o1_ < B_.1 M_
      · have l8_ := h7_ o1_ ho1_
        intro k9_ z9_ e9_
        have kl_ : k9_ < (E'_ o1_).length := by
          by_cases q9_ : k9_ < (E'_ o1_).length
          · exact q9_
          · rw [List.getElem?_eq_none (by omega)] at e9_
            cases e9_
        rw [p2_ o1_ k9_ oB_ (by omega)]
        exact v3_ o1_ ho1_ k9_ z9_ e9_
      · rw [h8_ o1_ (by omega)]
        intro k9_ z9_ e9_
        simp at e9_
    · have l8_ := b11_ s_ o_ u2_ o1_ ho1_
      exact rwv_cg (v2_ s_ o_ (by omega) u2_ o1_ ho1_) (fun k9_ hk9_ => p3_ _ (by omega))
  · exact bel_fr fr_ M0_ q2_ E2_ w'_ b15_ (fun j_ _ => ⟨congrFun f6_ j_, congrFun f9_ j_⟩) (fun j_ _ => ⟨congrFun f7_ j_, congrFun f8 j_⟩) (fun j_ _ => congrFun f4_ j_) (fun j_ hj_ => p3_ j_ (by omega))
theorem gin_R {X_ : Nat → gQ → gE → Option (gQ × gE)} (hX_ : lwX F_ I_ X_) (h_ : gin b_ n_ T_ F_ I_ tp_ B_ N_ X_ z_ mu_ fr_ M_ f_ A_ c_ p_ ce_ rest E_ O_ q_ q'_ E'_ O'_ w_ S_) : q'_.2.1 ≤ z_.1.2.1 := by
  obtain ⟨h1_, h2_, h3_, h4_, h5_, h6_, h7_, h8_, h9_, h10_, h11_, h12_, h13_, h14_, h15_, h16_⟩ := h_
  exact bel_R hX_ _ _ _ _ _ h15_
end GI_
