/-! boxes taken; written by wip/p55/gen/vg -/

/-! boxes taken of_ a_ board -/
def tk0 (o_ s_ : Nat → Int) (w_ y_ x_ : Int) : Int := if o_ (y_ * w_ + x_).toNat = -1 then -1 else if 0 < x_ ∧ s_ (y_ * w_ + x_ - 1).toNat % 2 ≠ 0 then -1 else o_ (y_ * w_ + x_).toNat
def tk1 (o_ s_ : Nat → Int) (h_ w_ x_ y_ : Int) : Int := if o_ ((h_ + y_) * (w_ + 2) + x_).toNat = -1 then -1 else if 0 < y_ ∧ i_and (s_ ((h_ + y_) * (w_ + 2) + x_ - w_ - 2).toNat) 2 ≠ 0 then -1 else o_ ((h_ + y_) * (w_ + 2) + x_).toNat
def tk2 (o_ s_ : Nat → Int) (w_ y_ x_ : Int) : Int := if i_and (s_ (y_ * w_ + x_).toNat) 4 = 0 then -1 else o_ (y_ * w_ + x_).toNat
/-- one_ box_ more of_ net_ t_ -/
def nxb9 (ii_ : Nat) (t_ : Int) (S_ S'_ : sm_S) : Prop := ∀ c_ : Nat, S'_.2.2.1 49 (0 + ii_) c_ = S_.2.2.1 49 (0 + ii_) c_ + if t_ = (c_ : Int) then 1 else 0
theorem nxb9_n {ii_ : Nat} {S_ : sm_S} {t_ : Int} (h_ : t_ < 0) : nxb9 ii_ t_ S_ S_ := fun c_ => by rw [if_neg (by omega)]; omega
/-! Layout.forget -/
def vw_68 : sx_Wl := ([(4, 9), (4, 10)], [], [])
def vq_68 (ii_ : Nat) (S0_ : sm_S) (u_ : Option sm_V) (S1_ : sm_S) : Prop := u_ = none ∧ gi S1_ ∧ ai_fr (sx_W vw_68) S0_ S1_ ∧ (cdf ii_ S0_ S1_ ∧ (True))
set_option maxHeartbeats 400000 in
theorem vc_68 {sc_ : Nat × (Nat → Int)} (ii_ : Nat) (S0_ : sm_S) (hI_ : gi S0_)  : sm_T (mt_P sc_) 0 68 (0, [some (.inr (.inr (some (4, ii_))))], [], S0_) (fun ro9_ => ∃ u_ S1_, ro9_ = (.inl u_, S1_, 0) ∧ vq_68 ii_ S0_ u_ S1_) := by
  have hF_ : ai_fr (sx_W vw_68) S0_ S0_ := ai_fr_rf
  have hC_ : cdf ii_ S0_ S0_ := cdf_rf
  have hIx1_ : gi (sm_pI S0_ 4 ii_ 9 0) := gi_pI hI_ (show 0 ≤ 0 ∧ 0 ≤ 1 from ⟨by omega, by omega⟩)
  have hFx2_ : ai_fr (sx_W vw_68) S0_ (sm_pI S0_ 4 ii_ 9 0) := ai_fr_tr hF_ (ai_fr_pI rfl)
  have hCx3_ : cdf ii_ S0_ (sm_pI S0_ 4 ii_ 9 0) := cdf_pI hC_ (Or.inr (by rw [show cof 4 = 0 from rfl] <;> omega))
  have hIx4_ : gi (sm_pI (sm_pI S0_ 4 ii_ 9 0) 4 ii_ 10 0) := gi_pI hIx1_ (show 0 ≤ 0 ∧ 0 ≤ 1 from ⟨by omega, by omega⟩)
  have hFx5_ : ai_fr (sx_W vw_68) S0_ (sm_pI (sm_pI S0_ 4 ii_ 9 0) 4 ii_ 10 0) := ai_fr_tr hFx2_ (ai_fr_pI rfl)
  have hCx6_ : cdf ii_ S0_ (sm_pI (sm_pI S0_ 4 ii_ 9 0) 4 ii_ 10 0) := cdf_pI hCx3_ (Or.inr (by rw [show cof 4 = 0 from rfl] <;> omega))
  refine sm_T_go 6 (c1 := (10, [some (.inr (.inr (some (4, ii_))))], [], sm_pI (sm_pI S0_ 4 ii_ 9 0) 4 ii_ 10 0)) rfl ?_
  refine sm_T_rv rfl ⟨_, _, rfl, rfl, hIx4_, hFx5_, ?_⟩
  refine ⟨hCx6_, ?_⟩
  trivial
