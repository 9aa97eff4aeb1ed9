/-! the reference: least patterns; written by wip/p55/gen/vg -/

theorem lb_0 {x_ k_ : Int} (hk_ : 0 ≤ k_ ∧ k_ ≤ 63) (h_ : l_3 (l_s2 x_ k_) 1 = 0) : lbt x_ k_.toNat = false := by
  obtain ⟨u_, rfl⟩ : ∃ u_ : Nat, k_ = (u_ : Int) := ⟨k_.toNat, by omega⟩
  have q_ := congrArg (fun z_ => lbt z_ 0) h_
  have q_ : lbt (l_3 (l_s2 x_ (u_ : Int)) 1) 0 = lbt 0 0 := q_
  rw [lbt_3, lbt_1, Bool.and_true, lbt_0, lbt_s2 (by omega)] at q_
  exact q_
theorem lb_k1 : ∀ i_ : Fin 64, (i_ : Nat) ≠ 0 → lbt 1 (i_ : Nat) = false := by decide +kernel
theorem lb_1 {x_ k_ : Int} (hk_ : 0 ≤ k_ ∧ k_ ≤ 63) (h_ : l_3 (l_s2 x_ k_) 1 ≠ 0) : lbt x_ k_.toNat = true := by
  obtain ⟨u_, rfl⟩ : ∃ u_ : Nat, k_ = (u_ : Int) := ⟨k_.toNat, by omega⟩
  cases q_ : lbt x_ u_
  · exfalso
    apply h_
    refine lbt_e (lcn_i _) (lcn_i 0) (fun i_ hi_ => ?_)
    rw [lbt_3, lbt_0]
    by_cases c_ : i_ = 0
    · rw [c_, lbt_s2 (by omega), q_, Bool.false_and]
    · rw [lb_k1 ⟨i_, hi_⟩ c_, Bool.and_false]
  · exact q_
theorem wo_x9 {b_ wo : Int} (hb_ : 0 ≤ b_ ∧ b_ ≤ 12) (h_ : wo = if b_ < 6 then 1 else 2 ^ (b_ - 6).toNat) : (2 : Int) ^ b_.toNat ≤ 64 * wo ∧ (6 ≤ b_ → (2 : Int) ^ b_.toNat = 64 * wo) ∧ (b_ < 6 → wo = 1) := by
  have k_ : ∀ j_ : Fin 13, (2 : Int) ^ j_.val ≤ 64 * (if ((j_.val : Nat) : Int) < 6 then 1 else 2 ^ (((j_.val : Nat) : Int) - 6).toNat) ∧ (6 ≤ ((j_.val : Nat) : Int) → (2 : Int) ^ j_.val = 64 * (if ((j_.val : Nat) : Int) < 6 then 1 else 2 ^ (((j_.val : Nat) : Int) - 6).toNat)) ∧ (((j_.val : Nat) : Int) < 6 → (if ((j_.val : Nat) : Int) < 6 then (1 : Int) else 2 ^ (((j_.val : Nat) : Int) - 6).toNat) = 1) := by decide
  obtain ⟨u_, rfl⟩ : ∃ u_ : Nat, b_ = (u_ : Int) := ⟨b_.toNat, by omega⟩
  rw [h_]
  exact k_ ⟨u_, by omega⟩
/-- the_ least pattern that shows a_ fault -/
def rsl (c_ : Int) (S_ : sm_S) (f_ v_ : Int) : Prop := (v_ = -1 ∧ ∀ p_ : Nat, (p_ : Int) < 2 ^ (S_.2.2.1 223 0 c_.toNat + S_.2.2.1 224 0 c_.toNat).toNat → rshq c_ S_ f_ p_ false) ∨ ∃ q_ : Nat, v_ = (q_ : Int) ∧ (q_ : Int) < 2 ^ (S_.2.2.1 223 0 c_.toNat + S_.2.2.1 224 0 c_.toNat).toNat ∧ rshq c_ S_ f_ q_ true ∧ ∀ p_ : Nat, p_ < q_ → rshq c_ S_ f_ p_ false
theorem rsl_fr {w_ : sx_Wl} {c_ : Int} {S_ S'_ : sm_S} (g_ : ai_fr (sx_W w_) S_ S'_) (r_ : rwf w_ = true := by rfl) {f_ v_ : Int} : rsl c_ S'_ f_ v_ ↔ rsl c_ S_ f_ v_ := by
  unfold rsl
  rw [fr_arr (t := 223) (i := 0) g_ (rwf_0 r_ rfl), fr_arr (t := 224) (i := 0) g_ (rwf_0 r_ rfl)]
  simp only [rsh_fr g_ r_]
/-- what is_ kept of_ least patterns is_ right -/
def lsk (S_ : sm_S) : Prop := ∀ c9_ : Int, 0 ≤ c9_ → c9_ < 4 → S_.2.2.1 222 0 c9_.toNat = 1 → ∀ f9_ : Int, 0 ≤ f9_ → f9_ < fco c9_ S_ → imq (S_.2.2.1 294 0 (1280 * c9_ + f9_).toNat ≠ 0) (rsl c9_ S_ f9_ (S_.2.2.1 294 0 (1280 * c9_ + f9_).toNat - 2))
/-! M_.searchPattern -/
def vw_521n : sx_Wl := ([(13, 221), (13, 222)], [238, 293], [])
def vq_521n (c_ : Int) (f_ : Int) (S0_ : sm_S) (u_ : Option sm_V) (S1_ : sm_S) : Prop := ∃ v_ : Int, u_ = some (.inl v_) ∧ gi S1_ ∧ ai_fr (sx_W vw_521n) S0_ S1_ ∧ ((-1 ≤ v_ ∧ v_ ≤ 4095) ∧ rsl c_ S0_ f_ v_)
set_option maxHeartbeats 2000000 in
set_option maxRecDepth 20000 in
theorem vl_521n {sc_ : Nat × (Nat → Int)} (c_ : Int) (f_ : Int) (S0_ : sm_S) (hc_ : 0 ≤ c_ ∧ c_ ≤ 3) (hx_ : S0_.2.2.1 223 0 c_.toNat + S0_.2.2.1 224 0 c_.toNat ≤ 12) (hg_ : cgt c_ S0_) (ho_ : con c_ S0_) (hf_ : 0 ≤ f_ ∧ f_ < fco c_ S0_) : ∀ nn_ : Nat, (∀ (wo : Int) (w_ : Int) (S_ : sm_S), gi S_ → ai_fr (sx_W vw_521n) S0_ S_ → ((0 ≤ w_ ∧ w_ ≤ wo ∧ wo ≤ 64) ∧ (∀ p9_ : Nat, (p9_ : Int) < 64 * w_ → (p9_ : Int) < 2 ^ (S0_.2.2.1 223 0 c_.toNat + S0_.2.2.1 224 0 c_.toNat).toNat → rshq c_ S0_ f_ p9_ false) ∧ (wo = if S0_.2.2.1 223 0 c_.toNat + S0_.2.2.1 224 0 c_.toNat < 6 then 1 else 2 ^ (S0_.2.2.1 223 0 c_.toNat + S0_.2.2.1 224 0 c_.toNat - 6).toNat) ∧ True) → ((100 * (500 - w_) + 90).toNat) < nn_ → sm_T (mt_P sc_) 3 521 (44, [some (.inr (.inr (some (13, 0)))), some (.inl c_), some (.inl f_), some (.inl wo), some (.inl w_), none, none, none], [], S_) (fun ro9_ => ∃ u_ S1_, ro9_ = (.inl u_, S1_, 0) ∧ vq_521n c_ f_ S0_ u_ S1_)) ∧ (∀ (wo : Int) (w_ : Int) (sh_ : Int) (k_ : Int) (S_ : sm_S), gi S_ → ai_fr (sx_W vw_521n) S0_ S_ → ((0 ≤ w_ ∧ w_ < wo ∧ wo ≤ 64 ∧ 0 ≤ k_ ∧ k_ ≤ 63) ∧ (lcn sh_) ∧ (sh_ ≠ 0) ∧ (∀ j9_ : Nat, (j9_ : Int) < k_ → l_3 (l_s2 sh_ (j9_ : Int)) 1 = 0) ∧ (∀ p9_ : Nat, (p9_ : Int) < 64 * w_ → (p9_ : Int) < 2 ^ (S0_.2.2.1 223 0 c_.toNat + S0_.2.2.1 224 0 c_.toNat).toNat → rshq c_ S0_ f_ p9_ false) ∧ (wo = if S0_.2.2.1 223 0 c_.toNat + S0_.2.2.1 224 0 c_.toNat < 6 then 1 else 2 ^ (S0_.2.2.1 223 0 c_.toNat + S0_.2.2.1 224 0 c_.toNat - 6).toNat) ∧ (∀ i9_ : Nat, i9_ < 64 → ((i9_ : Int) < 2 ^ (S0_.2.2.1 223 0 c_.toNat + S0_.2.2.1 224 0 c_.toNat).toNat ∨ 6 ≤ S0_.2.2.1 223 0 c_.toNat + S0_.2.2.1 224 0 c_.toNat) → rshq c_ S0_ f_ (64 * w_.toNat + i9_) (lbt sh_ i9_)) ∧ (∀ i9_ : Nat, i9_ < 64 → ¬ ((i9_ : Int) < 2 ^ (S0_.2.2.1 223 0 c_.toNat + S0_.2.2.1 224 0 c_.toNat).toNat ∨ 6 ≤ S0_.2.2.1 223 0 c_.toNat + S0_.2.2.1 224 0 c_.toNat) → lbt sh_ i9_ = false) ∧ True) → ((100 * (500 - w_) + 80 - k_).toNat) < nn_ → sm_T (mt_P sc_) 3 521 (77, [some (.inr (.inr (some (13, 0)))), some (.inl c_), some (.inl f_), some (.inl wo), some (.inl w_), some (.inr (.inl sh_)), none, some (.inl k_)], [], S_) (fun ro9_ => ∃ u_ S1_, ro9_ = (.inl u_, S1_, 0) ∧ vq_521n c_ f_ S0_ u_ S1_)) := by
  intro nn_
  induction nn_ with
  | zero => exact ⟨fun _ _ _ _ _ _ h_ => absurd h_ (Nat.not_lt_zero _), fun _ _ _ _ _ _ _ _ h_ => absurd h_ (Nat.not_lt_zero _)⟩
  | succ nn_ ih_ =>
    refine ⟨?_, ?_⟩
    · rintro wo w_ S_ hI_ hF_ ⟨h0_, hp_, hw_, -⟩ hm_
      have f223_ : S_.2.2.1 223 0 = S0_.2.2.1 223 0 := fr_arr hF_ rfl
      have f224_ : S_.2.2.1 224 0 = S0_.2.2.1 224 0 := fr_arr hF_ rfl
      have f225_ : S_.2.2.1 225 0 = S0_.2.2.1 225 0 := fr_arr hF_ rfl
      have f228_ : S_.2.2.1 228 0 = S0_.2.2.1 228 0 := fr_arr hF_ rfl
      have x223_ : S_.2.2.1 223 0 c_.toNat = S0_.2.2.1 223 0 c_.toNat := congrFun f223_ _
      have x224_ : S_.2.2.1 224 0 c_.toNat = S0_.2.2.1 224 0 c_.toNat := congrFun f224_ _
      have x225_ : S_.2.2.1 225 0 c_.toNat = S0_.2.2.1 225 0 c_.toNat := congrFun f225_ _
      have x228_ : S_.2.2.1 228 0 c_.toNat = S0_.2.2.1 228 0 c_.toNat := congrFun f228_ _
      have cA_ : 0 ≤ S_.2.2.1 223 0 c_.toNat ∧ S_.2.2.1 223 0 c_.toNat ≤ 12 := hI_.2 223 0 _
      have cB_ : 0 ≤ S_.2.2.1 224 0 c_.toNat ∧ S_.2.2.1 224 0 c_.toNat ≤ 6 := hI_.2 224 0 _
      have cG_ : 0 ≤ S_.2.2.1 228 0 c_.toNat ∧ S_.2.2.1 228 0 c_.toNat ≤ 150 := hI_.2 228 0 _
      have k4_ := cgt_fr hc_.1 hI_ hg_ hF_
      have k5_ := con_fr hc_.1 hI_ ho_ hF_
      have kf_ : fco c_ S_ = fco c_ S0_ := fco_fr hF_
      have wb9_ := wo_x9 (b_ := S0_.2.2.1 223 0 c_.toNat + S0_.2.2.1 224 0 c_.toNat) (by omega) hw_
      refine sm_T_go 2 (c1 := (47, [some (.inr (.inr (some (13, 0)))), some (.inl c_), some (.inl f_), some (.inl wo), some (.inl w_), none, none, none], [.inl wo, .inl w_], S_)) rfl ?_
      refine sm_T_br (a := 3) (z := 63) rfl (fun cx1_ => ?_) (fun cx1_ => ?_)
      · have cx1_ : wo ≤ w_ := of_decide_eq_true cx1_
        refine sm_T_go 1 (c1 := (111, [some (.inr (.inr (some (13, 0)))), some (.inl c_), some (.inl f_), some (.inl wo), some (.inl w_), none, none, none], [.inl (-1)], S_)) rfl ?_
        refine sm_T_ri rfl ⟨_, _, rfl, _, rfl, hI_, hF_, ?_⟩
        first | (have c9_ : wo ≤ w_ := (by omega); exact ⟨by omega, Or.inl ⟨rfl, fun p9_ hp9_ => hp_ p9_ (by omega) hp9_⟩⟩) | (have ok9_ : ((k_.toNat : Int) < 2 ^ (S0_.2.2.1 223 0 c_.toNat + S0_.2.2.1 224 0 c_.toNat).toNat ∨ 6 ≤ S0_.2.2.1 223 0 c_.toNat + S0_.2.2.1 224 0 c_.toNat) := (by (by_cases y9_ : ((k_.toNat : Int) < 2 ^ (S0_.2.2.1 223 0 c_.toNat + S0_.2.2.1 224 0 c_.toNat).toNat ∨ 6 ≤ S0_.2.2.1 223 0 c_.toNat + S0_.2.2.1 224 0 c_.toNat); exact y9_; exact absurd (t86_.symm.trans (hn_ k_.toNat (by omega) y9_)) (by decide))); refine ⟨by omega, Or.inr ⟨64 * w_.toNat + k_.toNat, by omega, ?_, ?_, fun p9_ hp9_ => ?_⟩⟩; (rcases ok9_ with y9_ | y9_; (by_cases y8_ : 6 ≤ S0_.2.2.1 223 0 c_.toNat + S0_.2.2.1 224 0 c_.toNat; (have y7_ := wb9_.2.1 y8_; omega); (have y7_ := wb9_.2.2 (by omega); omega)); (have y7_ := wb9_.2.1 y9_; omega)); (have q9_ := hs_ k_.toNat (by omega) ok9_; rw [t86_] at q9_; exact q9_); (by_cases z9_ : (p9_ : Int) < 64 * w_; (exact hp_ p9_ z9_ (by (rcases ok9_ with y9_ | y9_; (by_cases y8_ : 6 ≤ S0_.2.2.1 223 0 c_.toNat + S0_.2.2.1 224 0 c_.toNat; (have y7_ := wb9_.2.1 y8_; omega); (have y7_ := wb9_.2.2 (by omega); omega)); (have y7_ := wb9_.2.1 y9_; omega)))); (have o9_ : (((p9_ - 64 * w_.toNat : Nat) : Int) < 2 ^ (S0_.2.2.1 223 0 c_.toNat + S0_.2.2.1 224 0 c_.toNat).toNat ∨ 6 ≤ S0_.2.2.1 223 0 c_.toNat + S0_.2.2.1 224 0 c_.toNat) := (by (rcases ok9_ with y9_ | y9_; (left; omega); exact Or.inr y9_)); have q9_ := hs_ (p9_ - 64 * w_.toNat) (by omega) o9_; have b8_ := hb_ (p9_ - 64 * w_.toNat) (by omega); have b7_ := lb_0 (x_ := sh_) (k_ := ((p9_ - 64 * w_.toNat : Nat) : Int)) (by omega) b8_; rw [Int.toNat_natCast] at b7_; rw [b7_, show 64 * w_.toNat + (p9_ - 64 * w_.toNat) = p9_ by omega] at q9_; exact q9_)))
      · have cx1_ : ¬ (wo ≤ w_) := of_decide_eq_false cx1_
        refine sm_T_go 3 (c1 := (54, [some (.inr (.inr (some (13, 0)))), some (.inl c_), some (.inl f_), some (.inl wo), some (.inl w_), none, none, none], [.inl w_, .inl c_, .inr (.inr (some (13, 0)))], S_)) rfl ?_
        refine sm_T_cal (d1 := 2) (Q1 := vq_517n c_ w_ S_) rfl rfl (by decide) (vc_517n c_ w_ S_ hI_ (by exact hc_) (by omega) (by exact k4_) (by exact k5_) (by omega)) (fun u_ Sx2_ px5_ => ?_)
        obtain ⟨rfl, hIx3_, hFx4_, px5_⟩ := px5_
        have hFx6_ : ai_fr (sx_W vw_521n) S0_ Sx2_ := ai_fr_tr hF_ (fr_le hFx4_ rfl)
        have y223_ : Sx2_.2.2.1 223 0 c_.toNat = S_.2.2.1 223 0 c_.toNat := congrFun (fr_arr hFx4_ rfl) _
        have y224_ : Sx2_.2.2.1 224 0 c_.toNat = S_.2.2.1 224 0 c_.toNat := congrFun (fr_arr hFx4_ rfl) _
        have r54_ := px5_
        have G54_ := hFx4_
        have F54_ := hFx6_
        have z3_ : Sx2_.2.2.1 223 0 c_.toNat + Sx2_.2.2.1 224 0 c_.toNat = S0_.2.2.1 223 0 c_.toNat + S0_.2.2.1 224 0 c_.toNat := by omega
        refine sm_T_go 4 (c1 := (62, [some (.inr (.inr (some (13, 0)))), some (.inl c_), some (.inl f_), some (.inl wo), some (.inl w_), none, none, none], [.inl f_, .inl w_, .inl c_, .inr (.inr (some (13, 0)))], Sx2_)) rfl ?_
        refine sm_T_cal (d1 := 2) (Q1 := vq_518n c_ w_ f_ Sx2_) rfl rfl (by decide) (vc_518n c_ w_ f_ Sx2_ hIx3_ (by exact hc_) (by omega) (by exact cgt_fr hc_.1 hIx3_ hg_ hFx6_) (by exact con_fr hc_.1 hIx3_ ho_ hFx6_) (by omega) (by (rw [fco_fr hFx6_]; exact hf_)) (by exact rgh_fr r54_ G54_)) (fun u_ Sx7_ px10_ => ?_)
        obtain ⟨vx12_, rfl, hIx8_, hFx9_, px10_⟩ := px10_
        have hFx11_ : ai_fr (sx_W vw_521n) S0_ Sx7_ := ai_fr_tr hFx6_ (fr_le hFx9_ rfl)
        have e62_ := (px10_).2.2
        have s62_ := fun (i9_ : Nat) (hi9_ : i9_ < 64) (q9_ : ((i9_ : Int) < 2 ^ (S0_.2.2.1 223 0 c_.toNat + S0_.2.2.1 224 0 c_.toNat).toNat ∨ 6 ≤ S0_.2.2.1 223 0 c_.toNat + S0_.2.2.1 224 0 c_.toNat)) => (rsh_fr F54_).mp ((px10_).1 i9_ hi9_ (by (rw [z3_]; exact q9_)))
        have n62_ := fun (i9_ : Nat) (hi9_ : i9_ < 64) (q9_ : ¬ ((i9_ : Int) < 2 ^ (S0_.2.2.1 223 0 c_.toNat + S0_.2.2.1 224 0 c_.toNat).toNat ∨ 6 ≤ S0_.2.2.1 223 0 c_.toNat + S0_.2.2.1 224 0 c_.toNat)) => (px10_).2.1 i9_ hi9_ (by (rw [z3_]; exact q9_))
        refine sm_T_go 4 (c1 := (71, [some (.inr (.inr (some (13, 0)))), some (.inl c_), some (.inl f_), some (.inl wo), some (.inl w_), some (.inr (.inl vx12_)), none, none], [.inl (sm_lcmp vx12_ 0)], Sx7_)) rfl ?_
        refine sm_T_b0 (a := 0) (z := 33) rfl (fun cx13_ => ?_) (fun cx13_ => ?_)
        · have cx13_ : (sm_lcmp vx12_ 0) = 0 := of_decide_eq_true cx13_
          have v71_ := lcmp_0.mp cx13_
          refine sm_T_inc (a := 4) (z := 1) (v := w_) (w := w_ + 1) rfl rfl (by omega) (by omega) (by omega) ?_ -- pc_ 104
          refine sm_T_go 1 (c1 := (44, [some (.inr (.inr (some (13, 0)))), some (.inl c_), some (.inl f_), some (.inl wo), some (.inl (w_ + 1)), some (.inr (.inl vx12_)), none, none], [], Sx7_)) rfl ?_
          refine sm_T_wk [some (.inr (.inr (some (13, 0)))), some (.inl c_), some (.inl f_), some (.inl wo), some (.inl (w_ + 1)), none, none, none] (by exact ⟨rfl, rfl, rfl, rfl, rfl, trivial⟩) ?_
          refine ih_.1 wo (w_ + 1) Sx7_ hIx8_ hFx11_ ⟨?_, ?_, ?_, trivial⟩ ?_
          · omega
          · intro p9_ hp9_ hq9_
            by_cases z9_ : (p9_ : Int) < 64 * w_
            · exact hp_ p9_ z9_ hq9_
            · have o9_ : (((p9_ - 64 * w_.toNat : Nat) : Int) < 2 ^ (S0_.2.2.1 223 0 c_.toNat + S0_.2.2.1 224 0 c_.toNat).toNat ∨ 6 ≤ S0_.2.2.1 223 0 c_.toNat + S0_.2.2.1 224 0 c_.toNat) := by (by_cases y9_ : 6 ≤ S0_.2.2.1 223 0 c_.toNat + S0_.2.2.1 224 0 c_.toNat; exact Or.inr y9_; (left; have y8_ := wb9_.2.2 (by omega); omega))
              have q9_ := s62_ (p9_ - 64 * w_.toNat) (by omega) o9_
              rw [v71_, lbt_0, show 64 * w_.toNat + (p9_ - 64 * w_.toNat) = p9_ by omega] at q9_
              exact q9_
          · exact hw_
          · omega
        · have cx13_ : ¬ ((sm_lcmp vx12_ 0) = 0) := of_decide_eq_false cx13_
          have z71_ := fun q9_ => cx13_ (lcmp_0.mpr q9_)
          refine sm_T_go 2 (c1 := (77, [some (.inr (.inr (some (13, 0)))), some (.inl c_), some (.inl f_), some (.inl wo), some (.inl w_), some (.inr (.inl vx12_)), none, some (.inl 0)], [], Sx7_)) rfl ?_
          refine ih_.2 wo w_ vx12_ 0 Sx7_ hIx8_ hFx11_ ⟨?_, ?_, ?_, ?_, ?_, ?_, ?_, ?_, trivial⟩ ?_
          · omega
          · exact e62_
          · exact z71_
          · (intro j9_ u9_; exfalso; omega)
          · exact hp_
          · exact hw_
          · exact s62_
          · exact n62_
          · omega
    · rintro wo w_ sh_ k_ S_ hI_ hF_ ⟨h0_, hl_, hz_, hb_, hp_, hw_, hs_, hn_, -⟩ hm_
      have cA_ : 0 ≤ S_.2.2.1 223 0 c_.toNat ∧ S_.2.2.1 223 0 c_.toNat ≤ 12 := hI_.2 223 0 _
      have cB_ : 0 ≤ S_.2.2.1 224 0 c_.toNat ∧ S_.2.2.1 224 0 c_.toNat ≤ 6 := hI_.2 224 0 _
      have cG_ : 0 ≤ S_.2.2.1 228 0 c_.toNat ∧ S_.2.2.1 228 0 c_.toNat ≤ 150 := hI_.2 228 0 _
      have f223_ : S_.2.2.1 223 0 = S0_.2.2.1 223 0 := fr_arr hF_ rfl
      have f224_ : S_.2.2.1 224 0 = S0_.2.2.1 224 0 := fr_arr hF_ rfl
      have x223_ : S_.2.2.1 223 0 c_.toNat = S0_.2.2.1 223 0 c_.toNat := congrFun f223_ _
      have x224_ : S_.2.2.1 224 0 c_.toNat = S0_.2.2.1 224 0 c_.toNat := congrFun f224_ _
      have wb9_ := wo_x9 (b_ := S0_.2.2.1 223 0 c_.toNat + S0_.2.2.1 224 0 c_.toNat) (by omega) hw_
      refine sm_T_go 7 (c1 := (86, [some (.inr (.inr (some (13, 0)))), some (.inl c_), some (.inl f_), some (.inl wo), some (.inl w_), some (.inr (.inl sh_)), none, some (.inl k_)], [.inl (sm_lcmp ((l_3 ((l_s2 sh_ k_)) 1)) 0)], S_)) rfl ?_
      refine sm_T_b0 (a := 1) (z := 9) rfl (fun cx1_ => ?_) (fun cx1_ => ?_)
      · have cx1_ : (sm_lcmp ((l_3 ((l_s2 sh_ k_)) 1)) 0) ≠ 0 := of_decide_eq_true cx1_
        have t86_ := lb_1 (x_ := sh_) (k_ := k_) (by omega) (fun q9_ => cx1_ (lcmp_0.mpr q9_))
        refine sm_T_go 2 (c1 := (99, [some (.inr (.inr (some (13, 0)))), some (.inl c_), some (.inl f_), some (.inl wo), some (.inl w_), some (.inr (.inl sh_)), none, some (.inl k_)], [.inl w_, .inl 64], S_)) rfl ?_
        refine sm_T_bin (w := 64 * w_) rfl (bi_mul (by omega) (by omega) (by omega)) ?_ -- pc_ 99
        refine sm_T_go 1 (c1 := (102, [some (.inr (.inr (some (13, 0)))), some (.inl c_), some (.inl f_), some (.inl wo), some (.inl w_), some (.inr (.inl sh_)), none, some (.inl k_)], [.inl k_, .inl (64 * w_)], S_)) rfl ?_
        refine sm_T_bin (w := 64 * w_ + k_) rfl (bi_add (by omega) (by omega) (by omega)) ?_ -- pc_ 102
        refine sm_T_ri rfl ⟨_, _, rfl, _, rfl, hI_, hF_, ?_⟩
        first | (have c9_ : wo ≤ w_ := (by omega); exact ⟨by omega, Or.inl ⟨rfl, fun p9_ hp9_ => hp_ p9_ (by omega) hp9_⟩⟩) | (have ok9_ : ((k_.toNat : Int) < 2 ^ (S0_.2.2.1 223 0 c_.toNat + S0_.2.2.1 224 0 c_.toNat).toNat ∨ 6 ≤ S0_.2.2.1 223 0 c_.toNat + S0_.2.2.1 224 0 c_.toNat) := (by (by_cases y9_ : ((k_.toNat : Int) < 2 ^ (S0_.2.2.1 223 0 c_.toNat + S0_.2.2.1 224 0 c_.toNat).toNat ∨ 6 ≤ S0_.2.2.1 223 0 c_.toNat + S0_.2.2.1 224 0 c_.toNat); exact y9_; exact absurd (t86_.symm.trans (hn_ k_.toNat (by omega) y9_)) (by decide))); refine ⟨by omega, Or.inr ⟨64 * w_.toNat + k_.toNat, by omega, ?_, ?_, fun p9_ hp9_ => ?_⟩⟩; (rcases ok9_ with y9_ | y9_; (by_cases y8_ : 6 ≤ S0_.2.2.1 223 0 c_.toNat + S0_.2.2.1 224 0 c_.toNat; (have y7_ := wb9_.2.1 y8_; omega); (have y7_ := wb9_.2.2 (by omega); omega)); (have y7_ := wb9_.2.1 y9_; omega)); (have q9_ := hs_ k_.toNat (by omega) ok9_; rw [t86_] at q9_; exact q9_); (by_cases z9_ : (p9_ : Int) < 64 * w_; (exact hp_ p9_ z9_ (by (rcases ok9_ with y9_ | y9_; (by_cases y8_ : 6 ≤ S0_.2.2.1 223 0 c_.toNat + S0_.2.2.1 224 0 c_.toNat; (have y7_ := wb9_.2.1 y8_; omega); (have y7_ := wb9_.2.2 (by omega); omega)); (have y7_ := wb9_.2.1 y9_; omega)))); (have o9_ : (((p9_ - 64 * w_.toNat : Nat) : Int) < 2 ^ (S0_.2.2.1 223 0 c_.toNat + S0_.2.2.1 224 0 c_.toNat).toNat ∨ 6 ≤ S0_.2.2.1 223 0 c_.toNat + S0_.2.2.1 224 0 c_.toNat) := (by (rcases ok9_ with y9_ | y9_; (left; omega); exact Or.inr y9_)); have q9_ := hs_ (p9_ - 64 * w_.toNat) (by omega) o9_; have b8_ := hb_ (p9_ - 64 * w_.toNat) (by omega); have b7_ := lb_0 (x_ := sh_) (k_ := ((p9_ - 64 * w_.toNat : Nat) : Int)) (by omega) b8_; rw [Int.toNat_natCast] at b7_; rw [b7_, show 64 * w_.toNat + (p9_ - 64 * w_.toNat) = p9_ by omega] at q9_; exact q9_)))
      · have cx1_ : ¬ ((sm_lcmp ((l_3 ((l_s2 sh_ k_)) 1)) 0) ≠ 0) := of_decide_eq_false cx1_
        have b9_ := lcmp_0.mp (show sm_lcmp (l_3 (l_s2 sh_ k_) 1) 0 = 0 by omega)
        refine sm_T_inc (a := 7) (z := 1) (v := k_) (w := k_ + 1) rfl rfl (by omega) (by omega) (by omega) ?_ -- pc_ 89
        refine sm_T_go 1 (c1 := (77, [some (.inr (.inr (some (13, 0)))), some (.inl c_), some (.inl f_), some (.inl wo), some (.inl w_), some (.inr (.inl sh_)), none, some (.inl (k_ + 1))], [], S_)) rfl ?_
        refine ih_.2 wo w_ sh_ (k_ + 1) S_ hI_ hF_ ⟨?_, ?_, ?_, ?_, ?_, ?_, ?_, ?_, trivial⟩ ?_
        · have n9_ : k_ ≠ 63 := fun q9_ => hz_ (lbz hl_ (fun j9_ u9_ => by (by_cases x9_ : (j9_ : Int) < k_; exact hb_ j9_ x9_; (rw [show (j9_ : Int) = k_ by omega]; exact b9_))))
          omega
        · exact hl_
        · exact hz_
        · (intro j9_ u9_; by_cases x9_ : (j9_ : Int) < k_; exact hb_ j9_ x9_; (rw [show (j9_ : Int) = k_ by omega]; exact b9_))
        · exact hp_
        · exact hw_
        · exact hs_
        · exact hn_
        · omega
set_option maxHeartbeats 2000000 in
set_option maxRecDepth 20000 in
theorem vc_521n {sc_ : Nat × (Nat → Int)} (c_ : Int) (f_ : Int) (S0_ : sm_S) (hI_ : gi S0_) (hc_ : 0 ≤ c_ ∧ c_ ≤ 3) (hx_ : S0_.2.2.1 223 0 c_.toNat + S0_.2.2.1 224 0 c_.toNat ≤ 12) (hg_ : cgt c_ S0_) (ho_ : con c_ S0_) (hf_ : 0 ≤ f_ ∧ f_ < fco c_ S0_) : sm_T (mt_P sc_) 3 521 (0, [some (.inr (.inr (some (13, 0)))), some (.inl c_), some (.inl f_), none, none, none, none, none], [], S0_) (fun ro9_ => ∃ u_ S1_, ro9_ = (.inl u_, S1_, 0) ∧ vq_521n c_ f_ S0_ u_ S1_) := by
  have hF_ : ai_fr (sx_W vw_521n) S0_ S0_ := ai_fr_rf
  have cA_ : 0 ≤ S0_.2.2.1 223 0 c_.toNat ∧ S0_.2.2.1 223 0 c_.toNat ≤ 12 := hI_.2 223 0 _
  have cB_ : 0 ≤ S0_.2.2.1 224 0 c_.toNat ∧ S0_.2.2.1 224 0 c_.toNat ≤ 6 := hI_.2 224 0 _
  have cG_ : 0 ≤ S0_.2.2.1 228 0 c_.toNat ∧ S0_.2.2.1 228 0 c_.toNat ≤ 150 := hI_.2 228 0 _
  refine sm_T_go 3 (c1 := (5, [some (.inr (.inr (some (13, 0)))), some (.inl c_), some (.inl f_), none, none, none, none, none], [.inl c_, .inr (.inr (some (223, 0)))], S0_)) rfl ?_
  refine sm_T_iald (n := 4) rfl rfl (by omega) (by omega) ?_
  have bx1_ : 0 ≤ S0_.2.2.1 223 0 c_.toNat ∧ S0_.2.2.1 223 0 c_.toNat ≤ 12 := hI_.2 223 0 _
  refine sm_T_go 3 (c1 := (11, [some (.inr (.inr (some (13, 0)))), some (.inl c_), some (.inl f_), none, none, none, none, none], [.inl c_, .inr (.inr (some (224, 0))), .inl (S0_.2.2.1 223 0 c_.toNat)], S0_)) rfl ?_
  refine sm_T_iald (n := 4) rfl rfl (by omega) (by omega) ?_
  have bx2_ : 0 ≤ S0_.2.2.1 224 0 c_.toNat ∧ S0_.2.2.1 224 0 c_.toNat ≤ 6 := hI_.2 224 0 _
  refine sm_T_bin (w := (S0_.2.2.1 223 0 c_.toNat) + (S0_.2.2.1 224 0 c_.toNat)) rfl (bi_add (by omega) (by omega) (by omega)) ?_ -- pc_ 12
  refine sm_T_go 1 (c1 := (15, [some (.inr (.inr (some (13, 0)))), some (.inl c_), some (.inl f_), none, none, none, none, none], [.inl 6, .inl ((S0_.2.2.1 223 0 c_.toNat) + (S0_.2.2.1 224 0 c_.toNat))], S0_)) rfl ?_
  refine sm_T_br (a := 3) (z := 7) rfl (fun cx3_ => ?_) (fun cx3_ => ?_)
  · have cx3_ : 6 ≤ (S0_.2.2.1 223 0 c_.toNat) + (S0_.2.2.1 224 0 c_.toNat) := of_decide_eq_true cx3_
    refine sm_T_go 4 (c1 := (28, [some (.inr (.inr (some (13, 0)))), some (.inl c_), some (.inl f_), none, none, none, none, none], [.inl c_, .inr (.inr (some (223, 0))), .inl 1], S0_)) rfl ?_
    refine sm_T_iald (n := 4) rfl rfl (by omega) (by omega) ?_
    refine sm_T_go 3 (c1 := (34, [some (.inr (.inr (some (13, 0)))), some (.inl c_), some (.inl f_), none, none, none, none, none], [.inl c_, .inr (.inr (some (224, 0))), .inl (S0_.2.2.1 223 0 c_.toNat), .inl 1], S0_)) rfl ?_
    refine sm_T_iald (n := 4) rfl rfl (by omega) (by omega) ?_
    refine sm_T_bin (w := (S0_.2.2.1 223 0 c_.toNat) + (S0_.2.2.1 224 0 c_.toNat)) rfl (bi_add (by omega) (by omega) (by omega)) ?_ -- pc_ 35
    refine sm_T_go 1 (c1 := (38, [some (.inr (.inr (some (13, 0)))), some (.inl c_), some (.inl f_), none, none, none, none, none], [.inl 6, .inl ((S0_.2.2.1 223 0 c_.toNat) + (S0_.2.2.1 224 0 c_.toNat)), .inl 1], S0_)) rfl ?_
    refine sm_T_bin (w := (S0_.2.2.1 223 0 c_.toNat) + (S0_.2.2.1 224 0 c_.toNat) - 6) rfl (bi_sub (by omega) (by omega) (by omega)) ?_ -- pc_ 38
    refine sm_T_bin (w := (i_shl 1 ((S0_.2.2.1 223 0 c_.toNat) + (S0_.2.2.1 224 0 c_.toNat) - 6))) rfl rfl ?_ -- pc_ 39
    have bx4_ := i_shl1 (e := ((S0_.2.2.1 223 0 c_.toNat) + (S0_.2.2.1 224 0 c_.toNat) - 6)) (by omega) (by omega)
    have w9_ := pw_le (n := (((S0_.2.2.1 223 0 c_.toNat) + (S0_.2.2.1 224 0 c_.toNat) - 6)).toNat) (m := 6) (by omega)
    have w8_ := pw_pos (((S0_.2.2.1 223 0 c_.toNat) + (S0_.2.2.1 224 0 c_.toNat) - 6)).toNat
    refine sm_T_go 3 (c1 := (44, [some (.inr (.inr (some (13, 0)))), some (.inl c_), some (.inl f_), some (.inl (i_shl 1 ((S0_.2.2.1 223 0 c_.toNat) + (S0_.2.2.1 224 0 c_.toNat) - 6))), some (.inl 0), none, none, none], [], S0_)) rfl ?_
    refine (vl_521n c_ f_ S0_ hc_ hx_ hg_ ho_ hf_ _).1 (i_shl 1 ((S0_.2.2.1 223 0 c_.toNat) + (S0_.2.2.1 224 0 c_.toNat) - 6)) 0 S0_ hI_ hF_ ⟨?_, ?_, ?_, trivial⟩ (Nat.lt_succ_self _)
    · omega
    · (intro p9_ hp9_; exfalso; omega)
    · first | (rw [if_pos (by omega)]) | (rw [if_neg (by omega)]; omega)
  · have cx3_ : ¬ (6 ≤ (S0_.2.2.1 223 0 c_.toNat) + (S0_.2.2.1 224 0 c_.toNat)) := of_decide_eq_false cx3_
    refine sm_T_go 5 (c1 := (44, [some (.inr (.inr (some (13, 0)))), some (.inl c_), some (.inl f_), some (.inl 1), some (.inl 0), none, none, none], [], S0_)) rfl ?_
    refine (vl_521n c_ f_ S0_ hc_ hx_ hg_ ho_ hf_ _).1 1 0 S0_ hI_ hF_ ⟨?_, ?_, ?_, trivial⟩ (Nat.lt_succ_self _)
    · omega
    · (intro p9_ hp9_; exfalso; omega)
    · first | (rw [if_pos (by omega)]) | (rw [if_neg (by omega)]; omega)
