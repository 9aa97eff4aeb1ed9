/-! the reference: patterns told, faults counted; written by wip/p55/gen/vg -/

def var_faults (a1_ a2_ : Int) (P_ : Nat → Nat → Bool) (L_ : List Nat) (le_ : Nat → Int) (S_ : sm_S) : Int := if a2_ = 0 then fco a1_ S_ else if a2_ = 1 then ((sn9 (fun f9_ => if le_ f9_ = -1 then 1 else 0) (fco a1_ S_).toNat : Nat) : Int) else if S_.2.2.1 289 0 a1_.toNat = -1 then -1 else ((sn9 (fun f9_ => if 0 < cn9 (P_ f9_) L_ then 1 else 0) (fco a1_ S_).toNat : Nat) : Int)
/-! M_.patternCode -/
def vw_529n : sx_Wl := ([], [], [])
def vq_529n (c_ : Int) (k_ : Int) (S0_ : sm_S) (u_ : Option sm_V) (S1_ : sm_S) : Prop := S0_ = S1_ ∧ ∃ v_ : Int, u_ = some (.inl v_) ∧ ((v_ = 0 ∧ okr_pattern c_ k_ S0_ ∧ k_ < 1224) ∨ (v_ = 1 ∧ ¬ ora_pattern c_ k_ S0_) ∨ (v_ = 2 ∧ ora_pattern c_ k_ S0_ ∧ ¬ okr_pattern c_ k_ S0_))
set_option maxHeartbeats 400000 in
set_option maxRecDepth 20000 in
theorem vc_529n {sc_ : Nat × (Nat → Int)} (c_ : Int) (k_ : Int) (S0_ : sm_S) (hI_ : gi S0_) (hc0_ : -2147483648 ≤ c_ ∧ c_ ≤ 2147483647) (hk0_ : -2147483648 ≤ k_ ∧ k_ ≤ 2147483647) : sm_T (mt_P sc_) 1 529 (0, [some (.inr (.inr (some (13, 0)))), some (.inl c_), some (.inl k_)], [], S0_) (fun ro9_ => ∃ u_ S1_, ro9_ = (.inl u_, S1_, 0) ∧ vq_529n c_ k_ S0_ u_ S1_) := by
  have hF_ : ai_fr (sx_W vw_529n) S0_ S0_ := ai_fr_rf
  refine sm_T_go 2 (c1 := (2, [some (.inr (.inr (some (13, 0)))), some (.inl c_), some (.inl k_)], [.inl c_, .inr (.inr (some (13, 0)))], S0_)) rfl ?_
  refine sm_T_cal (d1 := 0) (Q1 := vq_371 c_ S0_) rfl rfl (by decide) (vc_371 c_ S0_ hI_ (by omega)) (fun u_ Sx1_ px4_ => ?_)
  obtain ⟨rfl, vx6_, rfl, px4_⟩ := px4_
  have d2_ := px4_
  refine sm_T_b0 (a := 0) (z := 7) rfl (fun cx7_ => ?_) (fun cx7_ => ?_)
  · have cx7_ : vx6_ = 0 := of_decide_eq_true cx7_
    refine sm_T_go 2 (c1 := (45, [some (.inr (.inr (some (13, 0)))), some (.inl c_), some (.inl k_)], [.inl 1], S0_)) rfl ?_
    refine sm_T_ri rfl ⟨_, _, rfl, rfl, _, rfl, ?_⟩
    (unfold okr_pattern ora_pattern; omega)
  · have cx7_ : ¬ (vx6_ = 0) := of_decide_eq_false cx7_
    refine sm_T_go 1 (c1 := (9, [some (.inr (.inr (some (13, 0)))), some (.inl c_), some (.inl k_)], [.inl k_], S0_)) rfl ?_
    refine sm_T_b0 (a := 3) (z := 7) rfl (fun cx8_ => ?_) (fun cx8_ => ?_)
    · have cx8_ : 0 ≤ k_ := of_decide_eq_true cx8_
      refine sm_T_go 3 (c1 := (21, [some (.inr (.inr (some (13, 0)))), some (.inl c_), some (.inl k_)], [.inl c_, .inr (.inr (some (289, 0)))], S0_)) rfl ?_
      refine sm_T_iald (n := 4) rfl rfl (by omega) (by omega) ?_
      have bx9_ : (-1) ≤ S0_.2.2.1 289 0 c_.toNat ∧ S0_.2.2.1 289 0 c_.toNat ≤ 1224 := hI_.2 289 0 _
      refine sm_T_go 1 (c1 := (23, [some (.inr (.inr (some (13, 0)))), some (.inl c_), some (.inl k_)], [.inl (-1), .inl (S0_.2.2.1 289 0 c_.toNat)], S0_)) rfl ?_
      refine sm_T_br (a := 1) (z := 7) rfl (fun cx10_ => ?_) (fun cx10_ => ?_)
      · have cx10_ : (S0_.2.2.1 289 0 c_.toNat) ≠ (-1) := of_decide_eq_true cx10_
        refine sm_T_go 4 (c1 := (36, [some (.inr (.inr (some (13, 0)))), some (.inl c_), some (.inl k_)], [.inl c_, .inr (.inr (some (289, 0))), .inl k_], S0_)) rfl ?_
        refine sm_T_iald (n := 4) rfl rfl (by omega) (by omega) ?_
        refine sm_T_br (a := 2) (z := 7) rfl (fun cx11_ => ?_) (fun cx11_ => ?_)
        · have cx11_ : k_ < (S0_.2.2.1 289 0 c_.toNat) := of_decide_eq_true cx11_
          refine sm_T_go 1 (c1 := (45, [some (.inr (.inr (some (13, 0)))), some (.inl c_), some (.inl k_)], [.inl 0], S0_)) rfl ?_
          refine sm_T_ri rfl ⟨_, _, rfl, rfl, _, rfl, ?_⟩
          (unfold okr_pattern ora_pattern; omega)
        · have cx11_ : ¬ (k_ < (S0_.2.2.1 289 0 c_.toNat)) := of_decide_eq_false cx11_
          refine sm_T_go 2 (c1 := (45, [some (.inr (.inr (some (13, 0)))), some (.inl c_), some (.inl k_)], [.inl 1], S0_)) rfl ?_
          refine sm_T_ri rfl ⟨_, _, rfl, rfl, _, rfl, ?_⟩
          (unfold okr_pattern ora_pattern; omega)
      · have cx10_ : ¬ ((S0_.2.2.1 289 0 c_.toNat) ≠ (-1)) := of_decide_eq_false cx10_
        refine sm_T_go 2 (c1 := (45, [some (.inr (.inr (some (13, 0)))), some (.inl c_), some (.inl k_)], [.inl 2], S0_)) rfl ?_
        refine sm_T_ri rfl ⟨_, _, rfl, rfl, _, rfl, ?_⟩
        (unfold okr_pattern ora_pattern; omega)
    · have cx8_ : ¬ (0 ≤ k_) := of_decide_eq_false cx8_
      refine sm_T_go 2 (c1 := (45, [some (.inr (.inr (some (13, 0)))), some (.inl c_), some (.inl k_)], [.inl 1], S0_)) rfl ?_
      refine sm_T_ri rfl ⟨_, _, rfl, rfl, _, rfl, ?_⟩
      (unfold okr_pattern ora_pattern; omega)
/-! M_.pattern -/
/-! M_.fails -/
def vw_531t : sx_Wl := ([(13, 0)], [291], [])
def vq_531t (a1_ : Int) (a2_ : Int) (a3_ : Int) (S0_ : sm_S) (u_ : Option sm_V) (S1_ : sm_S) : Prop := ∃ v_ : Int, u_ = some (.inl v_) ∧ gi S1_ ∧ ai_fr (sx_W vw_531t) S0_ S1_ ∧ (((-2147483648) ≤ v_ ∧ v_ ≤ 2147483647) ∧ (jR S1_ ∧ ((S1_.1 13 0 0 = 1 ∧ ¬ ora_pattern a1_ a2_ S0_ ∧ ∀ j9_ : Nat, S1_.2.2.1 291 0 j9_ = S0_.2.2.1 291 0 j9_) ∨ (S1_.1 13 0 0 = 2 ∧ ora_pattern a1_ a2_ S0_ ∧ ¬ okr_pattern a1_ a2_ S0_ ∧ ∀ j9_ : Nat, S1_.2.2.1 291 0 j9_ = S0_.2.2.1 291 0 j9_) ∨ (S1_.1 13 0 0 = 0 ∧ okr_pattern a1_ a2_ S0_ ∧ v_ = S0_.2.2.1 291 0 (1280 * a1_ + a2_).toNat ∧ ∀ j9_ : Nat, S1_.2.2.1 291 0 j9_ = if j9_ = (1280 * a1_ + a2_).toNat then a3_ else S0_.2.2.1 291 0 j9_))))
set_option maxHeartbeats 400000 in
set_option maxRecDepth 20000 in
theorem vc_531t {sc_ : Nat × (Nat → Int)} (a1_ : Int) (a2_ : Int) (a3_ : Int) (S0_ : sm_S) (hI_ : gi S0_) (ha1_ : (-2147483648) ≤ a1_ ∧ a1_ ≤ 2147483647) (ha2_ : (-2147483648) ≤ a2_ ∧ a2_ ≤ 2147483647) (ha3_ : 0 ≤ a3_ ∧ a3_ ≤ 1) (hJ_ : jR S0_) : sm_T (mt_P sc_) 2 531 (0, [some (.inr (.inr (some (13, 0)))), some (.inl a1_), some (.inl a2_), some (.inl a3_), none], [], S0_) (fun ro9_ => ∃ u_ S1_, ro9_ = (.inl u_, S1_, 0) ∧ vq_531t a1_ a2_ a3_ S0_ u_ S1_) := by
  have hF_ : ai_fr (sx_W vw_531t) S0_ S0_ := ai_fr_rf
  refine sm_T_go 4 (c1 := (4, [some (.inr (.inr (some (13, 0)))), some (.inl a1_), some (.inl a2_), some (.inl a3_), none], [.inl a2_, .inl a1_, .inr (.inr (some (13, 0))), .inr (.inr (some (13, 0)))], S0_)) rfl ?_
  refine sm_T_cal (d1 := 1) (Q1 := vq_529n a1_ a2_ S0_) rfl rfl (by decide) (vc_529n a1_ a2_ S0_ hI_ (by omega) (by omega)) (fun u_ Sx1_ px4_ => ?_)
  obtain ⟨rfl, vx6_, rfl, px4_⟩ := px4_
  have e4_ := px4_
  have b4_ : (0 ≤ a1_ ∧ a1_ < 4 ∧ 0 ≤ a2_ ∧ a2_ < 1224) ∨ vx6_ ≠ 0 := by (rcases px4_ with y9_ | y9_ | y9_; (left; have u9_ := y9_.2.1; have w9_ := y9_.2.2; unfold okr_pattern ora_pattern at u9_; omega); (right; omega); (right; omega))
  have c4_ : 0 ≤ vx6_ ∧ vx6_ ≤ 2 := by (rcases px4_ with y9_ | y9_ | y9_ <;> omega)
  have hIx7_ : gi (sm_pI S0_ 13 0 0 vx6_) := gi_pI hI_ (show 0 ≤ vx6_ ∧ vx6_ ≤ 4 from ⟨by omega, by omega⟩)
  have hFx8_ : ai_fr (sx_W vw_531t) S0_ (sm_pI S0_ 13 0 0 vx6_) := ai_fr_tr hF_ (ai_fr_pI rfl)
  refine sm_T_go 3 (c1 := (14, [some (.inr (.inr (some (13, 0)))), some (.inl a1_), some (.inl a2_), some (.inl a3_), none], [.inl vx6_], sm_pI S0_ 13 0 0 vx6_)) rfl ?_
  refine sm_T_b0 (a := 5) (z := 5) rfl (fun cx9_ => ?_) (fun cx9_ => ?_)
  · have cx9_ : vx6_ ≤ 0 := of_decide_eq_true cx9_
    refine sm_T_go 4 (c1 := (27, [some (.inr (.inr (some (13, 0)))), some (.inl a1_), some (.inl a2_), some (.inl a3_), none], [.inl a1_, .inl 1280, .inr (.inr (some (291, 0)))], sm_pI S0_ 13 0 0 vx6_)) rfl ?_
    refine sm_T_bin (w := 1280 * a1_) rfl (bi_mul (by omega) (by omega) (by omega)) ?_ -- pc_ 27
    refine sm_T_go 1 (c1 := (29, [some (.inr (.inr (some (13, 0)))), some (.inl a1_), some (.inl a2_), some (.inl a3_), none], [.inl a2_, .inl (1280 * a1_), .inr (.inr (some (291, 0)))], sm_pI S0_ 13 0 0 vx6_)) rfl ?_
    refine sm_T_bin (w := 1280 * a1_ + a2_) rfl (bi_add (by omega) (by omega) (by omega)) ?_ -- pc_ 29
    refine sm_T_zald (n := 5120) rfl rfl (by omega) (by omega) ?_
    have bx10_ : 0 ≤ S0_.2.2.1 291 0 (1280 * a1_ + a2_).toNat ∧ S0_.2.2.1 291 0 (1280 * a1_ + a2_).toNat ≤ 1 := hI_.2 291 0 _
    refine sm_T_go 5 (c1 := (41, [some (.inr (.inr (some (13, 0)))), some (.inl a1_), some (.inl a2_), some (.inl a3_), some (.inl (S0_.2.2.1 291 0 (1280 * a1_ + a2_).toNat))], [.inl a1_, .inl 1280, .inr (.inr (some (291, 0)))], sm_pI S0_ 13 0 0 vx6_)) rfl ?_
    refine sm_T_bin (w := 1280 * a1_) rfl (bi_mul (by omega) (by omega) (by omega)) ?_ -- pc_ 41
    refine sm_T_go 1 (c1 := (43, [some (.inr (.inr (some (13, 0)))), some (.inl a1_), some (.inl a2_), some (.inl a3_), some (.inl (S0_.2.2.1 291 0 (1280 * a1_ + a2_).toNat))], [.inl a2_, .inl (1280 * a1_), .inr (.inr (some (291, 0)))], sm_pI S0_ 13 0 0 vx6_)) rfl ?_
    refine sm_T_bin (w := 1280 * a1_ + a2_) rfl (bi_add (by omega) (by omega) (by omega)) ?_ -- pc_ 43
    refine sm_T_go 1 (c1 := (45, [some (.inr (.inr (some (13, 0)))), some (.inl a1_), some (.inl a2_), some (.inl a3_), some (.inl (S0_.2.2.1 291 0 (1280 * a1_ + a2_).toNat))], [.inl a3_, .inl (1280 * a1_ + a2_), .inr (.inr (some (291, 0)))], sm_pI S0_ 13 0 0 vx6_)) rfl ?_
    refine sm_T_zas1 (n := 5120) rfl rfl (by omega) (by omega) (by omega) ?_
    have hIx11_ : gi (sm_aI (sm_pI S0_ 13 0 0 vx6_) 291 0 (1280 * a1_ + a2_).toNat a3_) := gi_aI hIx7_ (show 0 ≤ a3_ ∧ a3_ ≤ 1 from ⟨by omega, by omega⟩)
    have hFx12_ : ai_fr (sx_W vw_531t) S0_ (sm_aI (sm_pI S0_ 13 0 0 vx6_) 291 0 (1280 * a1_ + a2_).toNat a3_) := ai_fr_tr hFx8_ (ai_fr_aI rfl)
    refine sm_T_go 1 (c1 := (48, [some (.inr (.inr (some (13, 0)))), some (.inl a1_), some (.inl a2_), some (.inl a3_), some (.inl (S0_.2.2.1 291 0 (1280 * a1_ + a2_).toNat))], [.inl (S0_.2.2.1 291 0 (1280 * a1_ + a2_).toNat)], sm_aI (sm_pI S0_ 13 0 0 vx6_) 291 0 (1280 * a1_ + a2_).toNat a3_)) rfl ?_
    refine sm_T_rz rfl (by omega) ⟨_, _, rfl, _, rfl, hIx11_, hFx12_, ?_⟩
    refine ⟨⟨by omega, by omega⟩, jR_fr hJ_ hIx11_ hFx12_, ?_⟩
    first | rw [rf_eq] | rw [show ((sm_aI (sm_pI S0_ 13 0 0 vx6_) 291 0 (1280 * a1_ + a2_).toNat a3_)).1 13 0 0 = (sm_pI S0_ 13 0 0 _).1 13 0 0 from rfl, rf_eq]
    rcases e4_ with y9_ | y9_ | y9_
    · first | (exfalso; omega) | exact Or.inr (Or.inr ⟨y9_.1, y9_.2.1, rfl, fun j9_ => rd_eq⟩)
    · first | (exfalso; omega) | exact Or.inl ⟨y9_.1, y9_.2, fun _ => rfl⟩
    · first | (exfalso; omega) | exact Or.inr (Or.inl ⟨y9_.1, y9_.2.1, y9_.2.2, fun _ => rfl⟩)
  · have cx9_ : ¬ (vx6_ ≤ 0) := of_decide_eq_false cx9_
    refine sm_T_go 1 (c1 := (18, [some (.inr (.inr (some (13, 0)))), some (.inl a1_), some (.inl a2_), some (.inl a3_), none], [.inl 0], sm_pI S0_ 13 0 0 vx6_)) rfl ?_
    refine sm_T_rz rfl (by omega) ⟨_, _, rfl, _, rfl, hIx7_, hFx8_, ?_⟩
    refine ⟨⟨by omega, by omega⟩, jR_fr hJ_ hIx7_ hFx8_, ?_⟩
    first | rw [rf_eq] | rw [show ((sm_pI S0_ 13 0 0 vx6_)).1 13 0 0 = (sm_pI S0_ 13 0 0 _).1 13 0 0 from rfl, rf_eq]
    rcases e4_ with y9_ | y9_ | y9_
    · first | (exfalso; omega) | exact Or.inr (Or.inr ⟨y9_.1, y9_.2.1, rfl, fun j9_ => rd_eq⟩)
    · first | (exfalso; omega) | exact Or.inl ⟨y9_.1, y9_.2, fun _ => rfl⟩
    · first | (exfalso; omega) | exact Or.inr (Or.inl ⟨y9_.1, y9_.2.1, y9_.2.2, fun _ => rfl⟩)
/-! M_.faults -/
def vw_534t : sx_Wl := ([(13, 0), (13, 221), (13, 222)], [238, 293, 294], [])
def vq_534t (a1_ : Int) (a2_ : Int) (P_ : Nat → Nat → Bool) (L_ : List Nat) (le_ : Nat → Int) (S0_ : sm_S) (u_ : Option sm_V) (S1_ : sm_S) : Prop := ∃ v_ : Int, u_ = some (.inl v_) ∧ gi S1_ ∧ ai_fr (sx_W vw_534t) S0_ S1_ ∧ (((-2147483648) ≤ v_ ∧ v_ ≤ 2147483647) ∧ jR S1_ ∧ lsk S1_ ∧ ((S1_.1 13 0 0 = 1 ∧ ¬ ora_faults a1_ a2_ S0_) ∨ (S1_.1 13 0 0 = 2 ∧ ora_faults a1_ a2_ S0_ ∧ ¬ okr_faults a1_ a2_ S0_) ∨ (S1_.1 13 0 0 = 0 ∧ okr_faults a1_ a2_ S0_ ∧ v_ = var_faults a1_ a2_ P_ L_ le_ S0_)))
set_option maxHeartbeats 400000 in
set_option maxRecDepth 20000 in
theorem vl_534t {sc_ : Nat × (Nat → Int)} (a1_ : Int) (a2_ : Int) (P_ : Nat → Nat → Bool) (L_ : List Nat) (le_ : Nat → Int) (S0_ : sm_S) (ha1_ : (-2147483648) ≤ a1_ ∧ a1_ ≤ 2147483647) (ha2_ : (-2147483648) ≤ a2_ ∧ a2_ ≤ 2147483647) (hJ_ : jR S0_) (hk_ : lsk S0_) (hle_ : ora_faults a1_ a2_ S0_ → rleU a1_ S0_ le_) (hL_ : ora_faults a1_ a2_ S0_ → imq (0 ≤ S0_.2.2.1 289 0 a1_.toNat) (rlt9 a1_ S0_ P_ L_) ∧ imq (S0_.2.2.1 289 0 a1_.toNat < 0) (L_ = [])) : ∀ nn_ : Nat, (∀ (mn : Int) (wo : Int) (sh_ : Int) (f_ : Int) (S_ : sm_S), gi S_ → ai_fr (sx_W vw_534t) S0_ S_ → ((0 ≤ a1_ ∧ a1_ < 4 ∧ 0 ≤ a2_ ∧ a2_ ≤ 2 ∧ 0 ≤ f_ ∧ f_ ≤ 1224 ∧ 0 ≤ wo ∧ wo ≤ f_ ∧ 0 ≤ sh_ ∧ sh_ ≤ f_ ∧ mn = fco a1_ S0_ ∧ mn ≤ 1224 ∧ 0 ≤ mn ∧ f_ ≤ mn) ∧ (S0_.2.2.1 222 0 a1_.toNat = 1) ∧ (S_.1 13 0 0 = 0) ∧ (lsk S_) ∧ (imq (a2_ = 1) (wo = ((sn9 (fun f9_ => if le_ f9_ = -1 then 1 else 0) f_.toNat : Nat) : Int))) ∧ (imq (a2_ = 2) (sh_ = ((sn9 (fun f9_ => if 0 < cn9 (P_ f9_) L_ then 1 else 0) f_.toNat : Nat) : Int))) ∧ True) → ((5000 - f_).toNat) < nn_ → sm_T (mt_P sc_) 5 534 (54, [some (.inr (.inr (some (13, 0)))), some (.inl a1_), some (.inl a2_), some (.inl mn), some (.inl wo), some (.inl sh_), some (.inl f_)], [], S_) (fun ro9_ => ∃ u_ S1_, ro9_ = (.inl u_, S1_, 0) ∧ vq_534t a1_ a2_ P_ L_ le_ S0_ u_ S1_)) := by
  intro nn_
  induction nn_ with
  | zero => exact fun _ _ _ _ _ _ _ _ h_ => absurd h_ (Nat.not_lt_zero _)
  | succ nn_ ih_ =>
    rintro mn wo sh_ f_ S_ hI_ hF_ ⟨h0_, ht_, hcd_, hlk_, hw1_, hw2_, -⟩ hm_
    have f222_ : S_.2.2.1 222 0 = S0_.2.2.1 222 0 := fr_arr hF_ rfl
    have f223_ : S_.2.2.1 223 0 = S0_.2.2.1 223 0 := fr_arr hF_ rfl
    have f224_ : S_.2.2.1 224 0 = S0_.2.2.1 224 0 := fr_arr hF_ rfl
    have f225_ : S_.2.2.1 225 0 = S0_.2.2.1 225 0 := fr_arr hF_ rfl
    have f228_ : S_.2.2.1 228 0 = S0_.2.2.1 228 0 := fr_arr hF_ rfl
    have x222_ : S_.2.2.1 222 0 a1_.toNat = S0_.2.2.1 222 0 a1_.toNat := congrFun f222_ _
    have x223_ : S_.2.2.1 223 0 a1_.toNat = S0_.2.2.1 223 0 a1_.toNat := congrFun f223_ _
    have x224_ : S_.2.2.1 224 0 a1_.toNat = S0_.2.2.1 224 0 a1_.toNat := congrFun f224_ _
    have x225_ : S_.2.2.1 225 0 a1_.toNat = S0_.2.2.1 225 0 a1_.toNat := congrFun f225_ _
    have x228_ : S_.2.2.1 228 0 a1_.toNat = S0_.2.2.1 228 0 a1_.toNat := congrFun f228_ _
    have K9_ : cRk a1_ S0_ := hJ_.2 a1_ (by omega) (by omega) ht_
    obtain ⟨K1_, K2_, K3_, K4_, K5_, K6_, K7_⟩ := K9_
    have k4_ := cgt_fr (c_ := a1_) (by omega) hI_ K4_ hF_
    have k5_ := con_fr (c_ := a1_) (by omega) hI_ K5_ hF_
    have kf_ : fco a1_ S_ = fco a1_ S0_ := fco_fr hF_
    have fb9_ := fco_b (c_ := a1_) hI_ (by omega)
    have q9_ : (-1) ≤ S_.2.2.1 289 0 a1_.toNat ∧ S_.2.2.1 289 0 a1_.toNat ≤ 1224 := hI_.2 289 0 _
    have hb9_ : ∀ c9_ : Int, 0 ≤ c9_ → c9_ < 4 → S_.2.2.1 222 0 c9_.toNat = 1 → fco c9_ S_ ≤ 1280 := fun c9_ q1_ q2_ q3_ => by (rw [fr_arr (t := 222) (i := 0) hF_ (rwf_0 (w_ := vw_534t) rfl rfl)] at q3_; have y9_ := (hJ_.2 c9_ q1_ q2_ q3_).1; have x9_ := fco_b (c_ := c9_) hI_ (by (rw [fr_arr (t := 223) (i := 0) hF_ (rwf_0 (w_ := vw_534t) rfl rfl), fr_arr (t := 224) (i := 0) hF_ (rwf_0 (w_ := vw_534t) rfl rfl)]; exact y9_)); omega)
    have T9_ : (f_ + 1).toNat = f_.toNat + 1 := by omega
    have s91_ : sn9 (fun f9_ => if le_ f9_ = -1 then 1 else 0) (f_.toNat + 1) = sn9 (fun f9_ => if le_ f9_ = -1 then 1 else 0) f_.toNat + (if le_ f_.toNat = -1 then 1 else 0) := rfl
    have s93_ : sn9 (fun f9_ => if 0 < cn9 (P_ f9_) L_ then 1 else 0) (f_.toNat + 1) = sn9 (fun f9_ => if 0 < cn9 (P_ f9_) L_ then 1 else 0) f_.toNat + (if 0 < cn9 (P_ f_.toNat) L_ then 1 else 0) := rfl
    have g289_ : S_.2.2.1 289 0 = S0_.2.2.1 289 0 := fr_arr hF_ rfl
    refine sm_T_go 2 (c1 := (57, [some (.inr (.inr (some (13, 0)))), some (.inl a1_), some (.inl a2_), some (.inl mn), some (.inl wo), some (.inl sh_), some (.inl f_)], [.inl mn, .inl f_], S_)) rfl ?_
    refine sm_T_br (a := 3) (z := 64) rfl (fun cx1_ => ?_) (fun cx1_ => ?_)
    · have cx1_ : mn ≤ f_ := of_decide_eq_true cx1_
      refine sm_T_go 1 (c1 := (122, [some (.inr (.inr (some (13, 0)))), some (.inl a1_), some (.inl a2_), some (.inl mn), some (.inl wo), some (.inl sh_), some (.inl f_)], [.inl a2_], S_)) rfl ?_
      refine sm_T_b0 (a := 1) (z := 7) rfl (fun cx2_ => ?_) (fun cx2_ => ?_)
      · have cx2_ : a2_ ≠ 0 := of_decide_eq_true cx2_
        refine sm_T_go 2 (c1 := (131, [some (.inr (.inr (some (13, 0)))), some (.inl a1_), some (.inl a2_), some (.inl mn), some (.inl wo), some (.inl sh_), some (.inl f_)], [.inl 1, .inl a2_], S_)) rfl ?_
        refine sm_T_br (a := 1) (z := 8) rfl (fun cx3_ => ?_) (fun cx3_ => ?_)
        · have cx3_ : a2_ ≠ 1 := of_decide_eq_true cx3_
          refine sm_T_go 3 (c1 := (144, [some (.inr (.inr (some (13, 0)))), some (.inl a1_), some (.inl a2_), some (.inl mn), some (.inl wo), some (.inl sh_), some (.inl f_)], [.inl a1_, .inr (.inr (some (289, 0)))], S_)) rfl ?_
          refine sm_T_iald (n := 4) rfl rfl (by omega) (by omega) ?_
          have bx4_ : (-1) ≤ S_.2.2.1 289 0 a1_.toNat ∧ S_.2.2.1 289 0 a1_.toNat ≤ 1224 := hI_.2 289 0 _
          refine sm_T_go 1 (c1 := (146, [some (.inr (.inr (some (13, 0)))), some (.inl a1_), some (.inl a2_), some (.inl mn), some (.inl wo), some (.inl sh_), some (.inl f_)], [.inl (-1), .inl (S_.2.2.1 289 0 a1_.toNat)], S_)) rfl ?_
          refine sm_T_br (a := 1) (z := 7) rfl (fun cx5_ => ?_) (fun cx5_ => ?_)
          · have cx5_ : (S_.2.2.1 289 0 a1_.toNat) ≠ (-1) := of_decide_eq_true cx5_
            refine sm_T_go 1 (c1 := (155, [some (.inr (.inr (some (13, 0)))), some (.inl a1_), some (.inl a2_), some (.inl mn), some (.inl wo), some (.inl sh_), some (.inl f_)], [.inl sh_], S_)) rfl ?_
            refine sm_T_ri rfl ⟨_, _, rfl, _, rfl, hI_, hF_, ?_⟩
            have x9_ : S_.2.2.1 289 0 a1_.toNat = S0_.2.2.1 289 0 a1_.toNat := congrFun g289_ _
            refine ⟨⟨by omega, by omega⟩, jR_fr hJ_ hI_ hF_, hlk_, Or.inr (Or.inr ⟨hcd_, by (unfold okr_faults ora_faults; omega), ?_⟩)⟩
            unfold var_faults
            first | (rw [if_pos (by omega)]; omega) | (rw [if_neg (by omega), if_pos (by omega), show (fco a1_ S0_).toNat = f_.toNat by omega]; exact hw1_ (by omega)) | (rw [if_neg (by omega), if_neg (by omega), if_pos (by omega)]) | (rw [if_neg (by omega), if_neg (by omega), if_neg (by omega), show (fco a1_ S0_).toNat = f_.toNat by omega]; exact hw2_ (by omega))
          · have cx5_ : ¬ ((S_.2.2.1 289 0 a1_.toNat) ≠ (-1)) := of_decide_eq_false cx5_
            refine sm_T_go 2 (c1 := (155, [some (.inr (.inr (some (13, 0)))), some (.inl a1_), some (.inl a2_), some (.inl mn), some (.inl wo), some (.inl sh_), some (.inl f_)], [.inl (-1)], S_)) rfl ?_
            refine sm_T_ri rfl ⟨_, _, rfl, _, rfl, hI_, hF_, ?_⟩
            have x9_ : S_.2.2.1 289 0 a1_.toNat = S0_.2.2.1 289 0 a1_.toNat := congrFun g289_ _
            refine ⟨⟨by omega, by omega⟩, jR_fr hJ_ hI_ hF_, hlk_, Or.inr (Or.inr ⟨hcd_, by (unfold okr_faults ora_faults; omega), ?_⟩)⟩
            unfold var_faults
            first | (rw [if_pos (by omega)]; omega) | (rw [if_neg (by omega), if_pos (by omega), show (fco a1_ S0_).toNat = f_.toNat by omega]; exact hw1_ (by omega)) | (rw [if_neg (by omega), if_neg (by omega), if_pos (by omega)]) | (rw [if_neg (by omega), if_neg (by omega), if_neg (by omega), show (fco a1_ S0_).toNat = f_.toNat by omega]; exact hw2_ (by omega))
        · have cx3_ : ¬ (a2_ ≠ 1) := of_decide_eq_false cx3_
          refine sm_T_go 2 (c1 := (155, [some (.inr (.inr (some (13, 0)))), some (.inl a1_), some (.inl a2_), some (.inl mn), some (.inl wo), some (.inl sh_), some (.inl f_)], [.inl wo], S_)) rfl ?_
          refine sm_T_ri rfl ⟨_, _, rfl, _, rfl, hI_, hF_, ?_⟩
          have x9_ : S_.2.2.1 289 0 a1_.toNat = S0_.2.2.1 289 0 a1_.toNat := congrFun g289_ _
          refine ⟨⟨by omega, by omega⟩, jR_fr hJ_ hI_ hF_, hlk_, Or.inr (Or.inr ⟨hcd_, by (unfold okr_faults ora_faults; omega), ?_⟩)⟩
          unfold var_faults
          first | (rw [if_pos (by omega)]; omega) | (rw [if_neg (by omega), if_pos (by omega), show (fco a1_ S0_).toNat = f_.toNat by omega]; exact hw1_ (by omega)) | (rw [if_neg (by omega), if_neg (by omega), if_pos (by omega)]) | (rw [if_neg (by omega), if_neg (by omega), if_neg (by omega), show (fco a1_ S0_).toNat = f_.toNat by omega]; exact hw2_ (by omega))
      · have cx2_ : ¬ (a2_ ≠ 0) := of_decide_eq_false cx2_
        refine sm_T_go 2 (c1 := (155, [some (.inr (.inr (some (13, 0)))), some (.inl a1_), some (.inl a2_), some (.inl mn), some (.inl wo), some (.inl sh_), some (.inl f_)], [.inl mn], S_)) rfl ?_
        refine sm_T_ri rfl ⟨_, _, rfl, _, rfl, hI_, hF_, ?_⟩
        have x9_ : S_.2.2.1 289 0 a1_.toNat = S0_.2.2.1 289 0 a1_.toNat := congrFun g289_ _
        refine ⟨⟨by omega, by omega⟩, jR_fr hJ_ hI_ hF_, hlk_, Or.inr (Or.inr ⟨hcd_, by (unfold okr_faults ora_faults; omega), ?_⟩)⟩
        unfold var_faults
        first | (rw [if_pos (by omega)]; omega) | (rw [if_neg (by omega), if_pos (by omega), show (fco a1_ S0_).toNat = f_.toNat by omega]; exact hw1_ (by omega)) | (rw [if_neg (by omega), if_neg (by omega), if_pos (by omega)]) | (rw [if_neg (by omega), if_neg (by omega), if_neg (by omega), show (fco a1_ S0_).toNat = f_.toNat by omega]; exact hw2_ (by omega))
    · have cx1_ : ¬ (mn ≤ f_) := of_decide_eq_false cx1_
      refine sm_T_go 1 (c1 := (61, [some (.inr (.inr (some (13, 0)))), some (.inl a1_), some (.inl a2_), some (.inl mn), some (.inl wo), some (.inl sh_), some (.inl f_)], [.inl a2_], S_)) rfl ?_
      refine sm_T_b0 (a := 5) (z := 60) rfl (fun cx6_ => ?_) (fun cx6_ => ?_)
      · have cx6_ : a2_ ≤ 0 := of_decide_eq_true cx6_
        refine sm_T_go 1 (c1 := (122, [some (.inr (.inr (some (13, 0)))), some (.inl a1_), some (.inl a2_), some (.inl mn), some (.inl wo), some (.inl sh_), some (.inl f_)], [.inl a2_], S_)) rfl ?_
        refine sm_T_b0 (a := 1) (z := 7) rfl (fun cx7_ => ?_) (fun cx7_ => ?_)
        · have cx7_ : a2_ ≠ 0 := of_decide_eq_true cx7_
          refine sm_T_go 2 (c1 := (131, [some (.inr (.inr (some (13, 0)))), some (.inl a1_), some (.inl a2_), some (.inl mn), some (.inl wo), some (.inl sh_), some (.inl f_)], [.inl 1, .inl a2_], S_)) rfl ?_
          refine sm_T_br (a := 1) (z := 8) rfl (fun cx8_ => ?_) (fun cx8_ => ?_)
          · have cx8_ : a2_ ≠ 1 := of_decide_eq_true cx8_
            refine sm_T_go 3 (c1 := (144, [some (.inr (.inr (some (13, 0)))), some (.inl a1_), some (.inl a2_), some (.inl mn), some (.inl wo), some (.inl sh_), some (.inl f_)], [.inl a1_, .inr (.inr (some (289, 0)))], S_)) rfl ?_
            refine sm_T_iald (n := 4) rfl rfl (by omega) (by omega) ?_
            have bx9_ : (-1) ≤ S_.2.2.1 289 0 a1_.toNat ∧ S_.2.2.1 289 0 a1_.toNat ≤ 1224 := hI_.2 289 0 _
            refine sm_T_go 1 (c1 := (146, [some (.inr (.inr (some (13, 0)))), some (.inl a1_), some (.inl a2_), some (.inl mn), some (.inl wo), some (.inl sh_), some (.inl f_)], [.inl (-1), .inl (S_.2.2.1 289 0 a1_.toNat)], S_)) rfl ?_
            refine sm_T_br (a := 1) (z := 7) rfl (fun cx10_ => ?_) (fun cx10_ => ?_)
            · have cx10_ : (S_.2.2.1 289 0 a1_.toNat) ≠ (-1) := of_decide_eq_true cx10_
              refine sm_T_go 1 (c1 := (155, [some (.inr (.inr (some (13, 0)))), some (.inl a1_), some (.inl a2_), some (.inl mn), some (.inl wo), some (.inl sh_), some (.inl f_)], [.inl sh_], S_)) rfl ?_
              refine sm_T_ri rfl ⟨_, _, rfl, _, rfl, hI_, hF_, ?_⟩
              have x9_ : S_.2.2.1 289 0 a1_.toNat = S0_.2.2.1 289 0 a1_.toNat := congrFun g289_ _
              refine ⟨⟨by omega, by omega⟩, jR_fr hJ_ hI_ hF_, hlk_, Or.inr (Or.inr ⟨hcd_, by (unfold okr_faults ora_faults; omega), ?_⟩)⟩
              unfold var_faults
              first | (rw [if_pos (by omega)]; omega) | (rw [if_neg (by omega), if_pos (by omega), show (fco a1_ S0_).toNat = f_.toNat by omega]; exact hw1_ (by omega)) | (rw [if_neg (by omega), if_neg (by omega), if_pos (by omega)]) | (rw [if_neg (by omega), if_neg (by omega), if_neg (by omega), show (fco a1_ S0_).toNat = f_.toNat by omega]; exact hw2_ (by omega))
            · have cx10_ : ¬ ((S_.2.2.1 289 0 a1_.toNat) ≠ (-1)) := of_decide_eq_false cx10_
              refine sm_T_go 2 (c1 := (155, [some (.inr (.inr (some (13, 0)))), some (.inl a1_), some (.inl a2_), some (.inl mn), some (.inl wo), some (.inl sh_), some (.inl f_)], [.inl (-1)], S_)) rfl ?_
              refine sm_T_ri rfl ⟨_, _, rfl, _, rfl, hI_, hF_, ?_⟩
              have x9_ : S_.2.2.1 289 0 a1_.toNat = S0_.2.2.1 289 0 a1_.toNat := congrFun g289_ _
              refine ⟨⟨by omega, by omega⟩, jR_fr hJ_ hI_ hF_, hlk_, Or.inr (Or.inr ⟨hcd_, by (unfold okr_faults ora_faults; omega), ?_⟩)⟩
              unfold var_faults
              first | (rw [if_pos (by omega)]; omega) | (rw [if_neg (by omega), if_pos (by omega), show (fco a1_ S0_).toNat = f_.toNat by omega]; exact hw1_ (by omega)) | (rw [if_neg (by omega), if_neg (by omega), if_pos (by omega)]) | (rw [if_neg (by omega), if_neg (by omega), if_neg (by omega), show (fco a1_ S0_).toNat = f_.toNat by omega]; exact hw2_ (by omega))
          · have cx8_ : ¬ (a2_ ≠ 1) := of_decide_eq_false cx8_
            exfalso; omega
        · have cx7_ : ¬ (a2_ ≠ 0) := of_decide_eq_false cx7_
          refine sm_T_go 2 (c1 := (155, [some (.inr (.inr (some (13, 0)))), some (.inl a1_), some (.inl a2_), some (.inl mn), some (.inl wo), some (.inl sh_), some (.inl f_)], [.inl mn], S_)) rfl ?_
          refine sm_T_ri rfl ⟨_, _, rfl, _, rfl, hI_, hF_, ?_⟩
          have x9_ : S_.2.2.1 289 0 a1_.toNat = S0_.2.2.1 289 0 a1_.toNat := congrFun g289_ _
          refine ⟨⟨by omega, by omega⟩, jR_fr hJ_ hI_ hF_, hlk_, Or.inr (Or.inr ⟨hcd_, by (unfold okr_faults ora_faults; omega), ?_⟩)⟩
          unfold var_faults
          first | (rw [if_pos (by omega)]; omega) | (rw [if_neg (by omega), if_pos (by omega), show (fco a1_ S0_).toNat = f_.toNat by omega]; exact hw1_ (by omega)) | (rw [if_neg (by omega), if_neg (by omega), if_pos (by omega)]) | (rw [if_neg (by omega), if_neg (by omega), if_neg (by omega), show (fco a1_ S0_).toNat = f_.toNat by omega]; exact hw2_ (by omega))
      · have cx6_ : ¬ (a2_ ≤ 0) := of_decide_eq_false cx6_
        refine sm_T_go 3 (c1 := (68, [some (.inr (.inr (some (13, 0)))), some (.inl a1_), some (.inl a2_), some (.inl mn), some (.inl wo), some (.inl sh_), some (.inl f_)], [.inl 1, .inl a2_, .inl wo], S_)) rfl ?_
        refine sm_T_br (a := 1) (z := 18) rfl (fun cx11_ => ?_) (fun cx11_ => ?_)
        · have cx11_ : a2_ ≠ 1 := of_decide_eq_true cx11_
          refine sm_T_go 1 (c1 := (87, [some (.inr (.inr (some (13, 0)))), some (.inl a1_), some (.inl a2_), some (.inl mn), some (.inl wo), some (.inl sh_), some (.inl f_)], [.inl 0, .inl wo], S_)) rfl ?_
          refine sm_T_bin (w := wo) rfl (bi_add (by omega) (by omega) (by omega)) ?_ -- pc_ 87
          refine sm_T_go 4 (c1 := (94, [some (.inr (.inr (some (13, 0)))), some (.inl a1_), some (.inl a2_), some (.inl mn), some (.inl wo), some (.inl sh_), some (.inl f_)], [.inl 2, .inl a2_, .inl sh_], S_)) rfl ?_
          refine sm_T_br (a := 1) (z := 17) rfl (fun cx12_ => ?_) (fun cx12_ => ?_)
          · have cx12_ : a2_ ≠ 2 := of_decide_eq_true cx12_
            refine sm_T_go 1 (c1 := (112, [some (.inr (.inr (some (13, 0)))), some (.inl a1_), some (.inl a2_), some (.inl mn), some (.inl wo), some (.inl sh_), some (.inl f_)], [.inl 0, .inl sh_], S_)) rfl ?_
            refine sm_T_bin (w := sh_) rfl (bi_add (by omega) (by omega) (by omega)) ?_ -- pc_ 112
            refine sm_T_go 1 (c1 := (115, [some (.inr (.inr (some (13, 0)))), some (.inl a1_), some (.inl a2_), some (.inl mn), some (.inl wo), some (.inl sh_), some (.inl f_)], [], S_)) rfl ?_
            refine sm_T_inc (a := 6) (z := 1) (v := f_) (w := f_ + 1) rfl rfl (by omega) (by omega) (by omega) ?_ -- pc_ 115
            refine sm_T_go 1 (c1 := (54, [some (.inr (.inr (some (13, 0)))), some (.inl a1_), some (.inl a2_), some (.inl mn), some (.inl wo), some (.inl sh_), some (.inl (f_ + 1))], [], S_)) rfl ?_
            refine ih_ mn wo sh_ (f_ + 1) S_ hI_ hF_ ⟨?_, ?_, ?_, ?_, ?_, ?_, trivial⟩ ?_
            · omega
            · exact ht_
            · first | exact hcd_ | exact d75_
            · first | exact hlk_ | exact k75_
            · (intro q9_; first | (exfalso; omega) | (rw [T9_, s91_]; split <;> (push_cast; omega)))
            · (intro q9_; first | (exfalso; omega) | (rw [T9_, s93_]; split <;> (push_cast; omega)))
            · omega
          · have cx12_ : ¬ (a2_ ≠ 2) := of_decide_eq_false cx12_
            refine sm_T_go 3 (c1 := (101, [some (.inr (.inr (some (13, 0)))), some (.inl a1_), some (.inl a2_), some (.inl mn), some (.inl wo), some (.inl sh_), some (.inl f_)], [.inl f_, .inl a1_, .inr (.inr (some (13, 0))), .inl sh_], S_)) rfl ?_
            refine sm_T_cal (d1 := 1) (Q1 := vq_526n a1_ f_ P_ L_ S_) rfl rfl (by decide) (vc_526n a1_ f_ P_ L_ S_ hI_ (by omega) (by omega) (by (rw [g289_]; exact fun q9_ => rlt_fr ((hL_ ⟨by omega, by omega, ht_⟩).1 q9_) hF_)) (by (rw [g289_]; exact (hL_ ⟨by omega, by omega, ht_⟩).2))) (fun u_ Sx13_ px16_ => ?_)
            obtain ⟨rfl, vx18_, rfl, px16_⟩ := px16_
            have e101_ := px16_
            have w101_ := hw2_ (by omega)
            refine sm_T_b0 (a := 5) (z := 7) rfl (fun cx19_ => ?_) (fun cx19_ => ?_)
            · have cx19_ : vx18_ ≤ 0 := of_decide_eq_true cx19_
              refine sm_T_go 1 (c1 := (112, [some (.inr (.inr (some (13, 0)))), some (.inl a1_), some (.inl a2_), some (.inl mn), some (.inl wo), some (.inl sh_), some (.inl f_)], [.inl 0, .inl sh_], S_)) rfl ?_
              refine sm_T_bin (w := sh_) rfl (bi_add (by omega) (by omega) (by omega)) ?_ -- pc_ 112
              refine sm_T_go 1 (c1 := (115, [some (.inr (.inr (some (13, 0)))), some (.inl a1_), some (.inl a2_), some (.inl mn), some (.inl wo), some (.inl sh_), some (.inl f_)], [], S_)) rfl ?_
              refine sm_T_inc (a := 6) (z := 1) (v := f_) (w := f_ + 1) rfl rfl (by omega) (by omega) (by omega) ?_ -- pc_ 115
              refine sm_T_go 1 (c1 := (54, [some (.inr (.inr (some (13, 0)))), some (.inl a1_), some (.inl a2_), some (.inl mn), some (.inl wo), some (.inl sh_), some (.inl (f_ + 1))], [], S_)) rfl ?_
              refine ih_ mn wo sh_ (f_ + 1) S_ hI_ hF_ ⟨?_, ?_, ?_, ?_, ?_, ?_, trivial⟩ ?_
              · omega
              · exact ht_
              · first | exact hcd_ | exact d75_
              · first | exact hlk_ | exact k75_
              · (intro q9_; first | (exfalso; omega) | (rw [T9_, s91_]; split <;> (push_cast; omega)))
              · (intro q9_; first | (exfalso; omega) | (rw [T9_, s93_]; split <;> (push_cast; omega)))
              · omega
            · have cx19_ : ¬ (vx18_ ≤ 0) := of_decide_eq_false cx19_
              refine sm_T_go 2 (c1 := (112, [some (.inr (.inr (some (13, 0)))), some (.inl a1_), some (.inl a2_), some (.inl mn), some (.inl wo), some (.inl sh_), some (.inl f_)], [.inl 1, .inl sh_], S_)) rfl ?_
              refine sm_T_bin (w := sh_ + 1) rfl (bi_add (by omega) (by omega) (by omega)) ?_ -- pc_ 112
              refine sm_T_go 1 (c1 := (115, [some (.inr (.inr (some (13, 0)))), some (.inl a1_), some (.inl a2_), some (.inl mn), some (.inl wo), some (.inl (sh_ + 1)), some (.inl f_)], [], S_)) rfl ?_
              refine sm_T_inc (a := 6) (z := 1) (v := f_) (w := f_ + 1) rfl rfl (by omega) (by omega) (by omega) ?_ -- pc_ 115
              refine sm_T_go 1 (c1 := (54, [some (.inr (.inr (some (13, 0)))), some (.inl a1_), some (.inl a2_), some (.inl mn), some (.inl wo), some (.inl (sh_ + 1)), some (.inl (f_ + 1))], [], S_)) rfl ?_
              refine ih_ mn wo (sh_ + 1) (f_ + 1) S_ hI_ hF_ ⟨?_, ?_, ?_, ?_, ?_, ?_, trivial⟩ ?_
              · omega
              · exact ht_
              · first | exact hcd_ | exact d75_
              · first | exact hlk_ | exact k75_
              · (intro q9_; first | (exfalso; omega) | (rw [T9_, s91_]; split <;> (push_cast; omega)))
              · (intro q9_; first | (exfalso; omega) | (rw [T9_, s93_]; split <;> (push_cast; omega)))
              · omega
        · have cx11_ : ¬ (a2_ ≠ 1) := of_decide_eq_false cx11_
          refine sm_T_go 3 (c1 := (75, [some (.inr (.inr (some (13, 0)))), some (.inl a1_), some (.inl a2_), some (.inl mn), some (.inl wo), some (.inl sh_), some (.inl f_)], [.inl f_, .inl a1_, .inr (.inr (some (13, 0))), .inl wo], S_)) rfl ?_
          refine sm_T_cal (d1 := 4) (Q1 := vq_520n a1_ f_ S_) rfl rfl (by decide) (vc_520n a1_ f_ S_ hI_ (by omega) (by omega) (by exact k4_) (by exact k5_) (by omega) (by exact hlk_ a1_ (by omega) (by omega) (by omega) f_ (by omega) (by omega))) (fun u_ Sx20_ px23_ => ?_)
          obtain ⟨vx25_, rfl, hIx21_, hFx22_, px23_⟩ := px23_
          have hFx24_ : ai_fr (sx_W vw_534t) S0_ Sx20_ := ai_fr_tr hF_ (fr_le hFx22_ rfl)
          have e75_ := px23_
          have c75_ : vx25_ = le_ f_.toNat := hle_ ⟨by omega, by omega, ht_⟩ f_.toNat vx25_ (by omega) (by (rw [show ((f_.toNat : Nat) : Int) = f_ by omega]; exact (rsl_fr hF_).mp e75_.2.1))
          have k75_ := lsk_up hlk_ hFx22_ ⟨by omega, by omega⟩ ⟨by omega, by omega⟩ e75_.2.1 e75_.2.2.1 e75_.2.2.2 hb9_ (u_ := by omega)
          have d75_ := (hFx22_.1 13 0 0 rfl).trans hcd_
          have w75_ := hw1_ (by omega)
          refine sm_T_go 1 (c1 := (79, [some (.inr (.inr (some (13, 0)))), some (.inl a1_), some (.inl a2_), some (.inl mn), some (.inl wo), some (.inl sh_), some (.inl f_)], [.inl (-1), .inl vx25_, .inl wo], Sx20_)) rfl ?_
          refine sm_T_br (a := 1) (z := 7) rfl (fun cx26_ => ?_) (fun cx26_ => ?_)
          · have cx26_ : vx25_ ≠ (-1) := of_decide_eq_true cx26_
            refine sm_T_go 1 (c1 := (87, [some (.inr (.inr (some (13, 0)))), some (.inl a1_), some (.inl a2_), some (.inl mn), some (.inl wo), some (.inl sh_), some (.inl f_)], [.inl 0, .inl wo], Sx20_)) rfl ?_
            refine sm_T_bin (w := wo) rfl (bi_add (by omega) (by omega) (by omega)) ?_ -- pc_ 87
            refine sm_T_go 4 (c1 := (94, [some (.inr (.inr (some (13, 0)))), some (.inl a1_), some (.inl a2_), some (.inl mn), some (.inl wo), some (.inl sh_), some (.inl f_)], [.inl 2, .inl a2_, .inl sh_], Sx20_)) rfl ?_
            refine sm_T_br (a := 1) (z := 17) rfl (fun cx27_ => ?_) (fun cx27_ => ?_)
            · have cx27_ : a2_ ≠ 2 := of_decide_eq_true cx27_
              refine sm_T_go 1 (c1 := (112, [some (.inr (.inr (some (13, 0)))), some (.inl a1_), some (.inl a2_), some (.inl mn), some (.inl wo), some (.inl sh_), some (.inl f_)], [.inl 0, .inl sh_], Sx20_)) rfl ?_
              refine sm_T_bin (w := sh_) rfl (bi_add (by omega) (by omega) (by omega)) ?_ -- pc_ 112
              refine sm_T_go 1 (c1 := (115, [some (.inr (.inr (some (13, 0)))), some (.inl a1_), some (.inl a2_), some (.inl mn), some (.inl wo), some (.inl sh_), some (.inl f_)], [], Sx20_)) rfl ?_
              refine sm_T_inc (a := 6) (z := 1) (v := f_) (w := f_ + 1) rfl rfl (by omega) (by omega) (by omega) ?_ -- pc_ 115
              refine sm_T_go 1 (c1 := (54, [some (.inr (.inr (some (13, 0)))), some (.inl a1_), some (.inl a2_), some (.inl mn), some (.inl wo), some (.inl sh_), some (.inl (f_ + 1))], [], Sx20_)) rfl ?_
              refine ih_ mn wo sh_ (f_ + 1) Sx20_ hIx21_ hFx24_ ⟨?_, ?_, ?_, ?_, ?_, ?_, trivial⟩ ?_
              · omega
              · exact ht_
              · first | exact hcd_ | exact d75_
              · first | exact hlk_ | exact k75_
              · (intro q9_; first | (exfalso; omega) | (rw [T9_, s91_]; split <;> (push_cast; omega)))
              · (intro q9_; first | (exfalso; omega) | (rw [T9_, s93_]; split <;> (push_cast; omega)))
              · omega
            · have cx27_ : ¬ (a2_ ≠ 2) := of_decide_eq_false cx27_
              exfalso; omega
          · have cx26_ : ¬ (vx25_ ≠ (-1)) := of_decide_eq_false cx26_
            refine sm_T_go 2 (c1 := (87, [some (.inr (.inr (some (13, 0)))), some (.inl a1_), some (.inl a2_), some (.inl mn), some (.inl wo), some (.inl sh_), some (.inl f_)], [.inl 1, .inl wo], Sx20_)) rfl ?_
            refine sm_T_bin (w := wo + 1) rfl (bi_add (by omega) (by omega) (by omega)) ?_ -- pc_ 87
            refine sm_T_go 4 (c1 := (94, [some (.inr (.inr (some (13, 0)))), some (.inl a1_), some (.inl a2_), some (.inl mn), some (.inl (wo + 1)), some (.inl sh_), some (.inl f_)], [.inl 2, .inl a2_, .inl sh_], Sx20_)) rfl ?_
            refine sm_T_br (a := 1) (z := 17) rfl (fun cx28_ => ?_) (fun cx28_ => ?_)
            · have cx28_ : a2_ ≠ 2 := of_decide_eq_true cx28_
              refine sm_T_go 1 (c1 := (112, [some (.inr (.inr (some (13, 0)))), some (.inl a1_), some (.inl a2_), some (.inl mn), some (.inl (wo + 1)), some (.inl sh_), some (.inl f_)], [.inl 0, .inl sh_], Sx20_)) rfl ?_
              refine sm_T_bin (w := sh_) rfl (bi_add (by omega) (by omega) (by omega)) ?_ -- pc_ 112
              refine sm_T_go 1 (c1 := (115, [some (.inr (.inr (some (13, 0)))), some (.inl a1_), some (.inl a2_), some (.inl mn), some (.inl (wo + 1)), some (.inl sh_), some (.inl f_)], [], Sx20_)) rfl ?_
              refine sm_T_inc (a := 6) (z := 1) (v := f_) (w := f_ + 1) rfl rfl (by omega) (by omega) (by omega) ?_ -- pc_ 115
              refine sm_T_go 1 (c1 := (54, [some (.inr (.inr (some (13, 0)))), some (.inl a1_), some (.inl a2_), some (.inl mn), some (.inl (wo + 1)), some (.inl sh_), some (.inl (f_ + 1))], [], Sx20_)) rfl ?_
              refine ih_ mn (wo + 1) sh_ (f_ + 1) Sx20_ hIx21_ hFx24_ ⟨?_, ?_, ?_, ?_, ?_, ?_, trivial⟩ ?_
              · omega
              · exact ht_
              · first | exact hcd_ | exact d75_
              · first | exact hlk_ | exact k75_
              · (intro q9_; first | (exfalso; omega) | (rw [T9_, s91_]; split <;> (push_cast; omega)))
              · (intro q9_; first | (exfalso; omega) | (rw [T9_, s93_]; split <;> (push_cast; omega)))
              · omega
            · have cx28_ : ¬ (a2_ ≠ 2) := of_decide_eq_false cx28_
              exfalso; omega
set_option maxHeartbeats 400000 in
set_option maxRecDepth 20000 in
theorem vc_534t {sc_ : Nat × (Nat → Int)} (a1_ : Int) (a2_ : Int) (P_ : Nat → Nat → Bool) (L_ : List Nat) (le_ : Nat → Int) (S0_ : sm_S) (hI_ : gi S0_) (ha1_ : (-2147483648) ≤ a1_ ∧ a1_ ≤ 2147483647) (ha2_ : (-2147483648) ≤ a2_ ∧ a2_ ≤ 2147483647) (hJ_ : jR S0_) (hk_ : lsk S0_) (hle_ : ora_faults a1_ a2_ S0_ → rleU a1_ S0_ le_) (hL_ : ora_faults a1_ a2_ S0_ → imq (0 ≤ S0_.2.2.1 289 0 a1_.toNat) (rlt9 a1_ S0_ P_ L_) ∧ imq (S0_.2.2.1 289 0 a1_.toNat < 0) (L_ = [])) : sm_T (mt_P sc_) 5 534 (0, [some (.inr (.inr (some (13, 0)))), some (.inl a1_), some (.inl a2_), none, none, none, none], [], S0_) (fun ro9_ => ∃ u_ S1_, ro9_ = (.inl u_, S1_, 0) ∧ vq_534t a1_ a2_ P_ L_ le_ S0_ u_ S1_) := by
  have hF_ : ai_fr (sx_W vw_534t) S0_ S0_ := ai_fr_rf
  refine sm_T_go 3 (c1 := (3, [some (.inr (.inr (some (13, 0)))), some (.inl a1_), some (.inl a2_), none, none, none, none], [.inl a1_, .inr (.inr (some (13, 0))), .inr (.inr (some (13, 0)))], S0_)) rfl ?_
  refine sm_T_cal (d1 := 0) (Q1 := vq_371 a1_ S0_) rfl rfl (by decide) (vc_371 a1_ S0_ hI_ (by omega)) (fun u_ Sx1_ px4_ => ?_)
  obtain ⟨rfl, vx6_, rfl, px4_⟩ := px4_
  have d3_ := px4_
  refine sm_T_b0 (a := 1) (z := 7) rfl (fun cx7_ => ?_) (fun cx7_ => ?_)
  · have cx7_ : vx6_ ≠ 0 := of_decide_eq_true cx7_
    refine sm_T_go 3 (c1 := (16, [some (.inr (.inr (some (13, 0)))), some (.inl a1_), some (.inl a2_), none, none, none, none], [.inl 2, .inl 0, .inl a2_, .inr (.inr (some (13, 0)))], S0_)) rfl ?_
    refine sm_T_cal (d1 := 0) (Q1 := vq_278 a2_ 0 2 S0_) rfl rfl (by decide) (vc_278 a2_ 0 2 S0_ hI_ ) (fun u_ Sx8_ px11_ => ?_)
    obtain ⟨rfl, vx13_, rfl, px11_⟩ := px11_
    have e16_ := px11_
    refine sm_T_b0 (a := 1) (z := 7) rfl (fun cx14_ => ?_) (fun cx14_ => ?_)
    · have cx14_ : vx13_ ≠ 0 := of_decide_eq_true cx14_
      have K9_ : cRk a1_ S0_ := hJ_.2 a1_ (by omega) (by omega) (by omega)
      obtain ⟨K1_, K2_, K3_, K4_, K5_, K6_, K7_⟩ := K9_
      have fb9_ := fco_b hI_ K1_
      have hIx15_ : gi (sm_pI S0_ 13 0 0 0) := gi_pI hI_ (show 0 ≤ 0 ∧ 0 ≤ 4 from ⟨by omega, by omega⟩)
      have hFx16_ : ai_fr (sx_W vw_534t) S0_ (sm_pI S0_ 13 0 0 0) := ai_fr_tr hF_ (ai_fr_pI rfl)
      refine sm_T_go 7 (c1 := (41, [some (.inr (.inr (some (13, 0)))), some (.inl a1_), some (.inl a2_), none, none, none, none], [.inl a1_, .inr (.inr (some (13, 0)))], sm_pI S0_ 13 0 0 0)) rfl ?_
      refine sm_T_cal (d1 := 1) (Q1 := vq_514 a1_ (sm_pI S0_ 13 0 0 0)) rfl rfl (by decide) (vc_514 a1_ (sm_pI S0_ 13 0 0 0) hIx15_ (by omega) (by exact K1_)) (fun u_ Sx17_ px20_ => ?_)
      obtain ⟨rfl, vx22_, rfl, px20_⟩ := px20_
      have e41_ : vx22_ = fco a1_ S0_ ∧ 0 ≤ vx22_ ∧ vx22_ ≤ 1224 := px20_
      refine sm_T_go 7 (c1 := (54, [some (.inr (.inr (some (13, 0)))), some (.inl a1_), some (.inl a2_), some (.inl vx22_), some (.inl 0), some (.inl 0), some (.inl 0)], [], sm_pI S0_ 13 0 0 0)) rfl ?_
      refine (vl_534t a1_ a2_ P_ L_ le_ S0_ ha1_ ha2_ hJ_ hk_ hle_ hL_ _) vx22_ 0 0 0 (sm_pI S0_ 13 0 0 0) hIx15_ hFx16_ ⟨?_, ?_, ?_, ?_, ?_, ?_, trivial⟩ (Nat.lt_succ_self _)
      · omega
      · omega
      · exact rf_eq
      · exact lsk_fr (w_ := ([(13, 0)], [], [])) hk_ (ai_fr_pI rfl)
      · (intro _; rfl)
      · (intro _; rfl)
    · have cx14_ : ¬ (vx13_ ≠ 0) := of_decide_eq_false cx14_
      have hIx23_ : gi (sm_pI S0_ 13 0 0 2) := gi_pI hI_ (show 0 ≤ 2 ∧ 2 ≤ 4 from ⟨by omega, by omega⟩)
      have hFx24_ : ai_fr (sx_W vw_534t) S0_ (sm_pI S0_ 13 0 0 2) := ai_fr_tr hF_ (ai_fr_pI rfl)
      refine sm_T_go 7 (c1 := (38, [some (.inr (.inr (some (13, 0)))), some (.inl a1_), some (.inl a2_), none, none, none, none], [.inl 0], sm_pI S0_ 13 0 0 2)) rfl ?_
      refine sm_T_ri rfl ⟨_, _, rfl, _, rfl, hIx23_, hFx24_, ?_⟩
      refine ⟨⟨by omega, by omega⟩, jR_fr hJ_ hIx23_ hFx24_, lsk_fr (w_ := ([(13, 0)], [], [])) hk_ (ai_fr_pI rfl), ?_⟩
      first | exact Or.inl ⟨rf_eq, by (unfold ora_faults; omega)⟩ | exact Or.inr (Or.inl ⟨rf_eq, by (unfold ora_faults; omega), by (unfold okr_faults ora_faults; omega)⟩)
  · have cx7_ : ¬ (vx6_ ≠ 0) := of_decide_eq_false cx7_
    have hIx25_ : gi (sm_pI S0_ 13 0 0 1) := gi_pI hI_ (show 0 ≤ 1 ∧ 1 ≤ 4 from ⟨by omega, by omega⟩)
    have hFx26_ : ai_fr (sx_W vw_534t) S0_ (sm_pI S0_ 13 0 0 1) := ai_fr_tr hF_ (ai_fr_pI rfl)
    refine sm_T_go 7 (c1 := (38, [some (.inr (.inr (some (13, 0)))), some (.inl a1_), some (.inl a2_), none, none, none, none], [.inl 0], sm_pI S0_ 13 0 0 1)) rfl ?_
    refine sm_T_ri rfl ⟨_, _, rfl, _, rfl, hIx25_, hFx26_, ?_⟩
    refine ⟨⟨by omega, by omega⟩, jR_fr hJ_ hIx25_ hFx26_, lsk_fr (w_ := ([(13, 0)], [], [])) hk_ (ai_fr_pI rfl), ?_⟩
    first | exact Or.inl ⟨rf_eq, by (unfold ora_faults; omega)⟩ | exact Or.inr (Or.inl ⟨rf_eq, by (unfold ora_faults; omega), by (unfold okr_faults ora_faults; omega)⟩)
