/-! pins of a board; written by wip/p55/gen/vg -/

/-! pins of_ a_ board -/
/-- each net's pins are_ counted -/
def bcn (ii_ : Nat) (S_ : sm_S) : Prop := ∀ c_ : Nat, c_ < 162 → S_.2.2.1 20 (0 + ii_) c_ = (cne (S_.2.2.1 17 (0 + ii_)) (c_ : Int) 652 : Int)
/-- the_ pins stand by their nets -/
def bpn (ii_ : Nat) (S_ : sm_S) : Prop := ∀ c_ : Nat, c_ < 162 → S_.2.2.1 19 (0 + ii_) c_ + S_.2.2.1 20 (0 + ii_) c_ ≤ 652 ∧ ∀ k_ : Nat, (k_ : Int) < S_.2.2.1 20 (0 + ii_) c_ → S_.2.2.1 17 (0 + ii_) (S_.2.2.1 18 (0 + ii_) ((S_.2.2.1 19 (0 + ii_) c_).toNat + k_)).toNat = (c_ : Int)
theorem bcn_set {ii_ : Nat} {S_ : sm_S} {x_ v_ : Int} (h_ : bcn ii_ S_) (h1_ : 0 ≤ x_ ∧ x_ ≤ 651) (h2_ : 0 ≤ v_ ∧ v_ ≤ 161) (hf_ : S_.2.2.1 17 (0 + ii_) x_.toNat = -1) : bcn ii_ (sm_aI (sm_aI S_ 17 (0 + ii_) x_.toNat v_) 20 (0 + ii_) v_.toNat (S_.2.2.1 20 (0 + ii_) v_.toNat + 1)) ∧ ∀ j_, (sm_aI (sm_aI S_ 17 (0 + ii_) x_.toNat v_) 20 (0 + ii_) v_.toNat (S_.2.2.1 20 (0 + ii_) v_.toNat + 1)).2.2.1 17 (0 + ii_) j_ = if 0 ≤ v_ ∧ j_ = x_.toNat then v_ else S_.2.2.1 17 (0 + ii_) j_ := by
  have r1_ : ∀ j_, (sm_aI (sm_aI S_ 17 (0 + ii_) x_.toNat v_) 20 (0 + ii_) v_.toNat (S_.2.2.1 20 (0 + ii_) v_.toNat + 1)).2.2.1 17 (0 + ii_) j_ = if 0 ≤ v_ ∧ j_ = x_.toNat then v_ else S_.2.2.1 17 (0 + ii_) j_ := by
    intro j_
    rw [rd_ne (by decide), rd_eq]
    by_cases z_ : j_ = x_.toNat
    · rw [if_pos z_, if_pos ⟨h2_.1, z_⟩]
    · rw [if_neg z_, if_neg (fun q_ => z_ q_.2)]
  refine ⟨fun c_ hc_ => ?_, r1_⟩
  rw [rd_eq]
  by_cases z_ : c_ = v_.toNat
  · rw [if_pos z_, cne_up (f := S_.2.2.1 17 (0 + ii_)) (j := x_.toNat) (by omega) (by rw [r1_, if_pos ⟨h2_.1, rfl⟩]; omega) (fun k_ hk_ => by rw [r1_, if_neg (fun q_ => hk_ q_.2)]) (n := 652) (by omega)]
    have w_ := h_ c_ hc_
    rw [z_] at w_ ⊢
    push_cast
    omega
  · rw [if_neg z_, rd_ne (by decide), h_ c_ hc_]
    exact congrArg _ (cne_ot (f := S_.2.2.1 17 (0 + ii_)) (g := (sm_aI (sm_aI S_ 17 (0 + ii_) x_.toNat v_) 20 (0 + ii_) v_.toNat (S_.2.2.1 20 (0 + ii_) v_.toNat + 1)).2.2.1 17 (0 + ii_)) (j := x_.toNat) (by omega) (by rw [r1_, if_pos ⟨h2_.1, rfl⟩]; omega) (fun k_ hk_ => by rw [r1_, if_neg (fun q_ => hk_ q_.2)]) (n := 652)).symm
/-! Board.setPin -/
def vw_12 : sx_Wl := ([], [17, 20], [])
def vq_12 (a1_ : Int) (a2_ : Int) (ii_ : Nat) (S0_ : sm_S) (u_ : Option sm_V) (S1_ : sm_S) : Prop := u_ = none ∧ gi S1_ ∧ ai_fr (sx_W vw_12) S0_ S1_ ∧ (cdf ii_ S0_ S1_ ∧ (bcn ii_ S1_ ∧ ∀ j_, S1_.2.2.1 17 (0 + ii_) j_ = if 0 ≤ a2_ ∧ j_ = a1_.toNat then a2_ else S0_.2.2.1 17 (0 + ii_) j_))
set_option maxHeartbeats 400000 in
theorem vc_12 {sc_ : Nat × (Nat → Int)} (a1_ : Int) (a2_ : Int) (ii_ : Nat) (S0_ : sm_S) (hI_ : gi S0_) (h1_ : 0 ≤ a1_ ∧ a1_ ≤ 651) (h2_ : -2 ≤ a2_ ∧ a2_ ≤ 161) (hcn_ : bcn ii_ S0_) (hf_ : S0_.2.2.1 17 (0 + ii_) a1_.toNat = -1) : sm_T (mt_P sc_) 0 12 (0, [some (.inr (.inr (some (0, ii_)))), some (.inl a1_), some (.inl a2_)], [], S0_) (fun ro9_ => ∃ u_ S1_, ro9_ = (.inl u_, S1_, 0) ∧ vq_12 a1_ a2_ ii_ S0_ u_ S1_) := by
  have hF_ : ai_fr (sx_W vw_12) S0_ S0_ := ai_fr_rf
  have hC_ : cdf ii_ S0_ S0_ := cdf_rf
  refine sm_T_go 1 (c1 := (1, [some (.inr (.inr (some (0, ii_)))), some (.inl a1_), some (.inl a2_)], [.inl a2_], S0_)) rfl ?_
  refine sm_T_b0 (a := 2) (z := 20) rfl (fun cx1_ => ?_) (fun cx1_ => ?_)
  · have cx1_ : a2_ < 0 := of_decide_eq_true cx1_
    refine sm_T_rv rfl ⟨_, _, rfl, rfl, hI_, hF_, ?_⟩
    refine ⟨hC_, ?_⟩
    first | exact ⟨hcn_, fun j_ => by rw [if_neg (by omega)]⟩ | exact bcn_set hcn_ (by omega) (by omega) hf_
  · have cx1_ : ¬ (a2_ < 0) := of_decide_eq_false cx1_
    have ct : (cne (S0_.2.2.1 17 (0 + ii_)) a2_ 652 : Int) < 652 := by have z_ := cne_lt (f := S0_.2.2.1 17 (0 + ii_)) (c := a2_) (j := a1_.toNat) (by omega) (n := 652) (by omega); omega
    have ce_ := hcn_ a2_.toNat (by omega)
    rw [show ((a2_.toNat : Nat) : Int) = a2_ by omega] at ce_
    refine sm_T_go 4 (c1 := (10, [some (.inr (.inr (some (0, ii_)))), some (.inl a1_), some (.inl a2_)], [.inl a2_, .inl a1_, .inr (.inr (some (17, (0 + ii_))))], S0_)) rfl ?_
    refine sm_T_iast (n := 652) rfl rfl (by omega) (by omega) ?_
    have hIx2_ : gi (sm_aI S0_ 17 (0 + ii_) a1_.toNat a2_) := gi_aI hI_ (show (-1) ≤ a2_ ∧ a2_ ≤ 161 from ⟨by omega, by omega⟩)
    have hFx3_ : ai_fr (sx_W vw_12) S0_ (sm_aI S0_ 17 (0 + ii_) a1_.toNat a2_) := ai_fr_tr hF_ (ai_fr_aI rfl)
    have hCx4_ : cdf ii_ S0_ (sm_aI S0_ 17 (0 + ii_) a1_.toNat a2_) := cdf_aI hC_ (Or.inr (by rw [show cof 17 = 0 from rfl] <;> omega))
    refine sm_T_go 4 (c1 := (17, [some (.inr (.inr (some (0, ii_)))), some (.inl a1_), some (.inl a2_)], [.inl a2_, .inr (.inr (some (20, (0 + ii_)))), .inl a2_, .inr (.inr (some (20, (0 + ii_))))], sm_aI S0_ 17 (0 + ii_) a1_.toNat a2_)) rfl ?_
    refine sm_T_iald (n := 162) rfl rfl (by omega) (by omega) ?_
    have bx5_ : 0 ≤ S0_.2.2.1 20 (0 + ii_) a2_.toNat ∧ S0_.2.2.1 20 (0 + ii_) a2_.toNat ≤ 652 := hI_.2 20 (0 + ii_) _
    refine sm_T_go 1 (c1 := (19, [some (.inr (.inr (some (0, ii_)))), some (.inl a1_), some (.inl a2_)], [.inl 1, .inl (S0_.2.2.1 20 (0 + ii_) a2_.toNat), .inl a2_, .inr (.inr (some (20, (0 + ii_))))], sm_aI S0_ 17 (0 + ii_) a1_.toNat a2_)) rfl ?_
    refine sm_T_bin (w := (S0_.2.2.1 20 (0 + ii_) a2_.toNat) + 1) rfl (bi_add (by omega) (by omega) (by omega)) ?_ -- pc_ 19
    refine sm_T_iast (n := 162) rfl rfl (by omega) (by omega) ?_
    have hIx6_ : gi (sm_aI (sm_aI S0_ 17 (0 + ii_) a1_.toNat a2_) 20 (0 + ii_) a2_.toNat ((S0_.2.2.1 20 (0 + ii_) a2_.toNat) + 1)) := gi_aI hIx2_ (show 0 ≤ (S0_.2.2.1 20 (0 + ii_) a2_.toNat) + 1 ∧ (S0_.2.2.1 20 (0 + ii_) a2_.toNat) + 1 ≤ 652 from ⟨by omega, by omega⟩)
    have hFx7_ : ai_fr (sx_W vw_12) S0_ (sm_aI (sm_aI S0_ 17 (0 + ii_) a1_.toNat a2_) 20 (0 + ii_) a2_.toNat ((S0_.2.2.1 20 (0 + ii_) a2_.toNat) + 1)) := ai_fr_tr hFx3_ (ai_fr_aI rfl)
    have hCx8_ : cdf ii_ S0_ (sm_aI (sm_aI S0_ 17 (0 + ii_) a1_.toNat a2_) 20 (0 + ii_) a2_.toNat ((S0_.2.2.1 20 (0 + ii_) a2_.toNat) + 1)) := cdf_aI hCx4_ (Or.inr (by rw [show cof 20 = 0 from rfl] <;> omega))
    refine sm_T_rv rfl ⟨_, _, rfl, rfl, hIx6_, hFx7_, ?_⟩
    refine ⟨hCx8_, ?_⟩
    first | exact ⟨hcn_, fun j_ => by rw [if_neg (by omega)]⟩ | exact bcn_set hcn_ (by omega) (by omega) hf_
