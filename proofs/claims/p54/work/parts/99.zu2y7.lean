/-! the reference: the set, suspects; written by wip/p55/gen/vg -/

/-! the_ reference: tests asked -/
def okr_tests (a1_ : Int) (S_ : sm_S) : Prop := 0 ≤ a1_ ∧ a1_ < 4 ∧ S_.2.2.1 222 0 a1_.toNat = 1
def ora_pattern (a1_ a2_ : Int) (S_ : sm_S) : Prop := (0 ≤ a1_ ∧ a1_ < 4 ∧ S_.2.2.1 222 0 a1_.toNat = 1) ∧ 0 ≤ a2_ ∧ (S_.2.2.1 289 0 a1_.toNat = -1 ∨ a2_ < S_.2.2.1 289 0 a1_.toNat)
def okr_pattern (a1_ a2_ : Int) (S_ : sm_S) : Prop := ora_pattern a1_ a2_ S_ ∧ S_.2.2.1 289 0 a1_.toNat ≠ -1
def ora_suspect (a1_ a2_ : Int) (S_ : sm_S) : Prop := (0 ≤ a1_ ∧ a1_ < 4 ∧ S_.2.2.1 222 0 a1_.toNat = 1) ∧ 0 ≤ a2_
def okr_suspect (a1_ a2_ : Int) (S_ : sm_S) : Prop := ora_suspect a1_ a2_ S_ ∧ S_.2.2.1 289 0 a1_.toNat ≠ -1
def ora_faults (a1_ a2_ : Int) (S_ : sm_S) : Prop := 0 ≤ a1_ ∧ a1_ < 4 ∧ S_.2.2.1 222 0 a1_.toNat = 1
def okr_faults (a1_ a2_ : Int) (S_ : sm_S) : Prop := ora_faults a1_ a2_ S_ ∧ (0 ≤ a2_ ∧ a2_ ≤ 2)
def rleU (c_ : Int) (S_ : sm_S) (le_ : Nat → Int) : Prop := ∀ (f_ : Nat) (v_ : Int), (f_ : Int) < fco c_ S_ → rsl c_ S_ (f_ : Int) v_ → v_ = le_ f_
/-- what is_ kept of_ the_ least patterns stays right -/
theorem lsk_fr {w_ : sx_Wl} {S_ S'_ : sm_S} (h_ : lsk S_) (g_ : ai_fr (sx_W w_) S_ S'_) (r_ : rwf w_ = true := by rfl) (a_ : (sx_W w_).2.1 294 = false := by rfl) : lsk S'_ := fun c_ h1_ h2_ h3_ f_ f1_ f2_ => by
  rw [fr_arr (t := 222) (i := 0) g_ (rwf_0 r_ rfl)] at h3_
  rw [fco_fr g_ r_] at f2_
  rw [fr_arr (t := 294) (i := 0) g_ a_]
  intro z_
  exact (rsl_fr g_ r_).mpr (h_ c_ h1_ h2_ h3_ f_ f1_ f2_ z_)
theorem lsk_up {w_ : sx_Wl} {S_ S'_ : sm_S} {c_ f_ v_ : Int} (h_ : lsk S_) (g_ : ai_fr (sx_W w_) S_ S'_) (hc_ : 0 ≤ c_ ∧ c_ < 4) (hf_ : 0 ≤ f_ ∧ f_ < fco c_ S_) (q_ : rsl c_ S_ f_ v_) (e1_ : S'_.2.2.1 294 0 (1280 * c_ + f_).toNat = v_ + 2) (e2_ : ∀ j_, j_ ≠ (1280 * c_ + f_).toNat → S'_.2.2.1 294 0 j_ = S_.2.2.1 294 0 j_) (hb_ : ∀ c9_ : Int, 0 ≤ c9_ → c9_ < 4 → S_.2.2.1 222 0 c9_.toNat = 1 → fco c9_ S_ ≤ 1280) (r_ : rwf w_ = true := by rfl) (u_ : S_.2.2.1 222 0 c_.toNat = 1) : lsk S'_ := fun c9_ h1_ h2_ h3_ f9_ f1_ f2_ => by
  rw [fr_arr (t := 222) (i := 0) g_ (rwf_0 r_ rfl)] at h3_
  rw [fco_fr g_ r_] at f2_
  have b1_ := hb_ c9_ h1_ h2_ h3_
  have b2_ := hb_ c_ hc_.1 hc_.2 u_
  intro z_
  refine (rsl_fr g_ r_).mpr ?_
  by_cases y_ : (1280 * c9_ + f9_).toNat = (1280 * c_ + f_).toNat
  · have ec : c9_ = c_ := by omega
    have ef_ : f9_ = f_ := by omega
    rw [ec, ef_, e1_, show v_ + 2 - 2 = v_ by omega]
    exact q_
  · rw [e2_ _ y_] at z_ ⊢
    exact h_ c9_ h1_ h2_ h3_ f9_ f1_ f2_ z_
theorem rsl_b {c_ f_ v_ : Int} {S_ : sm_S} (h_ : rsl c_ S_ f_ v_) : v_ = -1 ∨ (0 ≤ v_ ∧ v_ < rB9 c_ S_) := by
  rcases h_ with ⟨a1_, -⟩ | ⟨q_, a1_, a2_, -⟩
  · exact Or.inl a1_
  · exact Or.inr ⟨by omega, by unfold rB9; omega⟩
theorem spr9_n {Q_ : Nat → Bool} {m_ n_ : Nat} (h_ : m_ ≤ n_) (q_ : ¬ spr9 Q_ m_ = true) : spr9 Q_ n_ = decide ((0 : Int) = 1) := by
  have z_ : ∀ k_, spr9 Q_ (m_ + k_) = false := fun k_ => by
    induction k_ with
    | zero => exact Bool.eq_false_iff.mpr q_
    | succ k_ ih_ =>
      show (spr9 Q_ (m_ + k_) && Q_ (m_ + k_)) = false
      rw [ih_, Bool.false_and]
  have e_ := z_ (n_ - m_)
  rw [show m_ + (n_ - m_) = n_ by omega] at e_
  rw [e_]
  rfl
theorem spr9_i {Q_ : Nat → Bool} {n_ : Nat} : spr9 Q_ (n_ + 1) = true ↔ spr9 Q_ n_ = true ∧ Q_ n_ = true := by
  show (spr9 Q_ n_ && Q_ n_) = true ↔ _
  exact Bool.and_eq_true_iff
theorem gos_r {P_ : Nat → Nat → Bool} {N_ k_ x_ : Nat} {M_ : List Nat} (h_ : M_[k_]? = some x_) : gos9 P_ N_ M_ k_ = spr9 (fun f_ => !(P_ f_ x_) || decide (1 < cn9 (P_ f_) M_)) N_ := by
  unfold gos9
  rw [gtD9 h_]
  refine spr9_cg (fun f_ _ => ?_)
  cases q_ : P_ f_ x_
  · rw [Bool.and_false]
    rfl
  · have c_ := cn9_1 (p_ := P_ f_) h_ q_
    rw [Bool.and_true, Bool.not_true, Bool.false_or]
    by_cases z_ : cn9 (P_ f_) M_ = 1
    · rw [decide_eq_true z_, decide_eq_false (by omega)]
      rfl
    · rw [decide_eq_false z_, decide_eq_true (by omega)]
      rfl
/-- the_ reference's set_ while patterns go_ -/
def exr9 (P_ : Nat → Nat → Bool) (N_ : Nat) (c_ : Int) (T_ : List Nat) (S_ : sm_S) (k_ : Int) : Prop := ∃ M_ : List Nat, rlt9 c_ S_ P_ M_ ∧ prn9 P_ N_ (k_ + 1).toNat M_ = T_
/-- .. and one_ of_ them is_ looked at -/
def exg9 (P_ : Nat → Nat → Bool) (N_ : Nat) (c_ : Int) (T_ : List Nat) (S_ : sm_S) (k_ go_ f_ : Int) : Prop := ∃ (M_ : List Nat) (x_ : Nat), rlt9 c_ S_ P_ M_ ∧ prn9 P_ N_ (k_ + 1).toNat M_ = T_ ∧ M_[k_.toNat]? = some x_ ∧ (go_ = 1 ↔ spr9 (fun f9_ => !(P_ f9_ x_) || decide (1 < cn9 (P_ f9_) M_)) f_.toNat = true)
/-! M_.isSuspect -/
def vw_532n : sx_Wl := ([], [], [])
def vq_532n (c_ : Int) (f_ : Int) (P_ : Nat → Nat → Bool) (L_ : List Nat) (fa_ : Nat → Bool) (S0_ : sm_S) (u_ : Option sm_V) (S1_ : sm_S) : Prop := S0_ = S1_ ∧ ∃ v_ : Int, u_ = some (.inl v_) ∧ ((0 ≤ v_ ∧ v_ ≤ 1) ∧ sus9 P_ L_ fa_ f_.toNat = decide (v_ = 1))
set_option maxHeartbeats 400000 in
set_option maxRecDepth 20000 in
theorem vl_532n {sc_ : Nat × (Nat → Int)} (c_ : Int) (f_ : Int) (P_ : Nat → Nat → Bool) (L_ : List Nat) (fa_ : Nat → Bool) (S0_ : sm_S) (hc_ : 0 ≤ c_ ∧ c_ ≤ 3) (hf_ : 0 ≤ f_ ∧ f_ < fco c_ S0_ ∧ f_ ≤ 1279) (hL_ : rlt9 c_ S0_ P_ L_) (hfa_ : ∀ k9_ : Nat, (k9_ : Int) < S0_.2.2.1 289 0 c_.toNat → fa_ k9_ = decide (S0_.2.2.1 291 0 (1280 * c_.toNat + k9_) ≠ 0)) : ∀ nn_ : Nat, (∀ (so_ : Int) (ju_ : Int) (i_ : Int) (S_ : sm_S), gi S_ → ai_fr (sx_W vw_532n) S0_ S_ → ((0 ≤ i_ ∧ i_ ≤ 1224 ∧ i_ ≤ S0_.2.2.1 289 0 c_.toNat ∧ 0 ≤ so_ ∧ so_ ≤ 1 ∧ 0 ≤ ju_ ∧ ju_ ≤ 1) ∧ (so_ = 1 ↔ 0 < cn9 (P_ f_.toNat) (L_.take i_.toNat)) ∧ (ju_ = 1 ↔ spr9 (fun k9_ => P_ f_.toNat (L_.getD k9_ 0) == fa_ k9_) i_.toNat = true) ∧ (S_ = S0_) ∧ True) → ((5000 - i_).toNat) < nn_ → sm_T (mt_P sc_) 1 532 (8, [some (.inr (.inr (some (13, 0)))), some (.inl c_), some (.inl f_), some (.inl so_), some (.inl ju_), some (.inl i_), none], [], S_) (fun ro9_ => ∃ u_ S1_, ro9_ = (.inl u_, S1_, 0) ∧ vq_532n c_ f_ P_ L_ fa_ S0_ u_ S1_)) := by
  intro nn_
  induction nn_ with
  | zero => exact fun _ _ _ _ _ _ _ h_ => absurd h_ (Nat.not_lt_zero _)
  | succ nn_ ih_ =>
    rintro so_ ju_ i_ S_ hI_ hF_ ⟨h0_, hs1_, hj1_, hS_, -⟩ hm_
    subst hS_
    have T9_ : (i_ + 1).toNat = i_.toNat + 1 := by omega
    have L9_ := hL_.1
    have f91_ : 0 ≤ S_.2.2.1 291 0 (1280 * c_.toNat + i_.toNat) ∧ S_.2.2.1 291 0 (1280 * c_.toNat + i_.toNat) ≤ 1 := hI_.2 291 0 _
    refine sm_T_go 4 (c1 := (15, [some (.inr (.inr (some (13, 0)))), some (.inl c_), some (.inl f_), some (.inl so_), some (.inl ju_), some (.inl i_), none], [.inl c_, .inr (.inr (some (289, 0))), .inl i_], S_)) rfl ?_
    refine sm_T_iald (n := 4) rfl rfl (by omega) (by omega) ?_
    have bx1_ : (-1) ≤ S_.2.2.1 289 0 c_.toNat ∧ S_.2.2.1 289 0 c_.toNat ≤ 1224 := hI_.2 289 0 _
    refine sm_T_br (a := 3) (z := 64) rfl (fun cx2_ => ?_) (fun cx2_ => ?_)
    · have cx2_ : (S_.2.2.1 289 0 c_.toNat) ≤ i_ := of_decide_eq_true cx2_
      refine sm_T_go 1 (c1 := (81, [some (.inr (.inr (some (13, 0)))), some (.inl c_), some (.inl f_), some (.inl so_), some (.inl ju_), some (.inl i_), none], [.inl so_], S_)) rfl ?_
      refine sm_T_b0 (a := 0) (z := 12) rfl (fun cx3_ => ?_) (fun cx3_ => ?_)
      · have cx3_ : so_ = 0 := of_decide_eq_true cx3_
        refine sm_T_go 1 (c1 := (94, [some (.inr (.inr (some (13, 0)))), some (.inl c_), some (.inl f_), some (.inl so_), some (.inl ju_), some (.inl i_), none], [.inl 0], S_)) rfl ?_
        refine sm_T_rz rfl (by omega) ⟨_, _, rfl, (by first | rfl | exact hS_.symm), _, rfl, ?_⟩
        have tk9_ : L_.take i_.toNat = L_ := List.take_of_length_le (by omega)
        rw [tk9_] at hs1_
        have le9_ : L_.length = i_.toNat := by omega
        refine ⟨by omega, ?_⟩
        unfold sus9
        first | (rw [decide_eq_true (hs1_.mp (by omega)), le9_, hj1_.mp (by omega)]; rfl) | (rw [decide_eq_false (show ¬ 0 < cn9 (P_ f_.toNat) L_ from fun q9_ => by (have u9_ := hs1_.mpr q9_; omega)), Bool.false_and]; rfl) | (rw [le9_, show spr9 (fun k9_ => P_ f_.toNat (L_.getD k9_ 0) == fa_ k9_) i_.toNat = false from Bool.eq_false_iff.mpr (fun q9_ => by (have u9_ := hj1_.mpr q9_; omega)), Bool.and_false]; rfl)
      · have cx3_ : ¬ (so_ = 0) := of_decide_eq_false cx3_
        refine sm_T_go 1 (c1 := (86, [some (.inr (.inr (some (13, 0)))), some (.inl c_), some (.inl f_), some (.inl so_), some (.inl ju_), some (.inl i_), none], [.inl ju_], S_)) rfl ?_
        refine sm_T_b0 (a := 0) (z := 7) rfl (fun cx4_ => ?_) (fun cx4_ => ?_)
        · have cx4_ : ju_ = 0 := of_decide_eq_true cx4_
          refine sm_T_go 1 (c1 := (94, [some (.inr (.inr (some (13, 0)))), some (.inl c_), some (.inl f_), some (.inl so_), some (.inl ju_), some (.inl i_), none], [.inl 0], S_)) rfl ?_
          refine sm_T_rz rfl (by omega) ⟨_, _, rfl, (by first | rfl | exact hS_.symm), _, rfl, ?_⟩
          have tk9_ : L_.take i_.toNat = L_ := List.take_of_length_le (by omega)
          rw [tk9_] at hs1_
          have le9_ : L_.length = i_.toNat := by omega
          refine ⟨by omega, ?_⟩
          unfold sus9
          first | (rw [decide_eq_true (hs1_.mp (by omega)), le9_, hj1_.mp (by omega)]; rfl) | (rw [decide_eq_false (show ¬ 0 < cn9 (P_ f_.toNat) L_ from fun q9_ => by (have u9_ := hs1_.mpr q9_; omega)), Bool.false_and]; rfl) | (rw [le9_, show spr9 (fun k9_ => P_ f_.toNat (L_.getD k9_ 0) == fa_ k9_) i_.toNat = false from Bool.eq_false_iff.mpr (fun q9_ => by (have u9_ := hj1_.mpr q9_; omega)), Bool.and_false]; rfl)
        · have cx4_ : ¬ (ju_ = 0) := of_decide_eq_false cx4_
          refine sm_T_go 2 (c1 := (94, [some (.inr (.inr (some (13, 0)))), some (.inl c_), some (.inl f_), some (.inl so_), some (.inl ju_), some (.inl i_), none], [.inl 1], S_)) rfl ?_
          refine sm_T_rz rfl (by omega) ⟨_, _, rfl, (by first | rfl | exact hS_.symm), _, rfl, ?_⟩
          have tk9_ : L_.take i_.toNat = L_ := List.take_of_length_le (by omega)
          rw [tk9_] at hs1_
          have le9_ : L_.length = i_.toNat := by omega
          refine ⟨by omega, ?_⟩
          unfold sus9
          first | (rw [decide_eq_true (hs1_.mp (by omega)), le9_, hj1_.mp (by omega)]; rfl) | (rw [decide_eq_false (show ¬ 0 < cn9 (P_ f_.toNat) L_ from fun q9_ => by (have u9_ := hs1_.mpr q9_; omega)), Bool.false_and]; rfl) | (rw [le9_, show spr9 (fun k9_ => P_ f_.toNat (L_.getD k9_ 0) == fa_ k9_) i_.toNat = false from Bool.eq_false_iff.mpr (fun q9_ => by (have u9_ := hj1_.mpr q9_; omega)), Bool.and_false]; rfl)
    · have cx2_ : ¬ ((S_.2.2.1 289 0 c_.toNat) ≤ i_) := of_decide_eq_false cx2_
      obtain ⟨x9_, x1_, x2_, x3_, x4_⟩ := rlt_k (k_ := i_) hL_ (by omega) (by omega)
      rw [show 1280 * c_.toNat + i_.toNat = (1280 * c_ + i_).toNat by omega] at f91_
      refine sm_T_go 4 (c1 := (24, [some (.inr (.inr (some (13, 0)))), some (.inl c_), some (.inl f_), some (.inl so_), some (.inl ju_), some (.inl i_), none], [.inl f_, .inl i_, .inl c_, .inr (.inr (some (13, 0)))], S_)) rfl ?_
      refine sm_T_cal (d1 := 0) (Q1 := vq_524n c_ i_ f_ S_) rfl rfl (by decide) (vc_524n c_ i_ f_ S_ hI_ (by exact hc_) (by omega) (by omega)) (fun u_ Sx5_ px8_ => ?_)
      obtain ⟨rfl, vx10_, rfl, px8_⟩ := px8_
      have i24_ := (px8_).1
      have j24_ : P_ f_.toNat x9_ = decide (vx10_ = 1) := (x4_ f_.toNat (by omega)).symm.trans (px8_).2
      have y24_ : cn9 (P_ f_.toNat) (L_.take (i_.toNat + 1)) = cn9 (P_ f_.toNat) (L_.take i_.toNat) + (if vx10_ = 1 then 1 else 0) := by (rw [cn9_t x1_, j24_]; simp only [decide_eq_true_eq])
      have fa9_ : fa_ i_.toNat = decide (S_.2.2.1 291 0 (1280 * c_ + i_).toNat ≠ 0) := by (rw [show (1280 * c_ + i_).toNat = 1280 * c_.toNat + i_.toNat by omega]; exact hfa_ i_.toNat (by omega))
      have q24_ : (P_ f_.toNat x9_ == fa_ i_.toNat) = true ↔ vx10_ = S_.2.2.1 291 0 (1280 * c_ + i_).toNat := by (rw [j24_, fa9_]; exact ⟨fun h9_ => by (have u9_ := decide_eq_decide.mp (eq_of_beq h9_); omega), fun h9_ => beq_iff_eq.mpr (decide_eq_decide.mpr (by omega))⟩)
      refine sm_T_go 2 (c1 := (30, [some (.inr (.inr (some (13, 0)))), some (.inl c_), some (.inl f_), some (.inl so_), some (.inl ju_), some (.inl i_), some (.inl vx10_)], [.inl so_], S_)) rfl ?_
      refine sm_T_b0 (a := 1) (z := 8) rfl (fun cx11_ => ?_) (fun cx11_ => ?_)
      · have cx11_ : so_ ≠ 0 := of_decide_eq_true cx11_
        refine sm_T_go 4 (c1 := (46, [some (.inr (.inr (some (13, 0)))), some (.inl c_), some (.inl f_), some (.inl 1), some (.inl ju_), some (.inl i_), some (.inl vx10_)], [.inl ju_], S_)) rfl ?_
        refine sm_T_b0 (a := 0) (z := 25) rfl (fun cx12_ => ?_) (fun cx12_ => ?_)
        · have cx12_ : ju_ = 0 := of_decide_eq_true cx12_
          refine sm_T_go 2 (c1 := (74, [some (.inr (.inr (some (13, 0)))), some (.inl c_), some (.inl f_), some (.inl 1), some (.inl 0), some (.inl i_), some (.inl vx10_)], [], S_)) rfl ?_
          refine sm_T_inc (a := 5) (z := 1) (v := i_) (w := i_ + 1) rfl rfl (by omega) (by omega) (by omega) ?_ -- pc_ 74
          refine sm_T_go 1 (c1 := (8, [some (.inr (.inr (some (13, 0)))), some (.inl c_), some (.inl f_), some (.inl 1), some (.inl 0), some (.inl (i_ + 1)), some (.inl vx10_)], [], S_)) rfl ?_
          refine sm_T_wk [some (.inr (.inr (some (13, 0)))), some (.inl c_), some (.inl f_), some (.inl 1), some (.inl 0), some (.inl (i_ + 1)), none] (by exact ⟨rfl, rfl, rfl, rfl, rfl, rfl, trivial⟩) ?_
          refine ih_ 1 0 (i_ + 1) S_ hI_ hF_ ⟨?_, ?_, ?_, ?_, trivial⟩ ?_
          · omega
          · (rw [T9_, y24_]; split <;> exact ⟨fun z9_ => by omega, fun z9_ => by omega⟩)
          · (rw [T9_, spr9_i, ← hj1_]; show _ ↔ _ ∧ (P_ f_.toNat (L_.getD i_.toNat 0) == fa_ i_.toNat) = true; rw [gtD9 x1_, q24_]; exact ⟨fun z9_ => ⟨by omega, by omega⟩, fun z9_ => by omega⟩)
          · rfl
          · omega
        · have cx12_ : ¬ (ju_ = 0) := of_decide_eq_false cx12_
          refine sm_T_go 5 (c1 := (59, [some (.inr (.inr (some (13, 0)))), some (.inl c_), some (.inl f_), some (.inl 1), some (.inl ju_), some (.inl i_), some (.inl vx10_)], [.inl c_, .inl 1280, .inr (.inr (some (291, 0))), .inl vx10_], S_)) rfl ?_
          refine sm_T_bin (w := 1280 * c_) rfl (bi_mul (by omega) (by omega) (by omega)) ?_ -- pc_ 59
          refine sm_T_go 1 (c1 := (62, [some (.inr (.inr (some (13, 0)))), some (.inl c_), some (.inl f_), some (.inl 1), some (.inl ju_), some (.inl i_), some (.inl vx10_)], [.inl i_, .inl (1280 * c_), .inr (.inr (some (291, 0))), .inl vx10_], S_)) rfl ?_
          refine sm_T_bin (w := 1280 * c_ + i_) rfl (bi_add (by omega) (by omega) (by omega)) ?_ -- pc_ 62
          refine sm_T_zald (n := 5120) rfl rfl (by omega) (by omega) ?_
          have bx13_ : 0 ≤ S_.2.2.1 291 0 (1280 * c_ + i_).toNat ∧ S_.2.2.1 291 0 (1280 * c_ + i_).toNat ≤ 1 := hI_.2 291 0 _
          refine sm_T_br (a := 1) (z := 7) rfl (fun cx14_ => ?_) (fun cx14_ => ?_)
          · have cx14_ : vx10_ ≠ (S_.2.2.1 291 0 (1280 * c_ + i_).toNat) := of_decide_eq_true cx14_
            refine sm_T_go 2 (c1 := (74, [some (.inr (.inr (some (13, 0)))), some (.inl c_), some (.inl f_), some (.inl 1), some (.inl 0), some (.inl i_), some (.inl vx10_)], [], S_)) rfl ?_
            refine sm_T_inc (a := 5) (z := 1) (v := i_) (w := i_ + 1) rfl rfl (by omega) (by omega) (by omega) ?_ -- pc_ 74
            refine sm_T_go 1 (c1 := (8, [some (.inr (.inr (some (13, 0)))), some (.inl c_), some (.inl f_), some (.inl 1), some (.inl 0), some (.inl (i_ + 1)), some (.inl vx10_)], [], S_)) rfl ?_
            refine sm_T_wk [some (.inr (.inr (some (13, 0)))), some (.inl c_), some (.inl f_), some (.inl 1), some (.inl 0), some (.inl (i_ + 1)), none] (by exact ⟨rfl, rfl, rfl, rfl, rfl, rfl, trivial⟩) ?_
            refine ih_ 1 0 (i_ + 1) S_ hI_ hF_ ⟨?_, ?_, ?_, ?_, trivial⟩ ?_
            · omega
            · (rw [T9_, y24_]; split <;> exact ⟨fun z9_ => by omega, fun z9_ => by omega⟩)
            · (rw [T9_, spr9_i, ← hj1_]; show _ ↔ _ ∧ (P_ f_.toNat (L_.getD i_.toNat 0) == fa_ i_.toNat) = true; rw [gtD9 x1_, q24_]; exact ⟨fun z9_ => ⟨by omega, by omega⟩, fun z9_ => by omega⟩)
            · rfl
            · omega
          · have cx14_ : ¬ (vx10_ ≠ (S_.2.2.1 291 0 (1280 * c_ + i_).toNat)) := of_decide_eq_false cx14_
            refine sm_T_go 3 (c1 := (74, [some (.inr (.inr (some (13, 0)))), some (.inl c_), some (.inl f_), some (.inl 1), some (.inl 1), some (.inl i_), some (.inl vx10_)], [], S_)) rfl ?_
            refine sm_T_inc (a := 5) (z := 1) (v := i_) (w := i_ + 1) rfl rfl (by omega) (by omega) (by omega) ?_ -- pc_ 74
            refine sm_T_go 1 (c1 := (8, [some (.inr (.inr (some (13, 0)))), some (.inl c_), some (.inl f_), some (.inl 1), some (.inl 1), some (.inl (i_ + 1)), some (.inl vx10_)], [], S_)) rfl ?_
            refine sm_T_wk [some (.inr (.inr (some (13, 0)))), some (.inl c_), some (.inl f_), some (.inl 1), some (.inl 1), some (.inl (i_ + 1)), none] (by exact ⟨rfl, rfl, rfl, rfl, rfl, rfl, trivial⟩) ?_
            refine ih_ 1 1 (i_ + 1) S_ hI_ hF_ ⟨?_, ?_, ?_, ?_, trivial⟩ ?_
            · omega
            · (rw [T9_, y24_]; split <;> exact ⟨fun z9_ => by omega, fun z9_ => by omega⟩)
            · (rw [T9_, spr9_i, ← hj1_]; show _ ↔ _ ∧ (P_ f_.toNat (L_.getD i_.toNat 0) == fa_ i_.toNat) = true; rw [gtD9 x1_, q24_]; exact ⟨fun z9_ => ⟨by omega, by omega⟩, fun z9_ => by omega⟩)
            · rfl
            · omega
      · have cx11_ : ¬ (so_ ≠ 0) := of_decide_eq_false cx11_
        refine sm_T_go 1 (c1 := (35, [some (.inr (.inr (some (13, 0)))), some (.inl c_), some (.inl f_), some (.inl so_), some (.inl ju_), some (.inl i_), some (.inl vx10_)], [.inl vx10_], S_)) rfl ?_
        refine sm_T_b0 (a := 0) (z := 7) rfl (fun cx15_ => ?_) (fun cx15_ => ?_)
        · have cx15_ : vx10_ = 0 := of_decide_eq_true cx15_
          refine sm_T_go 3 (c1 := (46, [some (.inr (.inr (some (13, 0)))), some (.inl c_), some (.inl f_), some (.inl 0), some (.inl ju_), some (.inl i_), some (.inl vx10_)], [.inl ju_], S_)) rfl ?_
          refine sm_T_b0 (a := 0) (z := 25) rfl (fun cx16_ => ?_) (fun cx16_ => ?_)
          · have cx16_ : ju_ = 0 := of_decide_eq_true cx16_
            refine sm_T_go 2 (c1 := (74, [some (.inr (.inr (some (13, 0)))), some (.inl c_), some (.inl f_), some (.inl 0), some (.inl 0), some (.inl i_), some (.inl vx10_)], [], S_)) rfl ?_
            refine sm_T_inc (a := 5) (z := 1) (v := i_) (w := i_ + 1) rfl rfl (by omega) (by omega) (by omega) ?_ -- pc_ 74
            refine sm_T_go 1 (c1 := (8, [some (.inr (.inr (some (13, 0)))), some (.inl c_), some (.inl f_), some (.inl 0), some (.inl 0), some (.inl (i_ + 1)), some (.inl vx10_)], [], S_)) rfl ?_
            refine sm_T_wk [some (.inr (.inr (some (13, 0)))), some (.inl c_), some (.inl f_), some (.inl 0), some (.inl 0), some (.inl (i_ + 1)), none] (by exact ⟨rfl, rfl, rfl, rfl, rfl, rfl, trivial⟩) ?_
            refine ih_ 0 0 (i_ + 1) S_ hI_ hF_ ⟨?_, ?_, ?_, ?_, trivial⟩ ?_
            · omega
            · (rw [T9_, y24_]; split <;> exact ⟨fun z9_ => by omega, fun z9_ => by omega⟩)
            · (rw [T9_, spr9_i, ← hj1_]; show _ ↔ _ ∧ (P_ f_.toNat (L_.getD i_.toNat 0) == fa_ i_.toNat) = true; rw [gtD9 x1_, q24_]; exact ⟨fun z9_ => ⟨by omega, by omega⟩, fun z9_ => by omega⟩)
            · rfl
            · omega
          · have cx16_ : ¬ (ju_ = 0) := of_decide_eq_false cx16_
            refine sm_T_go 5 (c1 := (59, [some (.inr (.inr (some (13, 0)))), some (.inl c_), some (.inl f_), some (.inl 0), some (.inl ju_), some (.inl i_), some (.inl vx10_)], [.inl c_, .inl 1280, .inr (.inr (some (291, 0))), .inl vx10_], S_)) rfl ?_
            refine sm_T_bin (w := 1280 * c_) rfl (bi_mul (by omega) (by omega) (by omega)) ?_ -- pc_ 59
            refine sm_T_go 1 (c1 := (62, [some (.inr (.inr (some (13, 0)))), some (.inl c_), some (.inl f_), some (.inl 0), some (.inl ju_), some (.inl i_), some (.inl vx10_)], [.inl i_, .inl (1280 * c_), .inr (.inr (some (291, 0))), .inl vx10_], S_)) rfl ?_
            refine sm_T_bin (w := 1280 * c_ + i_) rfl (bi_add (by omega) (by omega) (by omega)) ?_ -- pc_ 62
            refine sm_T_zald (n := 5120) rfl rfl (by omega) (by omega) ?_
            have bx17_ : 0 ≤ S_.2.2.1 291 0 (1280 * c_ + i_).toNat ∧ S_.2.2.1 291 0 (1280 * c_ + i_).toNat ≤ 1 := hI_.2 291 0 _
            refine sm_T_br (a := 1) (z := 7) rfl (fun cx18_ => ?_) (fun cx18_ => ?_)
            · have cx18_ : vx10_ ≠ (S_.2.2.1 291 0 (1280 * c_ + i_).toNat) := of_decide_eq_true cx18_
              refine sm_T_go 2 (c1 := (74, [some (.inr (.inr (some (13, 0)))), some (.inl c_), some (.inl f_), some (.inl 0), some (.inl 0), some (.inl i_), some (.inl vx10_)], [], S_)) rfl ?_
              refine sm_T_inc (a := 5) (z := 1) (v := i_) (w := i_ + 1) rfl rfl (by omega) (by omega) (by omega) ?_ -- pc_ 74
              refine sm_T_go 1 (c1 := (8, [some (.inr (.inr (some (13, 0)))), some (.inl c_), some (.inl f_), some (.inl 0), some (.inl 0), some (.inl (i_ + 1)), some (.inl vx10_)], [], S_)) rfl ?_
              refine sm_T_wk [some (.inr (.inr (some (13, 0)))), some (.inl c_), some (.inl f_), some (.inl 0), some (.inl 0), some (.inl (i_ + 1)), none] (by exact ⟨rfl, rfl, rfl, rfl, rfl, rfl, trivial⟩) ?_
              refine ih_ 0 0 (i_ + 1) S_ hI_ hF_ ⟨?_, ?_, ?_, ?_, trivial⟩ ?_
              · omega
              · (rw [T9_, y24_]; split <;> exact ⟨fun z9_ => by omega, fun z9_ => by omega⟩)
              · (rw [T9_, spr9_i, ← hj1_]; show _ ↔ _ ∧ (P_ f_.toNat (L_.getD i_.toNat 0) == fa_ i_.toNat) = true; rw [gtD9 x1_, q24_]; exact ⟨fun z9_ => ⟨by omega, by omega⟩, fun z9_ => by omega⟩)
              · rfl
              · omega
            · have cx18_ : ¬ (vx10_ ≠ (S_.2.2.1 291 0 (1280 * c_ + i_).toNat)) := of_decide_eq_false cx18_
              refine sm_T_go 3 (c1 := (74, [some (.inr (.inr (some (13, 0)))), some (.inl c_), some (.inl f_), some (.inl 0), some (.inl 1), some (.inl i_), some (.inl vx10_)], [], S_)) rfl ?_
              refine sm_T_inc (a := 5) (z := 1) (v := i_) (w := i_ + 1) rfl rfl (by omega) (by omega) (by omega) ?_ -- pc_ 74
              refine sm_T_go 1 (c1 := (8, [some (.inr (.inr (some (13, 0)))), some (.inl c_), some (.inl f_), some (.inl 0), some (.inl 1), some (.inl (i_ + 1)), some (.inl vx10_)], [], S_)) rfl ?_
              refine sm_T_wk [some (.inr (.inr (some (13, 0)))), some (.inl c_), some (.inl f_), some (.inl 0), some (.inl 1), some (.inl (i_ + 1)), none] (by exact ⟨rfl, rfl, rfl, rfl, rfl, rfl, trivial⟩) ?_
              refine ih_ 0 1 (i_ + 1) S_ hI_ hF_ ⟨?_, ?_, ?_, ?_, trivial⟩ ?_
              · omega
              · (rw [T9_, y24_]; split <;> exact ⟨fun z9_ => by omega, fun z9_ => by omega⟩)
              · (rw [T9_, spr9_i, ← hj1_]; show _ ↔ _ ∧ (P_ f_.toNat (L_.getD i_.toNat 0) == fa_ i_.toNat) = true; rw [gtD9 x1_, q24_]; exact ⟨fun z9_ => ⟨by omega, by omega⟩, fun z9_ => by omega⟩)
              · rfl
              · omega
        · have cx15_ : ¬ (vx10_ = 0) := of_decide_eq_false cx15_
          refine sm_T_go 4 (c1 := (46, [some (.inr (.inr (some (13, 0)))), some (.inl c_), some (.inl f_), some (.inl 1), some (.inl ju_), some (.inl i_), some (.inl vx10_)], [.inl ju_], S_)) rfl ?_
          refine sm_T_b0 (a := 0) (z := 25) rfl (fun cx19_ => ?_) (fun cx19_ => ?_)
          · have cx19_ : ju_ = 0 := of_decide_eq_true cx19_
            refine sm_T_go 2 (c1 := (74, [some (.inr (.inr (some (13, 0)))), some (.inl c_), some (.inl f_), some (.inl 1), some (.inl 0), some (.inl i_), some (.inl vx10_)], [], S_)) rfl ?_
            refine sm_T_inc (a := 5) (z := 1) (v := i_) (w := i_ + 1) rfl rfl (by omega) (by omega) (by omega) ?_ -- pc_ 74
            refine sm_T_go 1 (c1 := (8, [some (.inr (.inr (some (13, 0)))), some (.inl c_), some (.inl f_), some (.inl 1), some (.inl 0), some (.inl (i_ + 1)), some (.inl vx10_)], [], S_)) rfl ?_
            refine sm_T_wk [some (.inr (.inr (some (13, 0)))), some (.inl c_), some (.inl f_), some (.inl 1), some (.inl 0), some (.inl (i_ + 1)), none] (by exact ⟨rfl, rfl, rfl, rfl, rfl, rfl, trivial⟩) ?_
            refine ih_ 1 0 (i_ + 1) S_ hI_ hF_ ⟨?_, ?_, ?_, ?_, trivial⟩ ?_
            · omega
            · (rw [T9_, y24_]; split <;> exact ⟨fun z9_ => by omega, fun z9_ => by omega⟩)
            · (rw [T9_, spr9_i, ← hj1_]; show _ ↔ _ ∧ (P_ f_.toNat (L_.getD i_.toNat 0) == fa_ i_.toNat) = true; rw [gtD9 x1_, q24_]; exact ⟨fun z9_ => ⟨by omega, by omega⟩, fun z9_ => by omega⟩)
            · rfl
            · omega
          · have cx19_ : ¬ (ju_ = 0) := of_decide_eq_false cx19_
            refine sm_T_go 5 (c1 := (59, [some (.inr (.inr (some (13, 0)))), some (.inl c_), some (.inl f_), some (.inl 1), some (.inl ju_), some (.inl i_), some (.inl vx10_)], [.inl c_, .inl 1280, .inr (.inr (some (291, 0))), .inl vx10_], S_)) rfl ?_
            refine sm_T_bin (w := 1280 * c_) rfl (bi_mul (by omega) (by omega) (by omega)) ?_ -- pc_ 59
            refine sm_T_go 1 (c1 := (62, [some (.inr (.inr (some (13, 0)))), some (.inl c_), some (.inl f_), some (.inl 1), some (.inl ju_), some (.inl i_), some (.inl vx10_)], [.inl i_, .inl (1280 * c_), .inr (.inr (some (291, 0))), .inl vx10_], S_)) rfl ?_
            refine sm_T_bin (w := 1280 * c_ + i_) rfl (bi_add (by omega) (by omega) (by omega)) ?_ -- pc_ 62
            refine sm_T_zald (n := 5120) rfl rfl (by omega) (by omega) ?_
            have bx20_ : 0 ≤ S_.2.2.1 291 0 (1280 * c_ + i_).toNat ∧ S_.2.2.1 291 0 (1280 * c_ + i_).toNat ≤ 1 := hI_.2 291 0 _
            refine sm_T_br (a := 1) (z := 7) rfl (fun cx21_ => ?_) (fun cx21_ => ?_)
            · have cx21_ : vx10_ ≠ (S_.2.2.1 291 0 (1280 * c_ + i_).toNat) := of_decide_eq_true cx21_
              refine sm_T_go 2 (c1 := (74, [some (.inr (.inr (some (13, 0)))), some (.inl c_), some (.inl f_), some (.inl 1), some (.inl 0), some (.inl i_), some (.inl vx10_)], [], S_)) rfl ?_
              refine sm_T_inc (a := 5) (z := 1) (v := i_) (w := i_ + 1) rfl rfl (by omega) (by omega) (by omega) ?_ -- pc_ 74
              refine sm_T_go 1 (c1 := (8, [some (.inr (.inr (some (13, 0)))), some (.inl c_), some (.inl f_), some (.inl 1), some (.inl 0), some (.inl (i_ + 1)), some (.inl vx10_)], [], S_)) rfl ?_
              refine sm_T_wk [some (.inr (.inr (some (13, 0)))), some (.inl c_), some (.inl f_), some (.inl 1), some (.inl 0), some (.inl (i_ + 1)), none] (by exact ⟨rfl, rfl, rfl, rfl, rfl, rfl, trivial⟩) ?_
              refine ih_ 1 0 (i_ + 1) S_ hI_ hF_ ⟨?_, ?_, ?_, ?_, trivial⟩ ?_
              · omega
              · (rw [T9_, y24_]; split <;> exact ⟨fun z9_ => by omega, fun z9_ => by omega⟩)
              · (rw [T9_, spr9_i, ← hj1_]; show _ ↔ _ ∧ (P_ f_.toNat (L_.getD i_.toNat 0) == fa_ i_.toNat) = true; rw [gtD9 x1_, q24_]; exact ⟨fun z9_ => ⟨by omega, by omega⟩, fun z9_ => by omega⟩)
              · rfl
              · omega
            · have cx21_ : ¬ (vx10_ ≠ (S_.2.2.1 291 0 (1280 * c_ + i_).toNat)) := of_decide_eq_false cx21_
              refine sm_T_go 3 (c1 := (74, [some (.inr (.inr (some (13, 0)))), some (.inl c_), some (.inl f_), some (.inl 1), some (.inl 1), some (.inl i_), some (.inl vx10_)], [], S_)) rfl ?_
              refine sm_T_inc (a := 5) (z := 1) (v := i_) (w := i_ + 1) rfl rfl (by omega) (by omega) (by omega) ?_ -- pc_ 74
              refine sm_T_go 1 (c1 := (8, [some (.inr (.inr (some (13, 0)))), some (.inl c_), some (.inl f_), some (.inl 1), some (.inl 1), some (.inl (i_ + 1)), some (.inl vx10_)], [], S_)) rfl ?_
              refine sm_T_wk [some (.inr (.inr (some (13, 0)))), some (.inl c_), some (.inl f_), some (.inl 1), some (.inl 1), some (.inl (i_ + 1)), none] (by exact ⟨rfl, rfl, rfl, rfl, rfl, rfl, trivial⟩) ?_
              refine ih_ 1 1 (i_ + 1) S_ hI_ hF_ ⟨?_, ?_, ?_, ?_, trivial⟩ ?_
              · omega
              · (rw [T9_, y24_]; split <;> exact ⟨fun z9_ => by omega, fun z9_ => by omega⟩)
              · (rw [T9_, spr9_i, ← hj1_]; show _ ↔ _ ∧ (P_ f_.toNat (L_.getD i_.toNat 0) == fa_ i_.toNat) = true; rw [gtD9 x1_, q24_]; exact ⟨fun z9_ => ⟨by omega, by omega⟩, fun z9_ => by omega⟩)
              · rfl
              · omega
set_option maxHeartbeats 400000 in
set_option maxRecDepth 20000 in
theorem vc_532n {sc_ : Nat × (Nat → Int)} (c_ : Int) (f_ : Int) (P_ : Nat → Nat → Bool) (L_ : List Nat) (fa_ : Nat → Bool) (S0_ : sm_S) (hI_ : gi S0_) (hc_ : 0 ≤ c_ ∧ c_ ≤ 3) (hf_ : 0 ≤ f_ ∧ f_ < fco c_ S0_ ∧ f_ ≤ 1279) (hL_ : rlt9 c_ S0_ P_ L_) (hfa_ : ∀ k9_ : Nat, (k9_ : Int) < S0_.2.2.1 289 0 c_.toNat → fa_ k9_ = decide (S0_.2.2.1 291 0 (1280 * c_.toNat + k9_) ≠ 0)) : sm_T (mt_P sc_) 1 532 (0, [some (.inr (.inr (some (13, 0)))), some (.inl c_), some (.inl f_), none, none, none, none], [], S0_) (fun ro9_ => ∃ u_ S1_, ro9_ = (.inl u_, S1_, 0) ∧ vq_532n c_ f_ P_ L_ fa_ S0_ u_ S1_) := by
  have hF_ : ai_fr (sx_W vw_532n) S0_ S0_ := ai_fr_rf
  have L9_ := hL_.1
  refine sm_T_go 6 (c1 := (8, [some (.inr (.inr (some (13, 0)))), some (.inl c_), some (.inl f_), some (.inl 0), some (.inl 1), some (.inl 0), none], [], S0_)) rfl ?_
  refine (vl_532n c_ f_ P_ L_ fa_ S0_ hc_ hf_ hL_ hfa_ _) 0 1 0 S0_ hI_ hF_ ⟨?_, ?_, ?_, ?_, trivial⟩ (Nat.lt_succ_self _)
  · omega
  · (rw [show (0 : Int).toNat = 0 from rfl, List.take_zero]; exact ⟨fun z9_ => absurd z9_ (by decide), fun z9_ => absurd z9_ (Nat.lt_irrefl 0)⟩)
  · exact ⟨fun _ => rfl, fun _ => rfl⟩
  · rfl
/-! M_.suspect -/
def vw_533t : sx_Wl := ([(13, 0)], [], [])
def vq_533t (a1_ : Int) (a2_ : Int) (P_ : Nat → Nat → Bool) (L_ : List Nat) (fa_ : Nat → Bool) (S0_ : sm_S) (u_ : Option sm_V) (S1_ : sm_S) : Prop := ∃ v_ : Int, u_ = some (.inl v_) ∧ gi S1_ ∧ ai_fr (sx_W vw_533t) S0_ S1_ ∧ (((-2147483648) ≤ v_ ∧ v_ ≤ 2147483647) ∧ jR S1_ ∧ ((S1_.1 13 0 0 = 1 ∧ ¬ ora_suspect a1_ a2_ S0_) ∨ (S1_.1 13 0 0 = 2 ∧ ora_suspect a1_ a2_ S0_ ∧ ¬ okr_suspect a1_ a2_ S0_) ∨ (S1_.1 13 0 0 = 0 ∧ okr_suspect a1_ a2_ S0_ ∧ kth9 (sus9 P_ L_ fa_) (fco a1_ S0_).toNat a2_ v_)))
set_option maxHeartbeats 400000 in
set_option maxRecDepth 20000 in
theorem vl_533t {sc_ : Nat × (Nat → Int)} (a1_ : Int) (a2_ : Int) (P_ : Nat → Nat → Bool) (L_ : List Nat) (fa_ : Nat → Bool) (S0_ : sm_S) (ha1_ : (-2147483648) ≤ a1_ ∧ a1_ ≤ 2147483647) (ha2_ : (-2147483648) ≤ a2_ ∧ a2_ ≤ 2147483647) (hJ_ : jR S0_) (hL_ : okr_suspect a1_ a2_ S0_ → rlt9 a1_ S0_ P_ L_ ∧ ∀ k9_ : Nat, (k9_ : Int) < S0_.2.2.1 289 0 a1_.toNat → fa_ k9_ = decide (S0_.2.2.1 291 0 (1280 * a1_.toNat + k9_) ≠ 0)) : ∀ nn_ : Nat, (∀ (l_ : Int) (f_ : Int) (S_ : sm_S), gi S_ → ai_fr (sx_W vw_533t) S0_ S_ → ((0 ≤ a1_ ∧ a1_ < 4 ∧ 0 ≤ f_ ∧ f_ ≤ 1224 ∧ f_ ≤ fco a1_ S0_ ∧ 0 ≤ l_ ∧ S0_.2.2.1 223 0 a1_.toNat + S0_.2.2.1 224 0 a1_.toNat ≤ 12 ∧ l_ ≤ 2147483647) ∧ (S_.1 13 0 0 = 0) ∧ (okr_suspect a1_ a2_ S0_) ∧ (l_ = a2_ - ((sn9 (fun f9_ => if sus9 P_ L_ fa_ f9_ = true then 1 else 0) f_.toNat : Nat) : Int)) ∧ True) → ((5000 - f_).toNat) < nn_ → sm_T (mt_P sc_) 2 533 (49, [some (.inr (.inr (some (13, 0)))), some (.inl a1_), some (.inl a2_), some (.inl l_), some (.inl f_)], [], S_) (fun ro9_ => ∃ u_ S1_, ro9_ = (.inl u_, S1_, 0) ∧ vq_533t a1_ a2_ P_ L_ fa_ S0_ u_ S1_)) := by
  intro nn_
  induction nn_ with
  | zero => exact fun _ _ _ _ _ _ h_ => absurd h_ (Nat.not_lt_zero _)
  | succ nn_ ih_ =>
    rintro l_ f_ S_ hI_ hF_ ⟨h0_, hcd_, hok_, hl1_, -⟩ hm_
    have f223_ : S_.2.2.1 223 0 = S0_.2.2.1 223 0 := fr_arr hF_ rfl
    have f224_ : S_.2.2.1 224 0 = S0_.2.2.1 224 0 := fr_arr hF_ rfl
    have x223_ : S_.2.2.1 223 0 a1_.toNat = S0_.2.2.1 223 0 a1_.toNat := congrFun f223_ _
    have x224_ : S_.2.2.1 224 0 a1_.toNat = S0_.2.2.1 224 0 a1_.toNat := congrFun f224_ _
    have fb9_ := fco_b (c_ := a1_) hI_ (by omega)
    have kf_ : fco a1_ S_ = fco a1_ S0_ := fco_fr hF_
    have T9_ : (f_ + 1).toNat = f_.toNat + 1 := by omega
    have s9_ : sn9 (fun f9_ => if sus9 P_ L_ fa_ f9_ = true then 1 else 0) (f_.toNat + 1) = sn9 (fun f9_ => if sus9 P_ L_ fa_ f9_ = true then 1 else 0) f_.toNat + (if sus9 P_ L_ fa_ f_.toNat = true then 1 else 0) := rfl
    refine sm_T_go 3 (c1 := (53, [some (.inr (.inr (some (13, 0)))), some (.inl a1_), some (.inl a2_), some (.inl l_), some (.inl f_)], [.inl a1_, .inr (.inr (some (13, 0))), .inl f_], S_)) rfl ?_
    refine sm_T_cal (d1 := 1) (Q1 := vq_514 a1_ S_) rfl rfl (by decide) (vc_514 a1_ S_ hI_ (by omega) (by omega)) (fun u_ Sx1_ px4_ => ?_)
    obtain ⟨rfl, vx6_, rfl, px4_⟩ := px4_
    have e53_ := px4_
    refine sm_T_br (a := 3) (z := 29) rfl (fun cx7_ => ?_) (fun cx7_ => ?_)
    · have cx7_ : vx6_ ≤ f_ := of_decide_eq_true cx7_
      refine sm_T_go 1 (c1 := (86, [some (.inr (.inr (some (13, 0)))), some (.inl a1_), some (.inl a2_), some (.inl l_), some (.inl f_)], [.inl (-1)], S_)) rfl ?_
      refine sm_T_ri rfl ⟨_, _, rfl, _, rfl, hI_, hF_, ?_⟩
      refine ⟨⟨by omega, by omega⟩, jR_fr hJ_ hI_ hF_, Or.inr (Or.inr ⟨hcd_, hok_, Or.inl ⟨rfl, ?_⟩⟩)⟩
      rw [show (fco a1_ S0_).toNat = f_.toNat by omega]
      omega
    · have cx7_ : ¬ (vx6_ ≤ f_) := of_decide_eq_false cx7_
      refine sm_T_go 3 (c1 := (63, [some (.inr (.inr (some (13, 0)))), some (.inl a1_), some (.inl a2_), some (.inl l_), some (.inl f_)], [.inl f_, .inl a1_, .inr (.inr (some (13, 0)))], S_)) rfl ?_
      refine sm_T_cal (d1 := 1) (Q1 := vq_532n a1_ f_ P_ L_ fa_ S_) rfl rfl (by decide) (vc_532n a1_ f_ P_ L_ fa_ S_ hI_ (by omega) (by omega) (by exact rlt_fr (hL_ hok_).1 hF_) (by (rw [fr_arr (t := 289) (i := 0) hF_ rfl, fr_arr (t := 291) (i := 0) hF_ rfl]; exact (hL_ hok_).2))) (fun u_ Sx8_ px11_ => ?_)
      obtain ⟨rfl, vx13_, rfl, px11_⟩ := px11_
      have e63_ := (px11_).1
      have f63_ := (px11_).2
      refine sm_T_b0 (a := 0) (z := 13) rfl (fun cx14_ => ?_) (fun cx14_ => ?_)
      · have cx14_ : vx13_ = 0 := of_decide_eq_true cx14_
        refine sm_T_inc (a := 4) (z := 1) (v := f_) (w := f_ + 1) rfl rfl (by omega) (by omega) (by omega) ?_ -- pc_ 79
        refine sm_T_go 1 (c1 := (49, [some (.inr (.inr (some (13, 0)))), some (.inl a1_), some (.inl a2_), some (.inl l_), some (.inl (f_ + 1))], [], S_)) rfl ?_
        refine ih_ l_ (f_ + 1) S_ hI_ hF_ ⟨?_, ?_, ?_, ?_, trivial⟩ ?_
        · omega
        · exact hcd_
        · exact hok_
        · (rw [T9_, s9_, f63_]; simp only [decide_eq_true_eq]; split <;> (push_cast; omega))
        · omega
      · have cx14_ : ¬ (vx13_ = 0) := of_decide_eq_false cx14_
        refine sm_T_go 1 (c1 := (70, [some (.inr (.inr (some (13, 0)))), some (.inl a1_), some (.inl a2_), some (.inl l_), some (.inl f_)], [.inl l_], S_)) rfl ?_
        refine sm_T_b0 (a := 1) (z := 6) rfl (fun cx15_ => ?_) (fun cx15_ => ?_)
        · have cx15_ : l_ ≠ 0 := of_decide_eq_true cx15_
          refine sm_T_inc (a := 3) (z := (-1)) (v := l_) (w := l_ - 1) rfl rfl (by omega) (by omega) (by omega) ?_ -- pc_ 76
          refine sm_T_inc (a := 4) (z := 1) (v := f_) (w := f_ + 1) rfl rfl (by omega) (by omega) (by omega) ?_ -- pc_ 79
          refine sm_T_go 1 (c1 := (49, [some (.inr (.inr (some (13, 0)))), some (.inl a1_), some (.inl a2_), some (.inl (l_ - 1)), some (.inl (f_ + 1))], [], S_)) rfl ?_
          refine ih_ (l_ - 1) (f_ + 1) S_ hI_ hF_ ⟨?_, ?_, ?_, ?_, trivial⟩ ?_
          · omega
          · exact hcd_
          · exact hok_
          · (rw [T9_, s9_, f63_]; simp only [decide_eq_true_eq]; split <;> (push_cast; omega))
          · omega
        · have cx15_ : ¬ (l_ ≠ 0) := of_decide_eq_false cx15_
          refine sm_T_go 1 (c1 := (75, [some (.inr (.inr (some (13, 0)))), some (.inl a1_), some (.inl a2_), some (.inl l_), some (.inl f_)], [.inl f_], S_)) rfl ?_
          refine sm_T_ri rfl ⟨_, _, rfl, _, rfl, hI_, hF_, ?_⟩
          refine ⟨⟨by omega, by omega⟩, jR_fr hJ_ hI_ hF_, Or.inr (Or.inr ⟨hcd_, hok_, Or.inr ⟨f_.toNat, by omega, by omega, by (rw [f63_]; exact decide_eq_true (by omega)), by omega⟩⟩)⟩
set_option maxHeartbeats 400000 in
set_option maxRecDepth 20000 in
theorem vc_533t {sc_ : Nat × (Nat → Int)} (a1_ : Int) (a2_ : Int) (P_ : Nat → Nat → Bool) (L_ : List Nat) (fa_ : Nat → Bool) (S0_ : sm_S) (hI_ : gi S0_) (ha1_ : (-2147483648) ≤ a1_ ∧ a1_ ≤ 2147483647) (ha2_ : (-2147483648) ≤ a2_ ∧ a2_ ≤ 2147483647) (hJ_ : jR S0_) (hL_ : okr_suspect a1_ a2_ S0_ → rlt9 a1_ S0_ P_ L_ ∧ ∀ k9_ : Nat, (k9_ : Int) < S0_.2.2.1 289 0 a1_.toNat → fa_ k9_ = decide (S0_.2.2.1 291 0 (1280 * a1_.toNat + k9_) ≠ 0)) : sm_T (mt_P sc_) 2 533 (0, [some (.inr (.inr (some (13, 0)))), some (.inl a1_), some (.inl a2_), none, none], [], S0_) (fun ro9_ => ∃ u_ S1_, ro9_ = (.inl u_, S1_, 0) ∧ vq_533t a1_ a2_ P_ L_ fa_ S0_ u_ S1_) := by
  have hF_ : ai_fr (sx_W vw_533t) S0_ S0_ := ai_fr_rf
  refine sm_T_go 3 (c1 := (3, [some (.inr (.inr (some (13, 0)))), some (.inl a1_), some (.inl a2_), none, none], [.inl a1_, .inr (.inr (some (13, 0))), .inr (.inr (some (13, 0)))], S0_)) rfl ?_
  refine sm_T_cal (d1 := 0) (Q1 := vq_371 a1_ S0_) rfl rfl (by decide) (vc_371 a1_ S0_ hI_ (by omega)) (fun u_ Sx1_ px4_ => ?_)
  obtain ⟨rfl, vx6_, rfl, px4_⟩ := px4_
  have d3_ := px4_
  refine sm_T_b0 (a := 0) (z := 7) rfl (fun cx7_ => ?_) (fun cx7_ => ?_)
  · have cx7_ : vx6_ = 0 := of_decide_eq_true cx7_
    have hIx8_ : gi (sm_pI S0_ 13 0 0 1) := gi_pI hI_ (show 0 ≤ 1 ∧ 1 ≤ 4 from ⟨by omega, by omega⟩)
    have hFx9_ : ai_fr (sx_W vw_533t) S0_ (sm_pI S0_ 13 0 0 1) := ai_fr_tr hF_ (ai_fr_pI rfl)
    refine sm_T_go 7 (c1 := (43, [some (.inr (.inr (some (13, 0)))), some (.inl a1_), some (.inl a2_), none, none], [.inl 0], sm_pI S0_ 13 0 0 1)) rfl ?_
    refine sm_T_ri rfl ⟨_, _, rfl, _, rfl, hIx8_, hFx9_, ?_⟩
    refine ⟨⟨by omega, by omega⟩, jR_fr hJ_ hIx8_ hFx9_, ?_⟩
    first | exact Or.inl ⟨rf_eq, by (unfold ora_suspect; omega)⟩ | exact Or.inr (Or.inl ⟨rf_eq, by (unfold ora_suspect; omega), by (unfold okr_suspect ora_suspect; omega)⟩)
  · have cx7_ : ¬ (vx6_ = 0) := of_decide_eq_false cx7_
    have K9_ : cRk a1_ S0_ := hJ_.2 a1_ (by omega) (by omega) (by omega)
    obtain ⟨K1_, K2_, K3_, K4_, K5_, K6_, K7_⟩ := K9_
    have fb9_ := fco_b hI_ K1_
    refine sm_T_go 1 (c1 := (10, [some (.inr (.inr (some (13, 0)))), some (.inl a1_), some (.inl a2_), none, none], [.inl a2_, .inr (.inr (some (13, 0)))], S0_)) rfl ?_
    refine sm_T_b0 (a := 3) (z := 7) rfl (fun cx10_ => ?_) (fun cx10_ => ?_)
    · have cx10_ : 0 ≤ a2_ := of_decide_eq_true cx10_
      refine sm_T_go 3 (c1 := (22, [some (.inr (.inr (some (13, 0)))), some (.inl a1_), some (.inl a2_), none, none], [.inl a1_, .inr (.inr (some (289, 0))), .inr (.inr (some (13, 0)))], S0_)) rfl ?_
      refine sm_T_iald (n := 4) rfl rfl (by omega) (by omega) ?_
      have bx11_ : (-1) ≤ S0_.2.2.1 289 0 a1_.toNat ∧ S0_.2.2.1 289 0 a1_.toNat ≤ 1224 := hI_.2 289 0 _
      refine sm_T_go 1 (c1 := (24, [some (.inr (.inr (some (13, 0)))), some (.inl a1_), some (.inl a2_), none, none], [.inl (-1), .inl (S0_.2.2.1 289 0 a1_.toNat), .inr (.inr (some (13, 0)))], S0_)) rfl ?_
      refine sm_T_br (a := 1) (z := 7) rfl (fun cx12_ => ?_) (fun cx12_ => ?_)
      · have cx12_ : (S0_.2.2.1 289 0 a1_.toNat) ≠ (-1) := of_decide_eq_true cx12_
        have hIx13_ : gi (sm_pI S0_ 13 0 0 0) := gi_pI hI_ (show 0 ≤ 0 ∧ 0 ≤ 4 from ⟨by omega, by omega⟩)
        have hFx14_ : ai_fr (sx_W vw_533t) S0_ (sm_pI S0_ 13 0 0 0) := ai_fr_tr hF_ (ai_fr_pI rfl)
        refine sm_T_go 9 (c1 := (49, [some (.inr (.inr (some (13, 0)))), some (.inl a1_), some (.inl a2_), some (.inl a2_), some (.inl 0)], [], sm_pI S0_ 13 0 0 0)) rfl ?_
        refine (vl_533t a1_ a2_ P_ L_ fa_ S0_ ha1_ ha2_ hJ_ hL_ _) a2_ 0 (sm_pI S0_ 13 0 0 0) hIx13_ hFx14_ ⟨?_, ?_, ?_, ?_, trivial⟩ (Nat.lt_succ_self _)
        · omega
        · exact rf_eq
        · (unfold okr_suspect ora_suspect; omega)
        · (rw [show (0 : Int).toNat = 0 from rfl]; show a2_ = a2_ - ((0 : Nat) : Int); omega)
      · have cx12_ : ¬ ((S0_.2.2.1 289 0 a1_.toNat) ≠ (-1)) := of_decide_eq_false cx12_
        have hIx15_ : gi (sm_pI S0_ 13 0 0 2) := gi_pI hI_ (show 0 ≤ 2 ∧ 2 ≤ 4 from ⟨by omega, by omega⟩)
        have hFx16_ : ai_fr (sx_W vw_533t) S0_ (sm_pI S0_ 13 0 0 2) := ai_fr_tr hF_ (ai_fr_pI rfl)
        refine sm_T_go 7 (c1 := (43, [some (.inr (.inr (some (13, 0)))), some (.inl a1_), some (.inl a2_), none, none], [.inl 0], sm_pI S0_ 13 0 0 2)) rfl ?_
        refine sm_T_ri rfl ⟨_, _, rfl, _, rfl, hIx15_, hFx16_, ?_⟩
        refine ⟨⟨by omega, by omega⟩, jR_fr hJ_ hIx15_ hFx16_, ?_⟩
        first | exact Or.inl ⟨rf_eq, by (unfold ora_suspect; omega)⟩ | exact Or.inr (Or.inl ⟨rf_eq, by (unfold ora_suspect; omega), by (unfold okr_suspect ora_suspect; omega)⟩)
    · have cx10_ : ¬ (0 ≤ a2_) := of_decide_eq_false cx10_
      have hIx17_ : gi (sm_pI S0_ 13 0 0 1) := gi_pI hI_ (show 0 ≤ 1 ∧ 1 ≤ 4 from ⟨by omega, by omega⟩)
      have hFx18_ : ai_fr (sx_W vw_533t) S0_ (sm_pI S0_ 13 0 0 1) := ai_fr_tr hF_ (ai_fr_pI rfl)
      refine sm_T_go 7 (c1 := (43, [some (.inr (.inr (some (13, 0)))), some (.inl a1_), some (.inl a2_), none, none], [.inl 0], sm_pI S0_ 13 0 0 1)) rfl ?_
      refine sm_T_ri rfl ⟨_, _, rfl, _, rfl, hIx17_, hFx18_, ?_⟩
      refine ⟨⟨by omega, by omega⟩, jR_fr hJ_ hIx17_ hFx18_, ?_⟩
      first | exact Or.inl ⟨rf_eq, by (unfold ora_suspect; omega)⟩ | exact Or.inr (Or.inl ⟨rf_eq, by (unfold ora_suspect; omega), by (unfold okr_suspect ora_suspect; omega)⟩)
/-! M_.tests -/
def vw_528t : sx_Wl := ([(13, 0), (13, 221), (13, 222)], [238, 289, 290, 291, 292, 293, 294], [])
def vq_528t (a1_ : Int) (P_ : Nat → Nat → Bool) (le_ : Nat → Int) (S0_ : sm_S) (u_ : Option sm_V) (S1_ : sm_S) : Prop := ∃ v_ : Int, u_ = some (.inl v_) ∧ gi S1_ ∧ ai_fr (sx_W vw_528t) S0_ S1_ ∧ (((-2147483648) ≤ v_ ∧ v_ ≤ 2147483647) ∧ jR S1_ ∧ rsx a1_ S0_ S1_ ∧ lsk S1_ ∧ ((S1_.1 13 0 0 = 1 ∧ ¬ okr_tests a1_ S0_ ∧ S1_.2.2.1 = S0_.2.2.1 ∧ S1_.2.2.2 = S0_.2.2.2) ∨ (S1_.1 13 0 0 = 0 ∧ okr_tests a1_ S0_ ∧ rlt9 a1_ S1_ P_ (tst9 P_ le_ (fco a1_ S0_).toNat) ∧ v_ = S1_.2.2.1 289 0 a1_.toNat ∧ ∀ k9_ : Nat, (k9_ : Int) < S1_.2.2.1 289 0 a1_.toNat → S1_.2.2.1 291 0 (1280 * a1_.toNat + k9_) = 0)))
set_option maxHeartbeats 3000000 in
set_option maxRecDepth 20000 in
theorem vl_528t {sc_ : Nat × (Nat → Int)} (a1_ : Int) (P_ : Nat → Nat → Bool) (le_ : Nat → Int) (S0_ : sm_S) (ha1_ : (-2147483648) ≤ a1_ ∧ a1_ ≤ 2147483647) (hJ_ : jR S0_) (hk_ : lsk S0_) (hU_ : okr_tests a1_ S0_ → rshU a1_ S0_ P_) (hle_ : okr_tests a1_ S0_ → rleU a1_ S0_ le_) : ∀ nn_ : Nat, (∀ (f_ : Int) (S_ : sm_S), gi S_ → ai_fr (sx_W vw_528t) S0_ S_ → ((0 ≤ a1_ ∧ a1_ < 4 ∧ 0 ≤ f_ ∧ f_ ≤ 1224 ∧ f_ ≤ fco a1_ S0_ ∧ 0 ≤ S_.2.2.1 289 0 a1_.toNat ∧ S_.2.2.1 289 0 a1_.toNat ≤ f_) ∧ (S0_.2.2.1 222 0 a1_.toNat = 1) ∧ (rlt9 a1_ S_ P_ (bst9 P_ le_ f_.toNat)) ∧ (S_.1 13 0 0 = 0) ∧ (rsx a1_ S0_ S_) ∧ (lsk S_) ∧ (∀ k9_ : Nat, (k9_ : Int) < S_.2.2.1 289 0 a1_.toNat → S_.2.2.1 291 0 (1280 * a1_.toNat + k9_) = 0) ∧ True) → (90000000 + (5000 - f_).toNat) < nn_ → sm_T (mt_P sc_) 5 528 (35, [some (.inr (.inr (some (13, 0)))), some (.inl a1_), some (.inl f_), none, none], [], S_) (fun ro9_ => ∃ u_ S1_, ro9_ = (.inl u_, S1_, 0) ∧ vq_528t a1_ P_ le_ S0_ u_ S1_)) ∧ (∀ (i_ : Int) (S_ : sm_S), gi S_ → ai_fr (sx_W vw_528t) S0_ S_ → ((0 ≤ a1_ ∧ a1_ < 4 ∧ -1 ≤ i_ ∧ i_ < S_.2.2.1 289 0 a1_.toNat) ∧ (S0_.2.2.1 222 0 a1_.toNat = 1) ∧ (exr9 P_ (fco a1_ S0_).toNat a1_ (tst9 P_ le_ (fco a1_ S0_).toNat) S_ i_) ∧ (S_.1 13 0 0 = 0) ∧ (rsx a1_ S0_ S_) ∧ (lsk S_) ∧ (∀ k9_ : Nat, (k9_ : Int) < S_.2.2.1 289 0 a1_.toNat → S_.2.2.1 291 0 (1280 * a1_.toNat + k9_) = 0) ∧ True) → ((10000 * (i_ + 1) + 9000).toNat) < nn_ → sm_T (mt_P sc_) 5 528 (90, [some (.inr (.inr (some (13, 0)))), some (.inl a1_), some (.inl i_), none, none], [], S_) (fun ro9_ => ∃ u_ S1_, ro9_ = (.inl u_, S1_, 0) ∧ vq_528t a1_ P_ le_ S0_ u_ S1_)) ∧ (∀ (i_ : Int) (go_ : Int) (f_ : Int) (S_ : sm_S), gi S_ → ai_fr (sx_W vw_528t) S0_ S_ → ((0 ≤ a1_ ∧ a1_ < 4 ∧ 0 ≤ i_ ∧ i_ < S_.2.2.1 289 0 a1_.toNat ∧ 0 ≤ f_ ∧ f_ ≤ 1224 ∧ f_ ≤ fco a1_ S0_ ∧ 0 ≤ go_ ∧ go_ ≤ 1) ∧ (S0_.2.2.1 222 0 a1_.toNat = 1) ∧ (exg9 P_ (fco a1_ S0_).toNat a1_ (tst9 P_ le_ (fco a1_ S0_).toNat) S_ i_ go_ f_) ∧ (S_.1 13 0 0 = 0) ∧ (rsx a1_ S0_ S_) ∧ (lsk S_) ∧ (∀ k9_ : Nat, (k9_ : Int) < S_.2.2.1 289 0 a1_.toNat → S_.2.2.1 291 0 (1280 * a1_.toNat + k9_) = 0) ∧ True) → ((10000 * (i_ + 1) + 8000 - f_).toNat) < nn_ → sm_T (mt_P sc_) 5 528 (99, [some (.inr (.inr (some (13, 0)))), some (.inl a1_), some (.inl i_), some (.inl go_), some (.inl f_)], [], S_) (fun ro9_ => ∃ u_ S1_, ro9_ = (.inl u_, S1_, 0) ∧ vq_528t a1_ P_ le_ S0_ u_ S1_)) := by
  intro nn_
  induction nn_ with
  | zero => exact ⟨fun _ _ _ _ _ h_ => absurd h_ (Nat.not_lt_zero _), fun _ _ _ _ _ h_ => absurd h_ (Nat.not_lt_zero _), fun _ _ _ _ _ _ _ h_ => absurd h_ (Nat.not_lt_zero _)⟩
  | succ nn_ ih_ =>
    refine ⟨?_, ?_, ?_⟩
    · rintro f_ S_ hI_ hF_ ⟨h0_, ht_, hls_, hcd_, hsx_, hlk_, h91_, -⟩ hm_
      have f222_ : S_.2.2.1 222 0 = S0_.2.2.1 222 0 := fr_arr hF_ rfl
      have f223_ : S_.2.2.1 223 0 = S0_.2.2.1 223 0 := fr_arr hF_ rfl
      have f224_ : S_.2.2.1 224 0 = S0_.2.2.1 224 0 := fr_arr hF_ rfl
      have f225_ : S_.2.2.1 225 0 = S0_.2.2.1 225 0 := fr_arr hF_ rfl
      have f228_ : S_.2.2.1 228 0 = S0_.2.2.1 228 0 := fr_arr hF_ rfl
      have x222_ : S_.2.2.1 222 0 a1_.toNat = S0_.2.2.1 222 0 a1_.toNat := congrFun f222_ _
      have x223_ : S_.2.2.1 223 0 a1_.toNat = S0_.2.2.1 223 0 a1_.toNat := congrFun f223_ _
      have x224_ : S_.2.2.1 224 0 a1_.toNat = S0_.2.2.1 224 0 a1_.toNat := congrFun f224_ _
      have x225_ : S_.2.2.1 225 0 a1_.toNat = S0_.2.2.1 225 0 a1_.toNat := congrFun f225_ _
      have x228_ : S_.2.2.1 228 0 a1_.toNat = S0_.2.2.1 228 0 a1_.toNat := congrFun f228_ _
      have K9_ : cRk a1_ S0_ := hJ_.2 a1_ (by omega) (by omega) ht_
      obtain ⟨K1_, K2_, K3_, K4_, K5_, K6_, K7_⟩ := K9_
      have k4_ := cgt_fr (c_ := a1_) (by omega) hI_ K4_ hF_
      have k5_ := con_fr (c_ := a1_) (by omega) hI_ K5_ hF_
      have kf_ : fco a1_ S_ = fco a1_ S0_ := fco_fr hF_
      have fb9_ := fco_b (c_ := a1_) hI_ (by omega)
      have q9_ : (-1) ≤ S_.2.2.1 289 0 a1_.toNat ∧ S_.2.2.1 289 0 a1_.toNat ≤ 1224 := hI_.2 289 0 _
      have hU9_ := rshU_fr (hU_ ⟨by omega, by omega, ht_⟩) hF_
      have hb9_ : ∀ c9_ : Int, 0 ≤ c9_ → c9_ < 4 → S_.2.2.1 222 0 c9_.toNat = 1 → fco c9_ S_ ≤ 1280 := fun c9_ q1_ q2_ q3_ => by (rw [fr_arr (t := 222) (i := 0) hF_ (rwf_0 (w_ := vw_528t) rfl rfl)] at q3_; have y9_ := (hJ_.2 c9_ q1_ q2_ q3_).1; have x9_ := fco_b (c_ := c9_) hI_ (by (rw [fr_arr (t := 223) (i := 0) hF_ (rwf_0 (w_ := vw_528t) rfl rfl), fr_arr (t := 224) (i := 0) hF_ (rwf_0 (w_ := vw_528t) rfl rfl)]; exact y9_)); omega)
      have T9_ : (f_ + 1).toNat = f_.toNat + 1 := by omega
      refine sm_T_go 3 (c1 := (38, [some (.inr (.inr (some (13, 0)))), some (.inl a1_), some (.inl f_), none, none], [.inl a1_, .inr (.inr (some (13, 0))), .inl f_], S_)) rfl ?_
      refine sm_T_cal (d1 := 1) (Q1 := vq_514 a1_ S_) rfl rfl (by decide) (vc_514 a1_ S_ hI_ (by omega) (by omega)) (fun u_ Sx1_ px4_ => ?_)
      obtain ⟨rfl, vx6_, rfl, px4_⟩ := px4_
      have e38_ := px4_
      refine sm_T_br (a := 3) (z := 40) rfl (fun cx7_ => ?_) (fun cx7_ => ?_)
      · have cx7_ : vx6_ ≤ f_ := of_decide_eq_true cx7_
        refine sm_T_go 3 (c1 := (86, [some (.inr (.inr (some (13, 0)))), some (.inl a1_), some (.inl f_), none, none], [.inl a1_, .inr (.inr (some (289, 0)))], S_)) rfl ?_
        refine sm_T_iald (n := 4) rfl rfl (by omega) (by omega) ?_
        have bx8_ : (-1) ≤ S_.2.2.1 289 0 a1_.toNat ∧ S_.2.2.1 289 0 a1_.toNat ≤ 1224 := hI_.2 289 0 _
        refine sm_T_go 1 (c1 := (88, [some (.inr (.inr (some (13, 0)))), some (.inl a1_), some (.inl f_), none, none], [.inl 1, .inl (S_.2.2.1 289 0 a1_.toNat)], S_)) rfl ?_
        refine sm_T_bin (w := (S_.2.2.1 289 0 a1_.toNat) - 1) rfl (bi_sub (by omega) (by omega) (by omega)) ?_ -- pc_ 88
        refine sm_T_go 1 (c1 := (90, [some (.inr (.inr (some (13, 0)))), some (.inl a1_), some (.inl ((S_.2.2.1 289 0 a1_.toNat) - 1)), none, none], [], S_)) rfl ?_
        refine ih_.2.1 ((S_.2.2.1 289 0 a1_.toNat) - 1) S_ hI_ hF_ ⟨?_, ?_, ?_, ?_, ?_, ?_, ?_, trivial⟩ ?_
        · omega
        · exact ht_
        · exact ⟨bst9 P_ le_ f_.toNat, hls_, by (rw [show (S_.2.2.1 289 0 a1_.toNat - 1 + 1).toNat = (bst9 P_ le_ f_.toNat).length by (have y9_ := hls_.1; omega), show (fco a1_ S0_).toNat = f_.toNat by omega]; rfl)⟩
        · exact hcd_
        · exact hsx_
        · exact hlk_
        · exact h91_
        · omega
      · have cx7_ : ¬ (vx6_ ≤ f_) := of_decide_eq_false cx7_
        refine sm_T_go 3 (c1 := (47, [some (.inr (.inr (some (13, 0)))), some (.inl a1_), some (.inl f_), none, none], [.inl f_, .inl a1_, .inr (.inr (some (13, 0)))], S_)) rfl ?_
        refine sm_T_cal (d1 := 1) (Q1 := vq_526n a1_ f_ P_ (bst9 P_ le_ f_.toNat) S_) rfl rfl (by decide) (vc_526n a1_ f_ P_ (bst9 P_ le_ f_.toNat) S_ hI_ (by omega) (by omega) (by exact fun _ => hls_) (by (intro q9_; exfalso; omega))) (fun u_ Sx9_ px12_ => ?_)
        obtain ⟨rfl, vx14_, rfl, px12_⟩ := px12_
        have e47_ := px12_
        refine sm_T_b0 (a := 1) (z := 12) rfl (fun cx15_ => ?_) (fun cx15_ => ?_)
        · have cx15_ : vx14_ ≠ 0 := of_decide_eq_true cx15_
          refine sm_T_go 5 (c1 := (75, [some (.inr (.inr (some (13, 0)))), some (.inl a1_), some (.inl f_), some (.inl (-1)), none], [], S_)) rfl ?_
          refine sm_T_inc (a := 2) (z := 1) (v := f_) (w := f_ + 1) rfl rfl (by omega) (by omega) (by omega) ?_ -- pc_ 75
          refine sm_T_go 1 (c1 := (35, [some (.inr (.inr (some (13, 0)))), some (.inl a1_), some (.inl (f_ + 1)), some (.inl (-1)), none], [], S_)) rfl ?_
          refine sm_T_wk [some (.inr (.inr (some (13, 0)))), some (.inl a1_), some (.inl (f_ + 1)), none, none] (by exact ⟨rfl, rfl, rfl, trivial⟩) ?_
          refine ih_.1 (f_ + 1) S_ hI_ hF_ ⟨?_, ?_, ?_, ?_, ?_, ?_, ?_, trivial⟩ ?_
          · first | omega | (have y9_ := e72_.2.2.2; omega)
          · exact ht_
          · first | (rw [T9_, bst9_0 (by (intro y9_; omega))]; first | exact hls_ | exact s56_) | (rw [T9_, bst9_1 ⟨by omega, by omega⟩, ← c56_]; exact e72_.1)
          · first | exact hcd_ | exact d56_ | exact d72_
          · first | exact hsx_ | exact x56_ | exact x72_
          · first | exact hlk_ | exact k56_ | exact k72_
          · first | exact h91_ | exact z56_ | exact z72_
          · omega
        · have cx15_ : ¬ (vx14_ ≠ 0) := of_decide_eq_false cx15_
          refine sm_T_go 3 (c1 := (56, [some (.inr (.inr (some (13, 0)))), some (.inl a1_), some (.inl f_), none, none], [.inl f_, .inl a1_, .inr (.inr (some (13, 0)))], S_)) rfl ?_
          refine sm_T_cal (d1 := 4) (Q1 := vq_520n a1_ f_ S_) rfl rfl (by decide) (vc_520n a1_ f_ S_ hI_ (by omega) (by omega) (by exact k4_) (by exact k5_) (by omega) (by exact hlk_ a1_ (by omega) (by omega) (by omega) f_ (by omega) (by omega))) (fun u_ Sx16_ px19_ => ?_)
          obtain ⟨vx21_, rfl, hIx17_, hFx18_, px19_⟩ := px19_
          have hFx20_ : ai_fr (sx_W vw_528t) S0_ Sx16_ := ai_fr_tr hF_ (fr_le hFx18_ rfl)
          have e56_ := px19_
          have c56_ : vx21_ = le_ f_.toNat := hle_ ⟨by omega, by omega, ht_⟩ f_.toNat vx21_ (by omega) (by (rw [show ((f_.toNat : Nat) : Int) = f_ by omega]; exact (rsl_fr hF_).mp e56_.2.1))
          have n56_ : Sx16_.2.2.1 289 0 a1_.toNat = S_.2.2.1 289 0 a1_.toNat := congrFun (fr_arr hFx18_ rfl) _
          have F56_ := hFx18_
          have k56_ := lsk_up hlk_ hFx18_ ⟨by omega, by omega⟩ ⟨by omega, by omega⟩ e56_.2.1 e56_.2.2.1 e56_.2.2.2 hb9_ (u_ := by omega)
          have s56_ := rlt_fr hls_ hFx18_
          have d56_ := (hFx18_.1 13 0 0 rfl).trans hcd_
          have z56_ : ∀ k9_ : Nat, (k9_ : Int) < Sx16_.2.2.1 289 0 a1_.toNat → Sx16_.2.2.1 291 0 (1280 * a1_.toNat + k9_) = 0 := by (rw [fr_arr (t := 289) (i := 0) hFx18_ rfl, fr_arr (t := 291) (i := 0) hFx18_ rfl]; exact h91_)
          have b56_ := rsl_b e56_.2.1
          have j56_ := cgt_fr (c_ := a1_) (by omega) hIx17_ k4_ hFx18_
          have l56_ := con_fr (c_ := a1_) (by omega) hIx17_ k5_ hFx18_
          have rb56_ : rB9 a1_ Sx16_ = rB9 a1_ S_ := rB_fr hFx18_
          have u56_ := rshU_fr hU9_ hFx18_
          have x56_ := rsx_tr hsx_ (rsx_fr hFx18_)
          have kf56_ : fco a1_ Sx16_ = fco a1_ S_ := fco_fr hFx18_
          have m223_ : Sx16_.2.2.1 223 0 a1_.toNat = S_.2.2.1 223 0 a1_.toNat := congrFun (fr_arr hFx18_ rfl) _
          have m224_ : Sx16_.2.2.1 224 0 a1_.toNat = S_.2.2.1 224 0 a1_.toNat := congrFun (fr_arr hFx18_ rfl) _
          refine sm_T_go 4 (c1 := (66, [some (.inr (.inr (some (13, 0)))), some (.inl a1_), some (.inl f_), some (.inl vx21_), none], [.inl (-1), .inl vx21_], Sx16_)) rfl ?_
          refine sm_T_br (a := 0) (z := 9) rfl (fun cx22_ => ?_) (fun cx22_ => ?_)
          · have cx22_ : vx21_ = (-1) := of_decide_eq_true cx22_
            refine sm_T_inc (a := 2) (z := 1) (v := f_) (w := f_ + 1) rfl rfl (by omega) (by omega) (by omega) ?_ -- pc_ 75
            refine sm_T_go 1 (c1 := (35, [some (.inr (.inr (some (13, 0)))), some (.inl a1_), some (.inl (f_ + 1)), some (.inl vx21_), none], [], Sx16_)) rfl ?_
            refine sm_T_wk [some (.inr (.inr (some (13, 0)))), some (.inl a1_), some (.inl (f_ + 1)), none, none] (by exact ⟨rfl, rfl, rfl, trivial⟩) ?_
            refine ih_.1 (f_ + 1) Sx16_ hIx17_ hFx20_ ⟨?_, ?_, ?_, ?_, ?_, ?_, ?_, trivial⟩ ?_
            · first | omega | (have y9_ := e72_.2.2.2; omega)
            · exact ht_
            · first | (rw [T9_, bst9_0 (by (intro y9_; omega))]; first | exact hls_ | exact s56_) | (rw [T9_, bst9_1 ⟨by omega, by omega⟩, ← c56_]; exact e72_.1)
            · first | exact hcd_ | exact d56_ | exact d72_
            · first | exact hsx_ | exact x56_ | exact x72_
            · first | exact hlk_ | exact k56_ | exact k72_
            · first | exact h91_ | exact z56_ | exact z72_
            · omega
          · have cx22_ : ¬ (vx21_ = (-1)) := of_decide_eq_false cx22_
            refine sm_T_go 3 (c1 := (72, [some (.inr (.inr (some (13, 0)))), some (.inl a1_), some (.inl f_), some (.inl vx21_), none], [.inl vx21_, .inl a1_, .inr (.inr (some (13, 0)))], Sx16_)) rfl ?_
            refine sm_T_cal (d1 := 3) (Q1 := vq_525n a1_ vx21_ P_ (bst9 P_ le_ f_.toNat) Sx16_) rfl rfl (by decide) (vc_525n a1_ vx21_ P_ (bst9 P_ le_ f_.toNat) Sx16_ hIx17_ (by omega) (by omega) (by exact j56_) (by exact l56_) (by (rw [rb56_]; omega)) (by omega) (by exact s56_) (by exact u56_)) (fun u_ Sx23_ px26_ => ?_)
            obtain ⟨rfl, hIx24_, hFx25_, px26_⟩ := px26_
            have hFx27_ : ai_fr (sx_W vw_528t) S0_ Sx23_ := ai_fr_tr hFx20_ (fr_le hFx25_ rfl)
            have e72_ := px26_
            have k72_ := lsk_fr k56_ hFx25_
            have d72_ := (hFx25_.1 13 0 0 rfl).trans d56_
            have x72_ := rsx_tr x56_ e72_.2.1
            have z72_ : ∀ k9_ : Nat, (k9_ : Int) < Sx23_.2.2.1 289 0 a1_.toNat → Sx23_.2.2.1 291 0 (1280 * a1_.toNat + k9_) = 0 := fun k9_ hk9_ => by (rw [e72_.2.2.1]; by_cases y9_ : k9_ = (S_.2.2.1 289 0 a1_.toNat).toNat; (rw [if_pos (by omega)]); (rw [if_neg (by omega)]; exact z56_ k9_ (by omega)))
            refine sm_T_inc (a := 2) (z := 1) (v := f_) (w := f_ + 1) rfl rfl (by omega) (by omega) (by omega) ?_ -- pc_ 75
            refine sm_T_go 1 (c1 := (35, [some (.inr (.inr (some (13, 0)))), some (.inl a1_), some (.inl (f_ + 1)), some (.inl vx21_), none], [], Sx23_)) rfl ?_
            refine sm_T_wk [some (.inr (.inr (some (13, 0)))), some (.inl a1_), some (.inl (f_ + 1)), none, none] (by exact ⟨rfl, rfl, rfl, trivial⟩) ?_
            refine ih_.1 (f_ + 1) Sx23_ hIx24_ hFx27_ ⟨?_, ?_, ?_, ?_, ?_, ?_, ?_, trivial⟩ ?_
            · first | omega | (have y9_ := e72_.2.2.2; omega)
            · exact ht_
            · first | (rw [T9_, bst9_0 (by (intro y9_; omega))]; first | exact hls_ | exact s56_) | (rw [T9_, bst9_1 ⟨by omega, by omega⟩, ← c56_]; exact e72_.1)
            · first | exact hcd_ | exact d56_ | exact d72_
            · first | exact hsx_ | exact x56_ | exact x72_
            · first | exact hlk_ | exact k56_ | exact k72_
            · first | exact h91_ | exact z56_ | exact z72_
            · omega
    · rintro i_ S_ hI_ hF_ ⟨h0_, ht_, hM_, hcd_, hsx_, hlk_, h91_, -⟩ hm_
      have f222_ : S_.2.2.1 222 0 = S0_.2.2.1 222 0 := fr_arr hF_ rfl
      have f223_ : S_.2.2.1 223 0 = S0_.2.2.1 223 0 := fr_arr hF_ rfl
      have f224_ : S_.2.2.1 224 0 = S0_.2.2.1 224 0 := fr_arr hF_ rfl
      have f225_ : S_.2.2.1 225 0 = S0_.2.2.1 225 0 := fr_arr hF_ rfl
      have f228_ : S_.2.2.1 228 0 = S0_.2.2.1 228 0 := fr_arr hF_ rfl
      have x222_ : S_.2.2.1 222 0 a1_.toNat = S0_.2.2.1 222 0 a1_.toNat := congrFun f222_ _
      have x223_ : S_.2.2.1 223 0 a1_.toNat = S0_.2.2.1 223 0 a1_.toNat := congrFun f223_ _
      have x224_ : S_.2.2.1 224 0 a1_.toNat = S0_.2.2.1 224 0 a1_.toNat := congrFun f224_ _
      have x225_ : S_.2.2.1 225 0 a1_.toNat = S0_.2.2.1 225 0 a1_.toNat := congrFun f225_ _
      have x228_ : S_.2.2.1 228 0 a1_.toNat = S0_.2.2.1 228 0 a1_.toNat := congrFun f228_ _
      have K9_ : cRk a1_ S0_ := hJ_.2 a1_ (by omega) (by omega) ht_
      obtain ⟨K1_, K2_, K3_, K4_, K5_, K6_, K7_⟩ := K9_
      have k4_ := cgt_fr (c_ := a1_) (by omega) hI_ K4_ hF_
      have k5_ := con_fr (c_ := a1_) (by omega) hI_ K5_ hF_
      have kf_ : fco a1_ S_ = fco a1_ S0_ := fco_fr hF_
      have fb9_ := fco_b (c_ := a1_) hI_ (by omega)
      have q9_ : (-1) ≤ S_.2.2.1 289 0 a1_.toNat ∧ S_.2.2.1 289 0 a1_.toNat ≤ 1224 := hI_.2 289 0 _
      have hU9_ := rshU_fr (hU_ ⟨by omega, by omega, ht_⟩) hF_
      have hb9_ : ∀ c9_ : Int, 0 ≤ c9_ → c9_ < 4 → S_.2.2.1 222 0 c9_.toNat = 1 → fco c9_ S_ ≤ 1280 := fun c9_ q1_ q2_ q3_ => by (rw [fr_arr (t := 222) (i := 0) hF_ (rwf_0 (w_ := vw_528t) rfl rfl)] at q3_; have y9_ := (hJ_.2 c9_ q1_ q2_ q3_).1; have x9_ := fco_b (c_ := c9_) hI_ (by (rw [fr_arr (t := 223) (i := 0) hF_ (rwf_0 (w_ := vw_528t) rfl rfl), fr_arr (t := 224) (i := 0) hF_ (rwf_0 (w_ := vw_528t) rfl rfl)]; exact y9_)); omega)
      refine sm_T_go 1 (c1 := (91, [some (.inr (.inr (some (13, 0)))), some (.inl a1_), some (.inl i_), none, none], [.inl i_], S_)) rfl ?_
      refine sm_T_b0 (a := 2) (z := 72) rfl (fun cx1_ => ?_) (fun cx1_ => ?_)
      · have cx1_ : i_ < 0 := of_decide_eq_true cx1_
        refine sm_T_go 3 (c1 := (168, [some (.inr (.inr (some (13, 0)))), some (.inl a1_), some (.inl i_), none, none], [.inl a1_, .inr (.inr (some (289, 0)))], S_)) rfl ?_
        refine sm_T_iald (n := 4) rfl rfl (by omega) (by omega) ?_
        have bx2_ : (-1) ≤ S_.2.2.1 289 0 a1_.toNat ∧ S_.2.2.1 289 0 a1_.toNat ≤ 1224 := hI_.2 289 0 _
        refine sm_T_ri rfl ⟨_, _, rfl, _, rfl, hI_, hF_, ?_⟩
        obtain ⟨M9_, m1_, m2_⟩ := hM_
        rw [show (i_ + 1).toNat = 0 by omega] at m2_
        have m2_ : M9_ = tst9 P_ le_ (fco a1_ S0_).toNat := m2_
        rw [m2_] at m1_
        refine ⟨⟨by omega, by omega⟩, jR_fr hJ_ hI_ hF_, hsx_, hlk_, Or.inr ⟨hcd_, ⟨by omega, by omega, ht_⟩, m1_, rfl, h91_⟩⟩
      · have cx1_ : ¬ (i_ < 0) := of_decide_eq_false cx1_
        refine sm_T_go 4 (c1 := (99, [some (.inr (.inr (some (13, 0)))), some (.inl a1_), some (.inl i_), some (.inl 1), some (.inl 0)], [], S_)) rfl ?_
        refine ih_.2.2 i_ 1 0 S_ hI_ hF_ ⟨?_, ?_, ?_, ?_, ?_, ?_, ?_, trivial⟩ ?_
        · omega
        · exact ht_
        · (obtain ⟨M9_, m1_, m2_⟩ := hM_; obtain ⟨x9_, x1_, -⟩ := rlt_k (k_ := i_) m1_ (by omega) (by omega); exact ⟨M9_, x9_, m1_, m2_, x1_, ⟨fun _ => rfl, fun _ => rfl⟩⟩)
        · exact hcd_
        · exact hsx_
        · exact hlk_
        · exact h91_
        · omega
    · rintro i_ go_ f_ S_ hI_ hF_ ⟨h0_, ht_, hM_, hcd_, hsx_, hlk_, h91_, -⟩ hm_
      have f222_ : S_.2.2.1 222 0 = S0_.2.2.1 222 0 := fr_arr hF_ rfl
      have f223_ : S_.2.2.1 223 0 = S0_.2.2.1 223 0 := fr_arr hF_ rfl
      have f224_ : S_.2.2.1 224 0 = S0_.2.2.1 224 0 := fr_arr hF_ rfl
      have f225_ : S_.2.2.1 225 0 = S0_.2.2.1 225 0 := fr_arr hF_ rfl
      have f228_ : S_.2.2.1 228 0 = S0_.2.2.1 228 0 := fr_arr hF_ rfl
      have x222_ : S_.2.2.1 222 0 a1_.toNat = S0_.2.2.1 222 0 a1_.toNat := congrFun f222_ _
      have x223_ : S_.2.2.1 223 0 a1_.toNat = S0_.2.2.1 223 0 a1_.toNat := congrFun f223_ _
      have x224_ : S_.2.2.1 224 0 a1_.toNat = S0_.2.2.1 224 0 a1_.toNat := congrFun f224_ _
      have x225_ : S_.2.2.1 225 0 a1_.toNat = S0_.2.2.1 225 0 a1_.toNat := congrFun f225_ _
      have x228_ : S_.2.2.1 228 0 a1_.toNat = S0_.2.2.1 228 0 a1_.toNat := congrFun f228_ _
      have K9_ : cRk a1_ S0_ := hJ_.2 a1_ (by omega) (by omega) ht_
      obtain ⟨K1_, K2_, K3_, K4_, K5_, K6_, K7_⟩ := K9_
      have k4_ := cgt_fr (c_ := a1_) (by omega) hI_ K4_ hF_
      have k5_ := con_fr (c_ := a1_) (by omega) hI_ K5_ hF_
      have kf_ : fco a1_ S_ = fco a1_ S0_ := fco_fr hF_
      have fb9_ := fco_b (c_ := a1_) hI_ (by omega)
      have q9_ : (-1) ≤ S_.2.2.1 289 0 a1_.toNat ∧ S_.2.2.1 289 0 a1_.toNat ≤ 1224 := hI_.2 289 0 _
      have hU9_ := rshU_fr (hU_ ⟨by omega, by omega, ht_⟩) hF_
      have hb9_ : ∀ c9_ : Int, 0 ≤ c9_ → c9_ < 4 → S_.2.2.1 222 0 c9_.toNat = 1 → fco c9_ S_ ≤ 1280 := fun c9_ q1_ q2_ q3_ => by (rw [fr_arr (t := 222) (i := 0) hF_ (rwf_0 (w_ := vw_528t) rfl rfl)] at q3_; have y9_ := (hJ_.2 c9_ q1_ q2_ q3_).1; have x9_ := fco_b (c_ := c9_) hI_ (by (rw [fr_arr (t := 223) (i := 0) hF_ (rwf_0 (w_ := vw_528t) rfl rfl), fr_arr (t := 224) (i := 0) hF_ (rwf_0 (w_ := vw_528t) rfl rfl)]; exact y9_)); omega)
      have T9_ : (f_ + 1).toNat = f_.toNat + 1 := by omega
      obtain ⟨M9_, x9_, m1_, m2_, m3, m4_⟩ := hM_
      refine sm_T_go 3 (c1 := (103, [some (.inr (.inr (some (13, 0)))), some (.inl a1_), some (.inl i_), some (.inl go_), some (.inl f_)], [.inl a1_, .inr (.inr (some (13, 0))), .inl f_], S_)) rfl ?_
      refine sm_T_cal (d1 := 1) (Q1 := vq_514 a1_ S_) rfl rfl (by decide) (vc_514 a1_ S_ hI_ (by omega) (by omega)) (fun u_ Sx1_ px4_ => ?_)
      obtain ⟨rfl, vx6_, rfl, px4_⟩ := px4_
      have e103_ := px4_
      refine sm_T_br (a := 3) (z := 41) rfl (fun cx7_ => ?_) (fun cx7_ => ?_)
      · have cx7_ : vx6_ ≤ f_ := of_decide_eq_true cx7_
        refine sm_T_go 1 (c1 := (148, [some (.inr (.inr (some (13, 0)))), some (.inl a1_), some (.inl i_), some (.inl go_), some (.inl f_)], [.inl go_], S_)) rfl ?_
        refine sm_T_b0 (a := 0) (z := 9) rfl (fun cx8_ => ?_) (fun cx8_ => ?_)
        · have cx8_ : go_ = 0 := of_decide_eq_true cx8_
          refine sm_T_inc (a := 2) (z := (-1)) (v := i_) (w := i_ - 1) rfl rfl (by omega) (by omega) (by omega) ?_ -- pc_ 157
          refine sm_T_go 1 (c1 := (90, [some (.inr (.inr (some (13, 0)))), some (.inl a1_), some (.inl (i_ - 1)), some (.inl go_), some (.inl f_)], [], S_)) rfl ?_
          refine sm_T_wk [some (.inr (.inr (some (13, 0)))), some (.inl a1_), some (.inl (i_ - 1)), none, none] (by exact ⟨rfl, rfl, rfl, trivial⟩) ?_
          refine ih_.2.1 (i_ - 1) S_ hI_ hF_ ⟨?_, ?_, ?_, ?_, ?_, ?_, ?_, trivial⟩ ?_
          · first | omega | (have y9_ := e154_.2.2; omega)
          · exact ht_
          · have g9_ := gos_r (P_ := P_) (N_ := (fco a1_ S0_).toNat) m3
            first | (refine ⟨M9_, m1_, ?_⟩; have e9_ := prn9_s (b_ := 0) (by omega) m2_ rfl (g9_.trans (spr9_n (m_ := f_.toNat) (by omega) (fun q9_ => by (have y9_ := m4_.mpr q9_; omega)))); rw [if_neg (by decide)] at e9_; exact e9_) | (refine ⟨_, e154_.1, ?_⟩; have e9_ := prn9_s (b_ := 1) (by omega) m2_ rfl (g9_.trans (by (rw [show (fco a1_ S0_).toNat = f_.toNat by omega]; exact m4_.mp (by omega)))); rw [if_pos rfl] at e9_; exact e9_)
          · first | exact hcd_ | exact d154_
          · first | exact hsx_ | exact x154_
          · first | exact hlk_ | exact k154_
          · first | exact h91_ | exact z154_
          · omega
        · have cx8_ : ¬ (go_ = 0) := of_decide_eq_false cx8_
          refine sm_T_go 3 (c1 := (154, [some (.inr (.inr (some (13, 0)))), some (.inl a1_), some (.inl i_), some (.inl go_), some (.inl f_)], [.inl i_, .inl a1_, .inr (.inr (some (13, 0)))], S_)) rfl ?_
          refine sm_T_cal (d1 := 0) (Q1 := vq_527n a1_ i_ P_ M9_ S_) rfl rfl (by decide) (vc_527n a1_ i_ P_ M9_ S_ hI_ (by omega) (by omega) (by exact m1_) (by omega)) (fun u_ Sx9_ px12_ => ?_)
          obtain ⟨rfl, hIx10_, hFx11_, px12_⟩ := px12_
          have hFx13_ : ai_fr (sx_W vw_528t) S0_ Sx9_ := ai_fr_tr hF_ (fr_le hFx11_ rfl)
          have e154_ := px12_
          have F154_ := hFx11_
          have k154_ := lsk_fr hlk_ hFx11_
          have d154_ := (hFx11_.1 13 0 0 rfl).trans hcd_
          have x154_ := rsx_tr hsx_ e154_.2.1
          have z154_ : ∀ k9_ : Nat, (k9_ : Int) < Sx9_.2.2.1 289 0 a1_.toNat → Sx9_.2.2.1 291 0 (1280 * a1_.toNat + k9_) = 0 := fun k9_ hk9_ => by (rw [fr_arr (t := 291) (i := 0) hFx11_ rfl]; exact h91_ k9_ (by (have y9_ := e154_.2.2; omega)))
          refine sm_T_inc (a := 2) (z := (-1)) (v := i_) (w := i_ - 1) rfl rfl (by omega) (by omega) (by omega) ?_ -- pc_ 157
          refine sm_T_go 1 (c1 := (90, [some (.inr (.inr (some (13, 0)))), some (.inl a1_), some (.inl (i_ - 1)), some (.inl go_), some (.inl f_)], [], Sx9_)) rfl ?_
          refine sm_T_wk [some (.inr (.inr (some (13, 0)))), some (.inl a1_), some (.inl (i_ - 1)), none, none] (by exact ⟨rfl, rfl, rfl, trivial⟩) ?_
          refine ih_.2.1 (i_ - 1) Sx9_ hIx10_ hFx13_ ⟨?_, ?_, ?_, ?_, ?_, ?_, ?_, trivial⟩ ?_
          · first | omega | (have y9_ := e154_.2.2; omega)
          · exact ht_
          · have g9_ := gos_r (P_ := P_) (N_ := (fco a1_ S0_).toNat) m3
            first | (refine ⟨M9_, m1_, ?_⟩; have e9_ := prn9_s (b_ := 0) (by omega) m2_ rfl (g9_.trans (spr9_n (m_ := f_.toNat) (by omega) (fun q9_ => by (have y9_ := m4_.mpr q9_; omega)))); rw [if_neg (by decide)] at e9_; exact e9_) | (refine ⟨_, e154_.1, ?_⟩; have e9_ := prn9_s (b_ := 1) (by omega) m2_ rfl (g9_.trans (by (rw [show (fco a1_ S0_).toNat = f_.toNat by omega]; exact m4_.mp (by omega)))); rw [if_pos rfl] at e9_; exact e9_)
          · first | exact hcd_ | exact d154_
          · first | exact hsx_ | exact x154_
          · first | exact hlk_ | exact k154_
          · first | exact h91_ | exact z154_
          · omega
      · have cx7_ : ¬ (vx6_ ≤ f_) := of_decide_eq_false cx7_
        refine sm_T_go 1 (c1 := (110, [some (.inr (.inr (some (13, 0)))), some (.inl a1_), some (.inl i_), some (.inl go_), some (.inl f_)], [.inl go_], S_)) rfl ?_
        refine sm_T_b0 (a := 0) (z := 37) rfl (fun cx14_ => ?_) (fun cx14_ => ?_)
        · have cx14_ : go_ = 0 := of_decide_eq_true cx14_
          refine sm_T_go 1 (c1 := (148, [some (.inr (.inr (some (13, 0)))), some (.inl a1_), some (.inl i_), some (.inl go_), some (.inl f_)], [.inl go_], S_)) rfl ?_
          refine sm_T_b0 (a := 0) (z := 9) rfl (fun cx15_ => ?_) (fun cx15_ => ?_)
          · have cx15_ : go_ = 0 := of_decide_eq_true cx15_
            refine sm_T_inc (a := 2) (z := (-1)) (v := i_) (w := i_ - 1) rfl rfl (by omega) (by omega) (by omega) ?_ -- pc_ 157
            refine sm_T_go 1 (c1 := (90, [some (.inr (.inr (some (13, 0)))), some (.inl a1_), some (.inl (i_ - 1)), some (.inl go_), some (.inl f_)], [], S_)) rfl ?_
            refine sm_T_wk [some (.inr (.inr (some (13, 0)))), some (.inl a1_), some (.inl (i_ - 1)), none, none] (by exact ⟨rfl, rfl, rfl, trivial⟩) ?_
            refine ih_.2.1 (i_ - 1) S_ hI_ hF_ ⟨?_, ?_, ?_, ?_, ?_, ?_, ?_, trivial⟩ ?_
            · first | omega | (have y9_ := e154_.2.2; omega)
            · exact ht_
            · have g9_ := gos_r (P_ := P_) (N_ := (fco a1_ S0_).toNat) m3
              first | (refine ⟨M9_, m1_, ?_⟩; have e9_ := prn9_s (b_ := 0) (by omega) m2_ rfl (g9_.trans (spr9_n (m_ := f_.toNat) (by omega) (fun q9_ => by (have y9_ := m4_.mpr q9_; omega)))); rw [if_neg (by decide)] at e9_; exact e9_) | (refine ⟨_, e154_.1, ?_⟩; have e9_ := prn9_s (b_ := 1) (by omega) m2_ rfl (g9_.trans (by (rw [show (fco a1_ S0_).toNat = f_.toNat by omega]; exact m4_.mp (by omega)))); rw [if_pos rfl] at e9_; exact e9_)
            · first | exact hcd_ | exact d154_
            · first | exact hsx_ | exact x154_
            · first | exact hlk_ | exact k154_
            · first | exact h91_ | exact z154_
            · omega
          · have cx15_ : ¬ (go_ = 0) := of_decide_eq_false cx15_
            exfalso; omega
        · have cx14_ : ¬ (go_ = 0) := of_decide_eq_false cx14_
          refine sm_T_go 4 (c1 := (118, [some (.inr (.inr (some (13, 0)))), some (.inl a1_), some (.inl i_), some (.inl go_), some (.inl f_)], [.inl f_, .inl i_, .inl a1_, .inr (.inr (some (13, 0)))], S_)) rfl ?_
          refine sm_T_cal (d1 := 0) (Q1 := vq_524n a1_ i_ f_ S_) rfl rfl (by decide) (vc_524n a1_ i_ f_ S_ hI_ (by omega) (by omega) (by omega)) (fun u_ Sx16_ px19_ => ?_)
          obtain ⟨rfl, vx21_, rfl, px19_⟩ := px19_
          have i118_ := (px19_).1
          have j118_ : P_ f_.toNat x9_ = decide (vx21_ = 1) := ((m1_.2 i_.toNat x9_ m3).2.2 f_.toNat (by omega)).symm.trans (px19_).2
          have g118_ : ((!(P_ f_.toNat x9_) || decide (1 < cn9 (P_ f_.toNat) M9_)) = true) ↔ (vx21_ = 0 ∨ 1 < cn9 (P_ f_.toNat) M9_) := by (rw [j118_]; by_cases y9_ : vx21_ = 1; (rw [decide_eq_true y9_]; exact ⟨fun z9_ => Or.inr (of_decide_eq_true z9_), fun z9_ => decide_eq_true (z9_.resolve_left (by omega))⟩); (rw [decide_eq_false y9_]; exact ⟨fun _ => Or.inl (by omega), fun _ => rfl⟩))
          refine sm_T_b0 (a := 0) (z := 14) rfl (fun cx22_ => ?_) (fun cx22_ => ?_)
          · have cx22_ : vx21_ = 0 := of_decide_eq_true cx22_
            refine sm_T_go 3 (c1 := (141, [some (.inr (.inr (some (13, 0)))), some (.inl a1_), some (.inl i_), some (.inl 1), some (.inl f_)], [], S_)) rfl ?_
            refine sm_T_inc (a := 4) (z := 1) (v := f_) (w := f_ + 1) rfl rfl (by omega) (by omega) (by omega) ?_ -- pc_ 141
            refine sm_T_go 1 (c1 := (99, [some (.inr (.inr (some (13, 0)))), some (.inl a1_), some (.inl i_), some (.inl 1), some (.inl (f_ + 1))], [], S_)) rfl ?_
            refine ih_.2.2 i_ 1 (f_ + 1) S_ hI_ hF_ ⟨?_, ?_, ?_, ?_, ?_, ?_, ?_, trivial⟩ ?_
            · omega
            · exact ht_
            · (refine ⟨M9_, x9_, m1_, m2_, m3, ?_⟩; rw [T9_, spr9_i, ← m4_]; show _ ↔ _ ∧ (!(P_ f_.toNat x9_) || decide (1 < cn9 (P_ f_.toNat) M9_)) = true; rw [g118_]; exact ⟨fun z9_ => ⟨by omega, by omega⟩, fun z9_ => by omega⟩)
            · exact hcd_
            · exact hsx_
            · exact hlk_
            · exact h91_
            · omega
          · have cx22_ : ¬ (vx21_ = 0) := of_decide_eq_false cx22_
            refine sm_T_go 3 (c1 := (128, [some (.inr (.inr (some (13, 0)))), some (.inl a1_), some (.inl i_), some (.inl go_), some (.inl f_)], [.inl f_, .inl a1_, .inr (.inr (some (13, 0)))], S_)) rfl ?_
            refine sm_T_cal (d1 := 1) (Q1 := vq_526n a1_ f_ P_ M9_ S_) rfl rfl (by decide) (vc_526n a1_ f_ P_ M9_ S_ hI_ (by omega) (by omega) (by exact fun _ => m1_) (by (intro q9_; exfalso; omega))) (fun u_ Sx23_ px26_ => ?_)
            obtain ⟨rfl, vx28_, rfl, px26_⟩ := px26_
            have e128_ := px26_
            refine sm_T_go 1 (c1 := (132, [some (.inr (.inr (some (13, 0)))), some (.inl a1_), some (.inl i_), some (.inl go_), some (.inl f_)], [.inl 1, .inl vx28_], S_)) rfl ?_
            refine sm_T_br (a := 5) (z := 7) rfl (fun cx29_ => ?_) (fun cx29_ => ?_)
            · have cx29_ : vx28_ ≤ 1 := of_decide_eq_true cx29_
              refine sm_T_go 2 (c1 := (141, [some (.inr (.inr (some (13, 0)))), some (.inl a1_), some (.inl i_), some (.inl 0), some (.inl f_)], [], S_)) rfl ?_
              refine sm_T_inc (a := 4) (z := 1) (v := f_) (w := f_ + 1) rfl rfl (by omega) (by omega) (by omega) ?_ -- pc_ 141
              refine sm_T_go 1 (c1 := (99, [some (.inr (.inr (some (13, 0)))), some (.inl a1_), some (.inl i_), some (.inl 0), some (.inl (f_ + 1))], [], S_)) rfl ?_
              refine ih_.2.2 i_ 0 (f_ + 1) S_ hI_ hF_ ⟨?_, ?_, ?_, ?_, ?_, ?_, ?_, trivial⟩ ?_
              · omega
              · exact ht_
              · (refine ⟨M9_, x9_, m1_, m2_, m3, ?_⟩; rw [T9_, spr9_i, ← m4_]; show _ ↔ _ ∧ (!(P_ f_.toNat x9_) || decide (1 < cn9 (P_ f_.toNat) M9_)) = true; rw [g118_]; exact ⟨fun z9_ => ⟨by omega, by omega⟩, fun z9_ => by omega⟩)
              · exact hcd_
              · exact hsx_
              · exact hlk_
              · exact h91_
              · omega
            · have cx29_ : ¬ (vx28_ ≤ 1) := of_decide_eq_false cx29_
              refine sm_T_go 3 (c1 := (141, [some (.inr (.inr (some (13, 0)))), some (.inl a1_), some (.inl i_), some (.inl 1), some (.inl f_)], [], S_)) rfl ?_
              refine sm_T_inc (a := 4) (z := 1) (v := f_) (w := f_ + 1) rfl rfl (by omega) (by omega) (by omega) ?_ -- pc_ 141
              refine sm_T_go 1 (c1 := (99, [some (.inr (.inr (some (13, 0)))), some (.inl a1_), some (.inl i_), some (.inl 1), some (.inl (f_ + 1))], [], S_)) rfl ?_
              refine ih_.2.2 i_ 1 (f_ + 1) S_ hI_ hF_ ⟨?_, ?_, ?_, ?_, ?_, ?_, ?_, trivial⟩ ?_
              · omega
              · exact ht_
              · (refine ⟨M9_, x9_, m1_, m2_, m3, ?_⟩; rw [T9_, spr9_i, ← m4_]; show _ ↔ _ ∧ (!(P_ f_.toNat x9_) || decide (1 < cn9 (P_ f_.toNat) M9_)) = true; rw [g118_]; exact ⟨fun z9_ => ⟨by omega, by omega⟩, fun z9_ => by omega⟩)
              · exact hcd_
              · exact hsx_
              · exact hlk_
              · exact h91_
              · omega
set_option maxHeartbeats 3000000 in
set_option maxRecDepth 20000 in
theorem vc_528t {sc_ : Nat × (Nat → Int)} (a1_ : Int) (P_ : Nat → Nat → Bool) (le_ : Nat → Int) (S0_ : sm_S) (hI_ : gi S0_) (ha1_ : (-2147483648) ≤ a1_ ∧ a1_ ≤ 2147483647) (hJ_ : jR S0_) (hk_ : lsk S0_) (hU_ : okr_tests a1_ S0_ → rshU a1_ S0_ P_) (hle_ : okr_tests a1_ S0_ → rleU a1_ S0_ le_) : sm_T (mt_P sc_) 5 528 (0, [some (.inr (.inr (some (13, 0)))), some (.inl a1_), none, none, none], [], S0_) (fun ro9_ => ∃ u_ S1_, ro9_ = (.inl u_, S1_, 0) ∧ vq_528t a1_ P_ le_ S0_ u_ S1_) := by
  have hF_ : ai_fr (sx_W vw_528t) S0_ S0_ := ai_fr_rf
  refine sm_T_go 3 (c1 := (3, [some (.inr (.inr (some (13, 0)))), some (.inl a1_), none, none, none], [.inl a1_, .inr (.inr (some (13, 0))), .inr (.inr (some (13, 0)))], S0_)) rfl ?_
  refine sm_T_cal (d1 := 0) (Q1 := vq_371 a1_ S0_) rfl rfl (by decide) (vc_371 a1_ S0_ hI_ (by omega)) (fun u_ Sx1_ px4_ => ?_)
  obtain ⟨rfl, vx6_, rfl, px4_⟩ := px4_
  have d3_ := px4_
  refine sm_T_b0 (a := 0) (z := 7) rfl (fun cx7_ => ?_) (fun cx7_ => ?_)
  · have cx7_ : vx6_ = 0 := of_decide_eq_true cx7_
    have hIx8_ : gi (sm_pI S0_ 13 0 0 1) := gi_pI hI_ (show 0 ≤ 1 ∧ 1 ≤ 4 from ⟨by omega, by omega⟩)
    have hFx9_ : ai_fr (sx_W vw_528t) S0_ (sm_pI S0_ 13 0 0 1) := ai_fr_tr hF_ (ai_fr_pI rfl)
    refine sm_T_go 6 (c1 := (25, [some (.inr (.inr (some (13, 0)))), some (.inl a1_), none, none, none], [.inl 0], sm_pI S0_ 13 0 0 1)) rfl ?_
    refine sm_T_ri rfl ⟨_, _, rfl, _, rfl, hIx8_, hFx9_, ?_⟩
    refine ⟨⟨by omega, by omega⟩, jR_fr hJ_ hIx8_ hFx9_, rsx_fr (w_ := ([(13, 0)], [], [])) (ai_fr_pI rfl), lsk_fr (w_ := ([(13, 0)], [], [])) hk_ (ai_fr_pI rfl), Or.inl ⟨rf_eq, by (unfold okr_tests; omega), rfl, rfl⟩⟩
  · have cx7_ : ¬ (vx6_ = 0) := of_decide_eq_false cx7_
    have hIx10_ : gi (sm_pI S0_ 13 0 0 0) := gi_pI hI_ (show 0 ≤ 0 ∧ 0 ≤ 4 from ⟨by omega, by omega⟩)
    have hFx11_ : ai_fr (sx_W vw_528t) S0_ (sm_pI S0_ 13 0 0 0) := ai_fr_tr hF_ (ai_fr_pI rfl)
    refine sm_T_go 10 (c1 := (32, [some (.inr (.inr (some (13, 0)))), some (.inl a1_), none, none, none], [.inl 0, .inl a1_, .inr (.inr (some (289, 0)))], sm_pI S0_ 13 0 0 0)) rfl ?_
    refine sm_T_iast (n := 4) rfl rfl (by omega) (by omega) ?_
    have hIx12_ : gi (sm_aI (sm_pI S0_ 13 0 0 0) 289 0 a1_.toNat 0) := gi_aI hIx10_ (show (-1) ≤ 0 ∧ 0 ≤ 1224 from ⟨by omega, by omega⟩)
    have hFx13_ : ai_fr (sx_W vw_528t) S0_ (sm_aI (sm_pI S0_ 13 0 0 0) 289 0 a1_.toNat 0) := ai_fr_tr hFx11_ (ai_fr_aI rfl)
    refine sm_T_go 2 (c1 := (35, [some (.inr (.inr (some (13, 0)))), some (.inl a1_), some (.inl 0), none, none], [], sm_aI (sm_pI S0_ 13 0 0 0) 289 0 a1_.toNat 0)) rfl ?_
    refine (vl_528t a1_ P_ le_ S0_ ha1_ hJ_ hk_ hU_ hle_ _).1 0 (sm_aI (sm_pI S0_ 13 0 0 0) 289 0 a1_.toNat 0) hIx12_ hFx13_ ⟨?_, ?_, ?_, ?_, ?_, ?_, ?_, trivial⟩ (Nat.lt_succ_self _)
    · (rw [rd_eq, if_pos rfl]; have y9_ := fco_b hI_ (hJ_.2 a1_ (by omega) (by omega) (by omega)).1; omega)
    · omega
    · (refine ⟨?_, fun k9_ x9_ q9_ => ?_⟩; (rw [rd_eq, if_pos rfl]; rfl); (cases q9_))
    · exact (show (sm_pI S0_ 13 0 0 0).1 13 0 0 = 0 from rf_eq)
    · exact rsx_of (fun j9_ hj9_ => by (rw [rd_eq, if_neg hj9_]; rfl)) (fun j9_ _ => rfl) (fun j9_ _ => rfl) (fun j9_ _ => rfl)
    · exact lsk_fr (w_ := ([(13, 0)], [289], [])) hk_ (ai_fr_tr (ai_fr_pI rfl) (ai_fr_aI rfl))
    · (intro k9_ hk9_; rw [rd_eq, if_pos rfl] at hk9_; exfalso; omega)
