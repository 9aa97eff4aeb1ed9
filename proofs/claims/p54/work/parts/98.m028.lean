/-! 99.zs3 -/
section
/-! the reference: waves; written by wip/p55/gen/vg -/

/-! the_ reference: waves -/
def cm3 (S_ : sm_S) : Int := 60030 - S_.2.2.1 287 0 0 - S_.2.2.1 287 0 1 - S_.2.2.1 287 0 2
theorem cm3_up {S_ : sm_S} {k_ : Int} (h_ : 0 ≤ k_ ∧ k_ < 3) : cm3 (sm_aI S_ 287 0 k_.toNat (S_.2.2.1 287 0 k_.toNat + 1)) = cm3 S_ - 1 := by
  unfold cm3
  rw [rd_eq, rd_eq, rd_eq]
  have c_ : k_ = 0 ∨ k_ = 1 ∨ k_ = 2 := by omega
  rcases c_ with c_ | c_ | c_ <;> subst c_
  · rw [if_pos (by decide), if_neg (by decide), if_neg (by decide)]
    show 60030 - (S_.2.2.1 287 0 0 + 1) - _ - _ = _
    omega
  · rw [if_neg (by decide), if_pos (by decide), if_neg (by decide)]
    show 60030 - _ - (S_.2.2.1 287 0 1 + 1) - _ = _
    omega
  · rw [if_neg (by decide), if_neg (by decide), if_pos (by decide)]
    show 60030 - _ - _ - (S_.2.2.1 287 0 2 + 1) = _
    omega
theorem cm3_b {S_ : sm_S} (h_ : gi S_) : 0 ≤ cm3 S_ ∧ cm3 S_ ≤ 60030 := by
  have a_ : 0 ≤ S_.2.2.1 287 0 0 ∧ S_.2.2.1 287 0 0 ≤ 20010 := h_.2 287 0 _
  have b_ : 0 ≤ S_.2.2.1 287 0 1 ∧ S_.2.2.1 287 0 1 ≤ 20010 := h_.2 287 0 _
  have c_ : 0 ≤ S_.2.2.1 287 0 2 ∧ S_.2.2.1 287 0 2 ≤ 20010 := h_.2 287 0 _
  unfold cm3
  omega
/-- a_ change that comes at time t_ -/
def fcw (S_ : sm_S) (c_ g_ t_ k_ : Int) : Prop := S_.2.2.1 287 0 k_.toNat < S_.2.2.1 286 0 (S_.2.2.1 230 0 (450 * c_ + 3 * g_ + k_).toNat + 1).toNat ∧ S_.2.2.1 285 0 (S_.2.2.1 287 0 k_.toNat).toNat = t_
def fc1 (S_ : sm_S) (c_ g_ t_ lo_ hi_ : Int) : Prop := ∃ k_ : Int, lo_ ≤ k_ ∧ k_ < hi_ ∧ fcw S_ c_ g_ t_ k_
/-! M_.netOfPin -/
def vw_507 : sx_Wl := ([], [], [])
def vq_507 (c_ : Int) (g_ : Int) (k_ : Int) (S0_ : sm_S) (u_ : Option sm_V) (S1_ : sm_S) : Prop := S0_ = S1_ ∧ ∃ v_ : Int, u_ = some (.inl v_) ∧ (((-1) ≤ v_ ∧ v_ ≤ 161) ∧ (v_ = (S0_.2.2.1 230 0 (450 * c_ + 3 * g_ + k_).toNat)))
set_option maxHeartbeats 400000 in
set_option maxRecDepth 20000 in
theorem vc_507 {sc_ : Nat × (Nat → Int)} (c_ : Int) (g_ : Int) (k_ : Int) (S0_ : sm_S) (hI_ : gi S0_) (hc_ : 0 ≤ c_ ∧ c_ ≤ 3) (hg_ : 0 ≤ g_ ∧ g_ ≤ 149) (hk_ : 0 ≤ k_ ∧ k_ ≤ 2) : sm_T (mt_P sc_) 0 507 (0, [some (.inr (.inr (some (13, 0)))), some (.inl c_), some (.inl g_), some (.inl k_)], [], S0_) (fun ro9_ => ∃ u_ S1_, ro9_ = (.inl u_, S1_, 0) ∧ vq_507 c_ g_ k_ S0_ u_ S1_) := by
  have hF_ : ai_fr (sx_W vw_507) S0_ S0_ := ai_fr_rf
  refine sm_T_go 5 (c1 := (9, [some (.inr (.inr (some (13, 0)))), some (.inl c_), some (.inl g_), some (.inl k_)], [.inl c_, .inl 150, .inl 3, .inr (.inr (some (230, 0)))], S0_)) rfl ?_
  refine sm_T_bin (w := 150 * c_) rfl (bi_mul (by omega) (by omega) (by omega)) ?_ -- pc_ 9
  refine sm_T_go 1 (c1 := (11, [some (.inr (.inr (some (13, 0)))), some (.inl c_), some (.inl g_), some (.inl k_)], [.inl g_, .inl (150 * c_), .inl 3, .inr (.inr (some (230, 0)))], S0_)) rfl ?_
  refine sm_T_bin (w := 150 * c_ + g_) rfl (bi_add (by omega) (by omega) (by omega)) ?_ -- pc_ 11
  refine sm_T_bin (w := 450 * c_ + 3 * g_) rfl (bi_mul (by omega) (by omega) (by omega)) ?_ -- pc_ 12
  refine sm_T_go 1 (c1 := (14, [some (.inr (.inr (some (13, 0)))), some (.inl c_), some (.inl g_), some (.inl k_)], [.inl k_, .inl (450 * c_ + 3 * g_), .inr (.inr (some (230, 0)))], S0_)) rfl ?_
  refine sm_T_bin (w := 450 * c_ + 3 * g_ + k_) rfl (bi_add (by omega) (by omega) (by omega)) ?_ -- pc_ 14
  refine sm_T_iald (n := 1800) rfl rfl (by omega) (by omega) ?_
  have bx1_ : (-1) ≤ S0_.2.2.1 230 0 (450 * c_ + 3 * g_ + k_).toNat ∧ S0_.2.2.1 230 0 (450 * c_ + 3 * g_ + k_).toNat ≤ 161 := hI_.2 230 0 _
  refine sm_T_ri rfl ⟨_, _, rfl, rfl, _, rfl, ?_⟩
  first | (refine ⟨⟨?_, ?_⟩, rfl⟩ <;> omega) | omega | (refine ⟨by omega, ?_⟩; omega)
/-! M_.toldNow -/
def vw_508 : sx_Wl := ([], [], [])
def vq_508 (c_ : Int) (g_ : Int) (S0_ : sm_S) (u_ : Option sm_V) (S1_ : sm_S) : Prop := S0_ = S1_ ∧ ∃ v_ : Int, u_ = some (.inl v_) ∧ (v_ = 0 ∨ v_ = 1)
set_option maxHeartbeats 400000 in
set_option maxRecDepth 20000 in
theorem vl_508 {sc_ : Nat × (Nat → Int)} (c_ : Int) (g_ : Int) (S0_ : sm_S) (hc_ : 0 ≤ c_ ∧ c_ ≤ 3) (hg_ : 0 ≤ g_ ∧ g_ ≤ 149) : ∀ nn_ : Nat, (∀ (s_ : Int) (k_ : Int) (S_ : sm_S), gi S_ → ai_fr (sx_W vw_508) S0_ S_ → ((0 ≤ k_ ∧ k_ ≤ 3) ∧ (0 ≤ s_ ∧ s_ < 2 ^ 3) ∧ (S_ = S0_) ∧ True) → ((10 - k_).toNat) < nn_ → sm_T (mt_P sc_) 1 508 (5, [some (.inr (.inr (some (13, 0)))), some (.inl c_), some (.inl g_), some (.inl s_), some (.inl k_)], [], S_) (fun ro9_ => ∃ u_ S1_, ro9_ = (.inl u_, S1_, 0) ∧ vq_508 c_ g_ S0_ u_ S1_)) := by
  intro nn_
  induction nn_ with
  | zero => exact fun _ _ _ _ _ _ h_ => absurd h_ (Nat.not_lt_zero _)
  | succ nn_ ih_ =>
    rintro s_ k_ S_ hI_ hF_ ⟨h0_, h1_, hS_, -⟩ hm_
    subst hS_
    refine sm_T_go 6 (c1 := (14, [some (.inr (.inr (some (13, 0)))), some (.inl c_), some (.inl g_), some (.inl s_), some (.inl k_)], [.inl g_, .inl c_, .inr (.inr (some (13, 0))), .inr (.inr (some (234, 0))), .inl k_], S_)) rfl ?_
    refine sm_T_cal (d1 := 0) (Q1 := vq_421 c_ g_ S_) rfl rfl (by decide) (vc_421 c_ g_ S_ hI_ (by omega) (by omega)) (fun u_ Sx1_ px4_ => ?_)
    obtain ⟨rfl, vx6_, rfl, px4_⟩ := px4_
    refine sm_T_iald (n := 48) rfl rfl (by omega) (by omega) ?_
    have bx7_ : 0 ≤ S_.2.2.1 234 0 vx6_.toNat ∧ S_.2.2.1 234 0 vx6_.toNat ≤ 3 := hI_.2 234 0 _
    refine sm_T_br (a := 3) (z := 30) rfl (fun cx8_ => ?_) (fun cx8_ => ?_)
    · have cx8_ : (S_.2.2.1 234 0 vx6_.toNat) ≤ k_ := of_decide_eq_true cx8_
      refine sm_T_go 5 (c1 := (55, [some (.inr (.inr (some (13, 0)))), some (.inl c_), some (.inl g_), some (.inl s_), some (.inl k_)], [.inl g_, .inl c_, .inr (.inr (some (13, 0))), .inr (.inr (some (235, 0)))], S_)) rfl ?_
      refine sm_T_cal (d1 := 0) (Q1 := vq_421 c_ g_ S_) rfl rfl (by decide) (vc_421 c_ g_ S_ hI_ (by omega) (by omega)) (fun u_ Sx9_ px12_ => ?_)
      obtain ⟨rfl, vx14_, rfl, px12_⟩ := px12_
      refine sm_T_iald (n := 48) rfl rfl (by omega) (by omega) ?_
      have bx15_ : 0 ≤ S_.2.2.1 235 0 vx14_.toNat ∧ S_.2.2.1 235 0 vx14_.toNat ≤ 255 := hI_.2 235 0 _
      refine sm_T_go 1 (c1 := (60, [some (.inr (.inr (some (13, 0)))), some (.inl c_), some (.inl g_), some (.inl s_), some (.inl k_)], [.inl s_, .inl (S_.2.2.1 235 0 vx14_.toNat)], S_)) rfl ?_
      refine sm_T_bin (w := (i_shr (S_.2.2.1 235 0 vx14_.toNat) s_)) rfl rfl ?_ -- pc_ 60
      have bx16_ := i_shr_p (x_ := (S_.2.2.1 235 0 vx14_.toNat)) (e_ := s_) (by omega) (by omega) (by omega)
      refine sm_T_go 1 (c1 := (62, [some (.inr (.inr (some (13, 0)))), some (.inl c_), some (.inl g_), some (.inl s_), some (.inl k_)], [.inl 1, .inl (i_shr (S_.2.2.1 235 0 vx14_.toNat) s_)], S_)) rfl ?_
      refine sm_T_bin (w := ((i_shr (S_.2.2.1 235 0 vx14_.toNat) s_) % 2)) rfl (bi_msk (k := 1) (by decide)) ?_ -- pc_ 62
      refine sm_T_go 1 (c1 := (64, [some (.inr (.inr (some (13, 0)))), some (.inl c_), some (.inl g_), some (.inl s_), some (.inl k_)], [.inl 1, .inl ((i_shr (S_.2.2.1 235 0 vx14_.toNat) s_) % 2)], S_)) rfl ?_
      refine sm_T_br (a := 1) (z := 7) rfl (fun cx17_ => ?_) (fun cx17_ => ?_)
      · have cx17_ : ((i_shr (S_.2.2.1 235 0 vx14_.toNat) s_) % 2) ≠ 1 := of_decide_eq_true cx17_
        refine sm_T_go 1 (c1 := (72, [some (.inr (.inr (some (13, 0)))), some (.inl c_), some (.inl g_), some (.inl s_), some (.inl k_)], [.inl 0], S_)) rfl ?_
        refine sm_T_rz rfl (by omega) ⟨_, _, rfl, (by first | rfl | exact hS_.symm), _, rfl, ?_⟩
        omega
      · have cx17_ : ¬ (((i_shr (S_.2.2.1 235 0 vx14_.toNat) s_) % 2) ≠ 1) := of_decide_eq_false cx17_
        refine sm_T_go 2 (c1 := (72, [some (.inr (.inr (some (13, 0)))), some (.inl c_), some (.inl g_), some (.inl s_), some (.inl k_)], [.inl 1], S_)) rfl ?_
        refine sm_T_rz rfl (by omega) ⟨_, _, rfl, (by first | rfl | exact hS_.symm), _, rfl, ?_⟩
        omega
    · have cx8_ : ¬ ((S_.2.2.1 234 0 vx6_.toNat) ≤ k_) := of_decide_eq_false cx8_
      refine sm_T_go 4 (c1 := (28, [some (.inr (.inr (some (13, 0)))), some (.inl c_), some (.inl g_), some (.inl s_), some (.inl k_)], [.inl k_, .inr (.inr (some (288, 0))), .inl s_], S_)) rfl ?_
      refine sm_T_zald (n := 3) rfl rfl (by omega) (by omega) ?_
      have bx18_ : 0 ≤ S_.2.2.1 288 0 k_.toNat ∧ S_.2.2.1 288 0 k_.toNat ≤ 1 := hI_.2 288 0 _
      refine sm_T_b0 (a := 0) (z := 10) rfl (fun cx19_ => ?_) (fun cx19_ => ?_)
      · have cx19_ : (S_.2.2.1 288 0 k_.toNat) = 0 := of_decide_eq_true cx19_
        refine sm_T_go 1 (c1 := (40, [some (.inr (.inr (some (13, 0)))), some (.inl c_), some (.inl g_), some (.inl s_), some (.inl k_)], [.inl 0, .inl s_], S_)) rfl ?_
        refine sm_T_bin (w := (i_or s_ 0)) rfl rfl ?_ -- pc_ 40
        have or9_ := i_orp (x_ := s_) (y_ := 0) (k_ := 3) (by decide) h1_ (by first | exact bs9_ | decide)
        refine sm_T_go 1 (c1 := (42, [some (.inr (.inr (some (13, 0)))), some (.inl c_), some (.inl g_), some (.inl (i_or s_ 0)), some (.inl k_)], [], S_)) rfl ?_
        refine sm_T_inc (a := 4) (z := 1) (v := k_) (w := k_ + 1) rfl rfl (by omega) (by omega) (by omega) ?_ -- pc_ 42
        refine sm_T_go 1 (c1 := (5, [some (.inr (.inr (some (13, 0)))), some (.inl c_), some (.inl g_), some (.inl (i_or s_ 0)), some (.inl (k_ + 1))], [], S_)) rfl ?_
        refine ih_ (i_or s_ 0) (k_ + 1) S_ hI_ hF_ ⟨?_, ?_, ?_, trivial⟩ ?_
        · omega
        · first | exact or9_ | omega
        · rfl
        · omega
      · have cx19_ : ¬ ((S_.2.2.1 288 0 k_.toNat) = 0) := of_decide_eq_false cx19_
        refine sm_T_go 2 (c1 := (35, [some (.inr (.inr (some (13, 0)))), some (.inl c_), some (.inl g_), some (.inl s_), some (.inl k_)], [.inl k_, .inl 1, .inl s_], S_)) rfl ?_
        refine sm_T_bin (w := (i_shl 1 k_)) rfl rfl ?_ -- pc_ 35
        have bx21_ := i_shl1 (e := k_) (by omega) (by omega)
        have bs9_ : 0 ≤ i_shl 1 k_ ∧ i_shl 1 k_ < 2 ^ 3 := bsh (k_ := 3) (Or.inr rfl) (show 0 ≤ k_ by omega) (by omega) (by decide)
        refine sm_T_go 1 (c1 := (40, [some (.inr (.inr (some (13, 0)))), some (.inl c_), some (.inl g_), some (.inl s_), some (.inl k_)], [.inl (i_shl 1 k_), .inl s_], S_)) rfl ?_
        refine sm_T_bin (w := (i_or s_ (i_shl 1 k_))) rfl rfl ?_ -- pc_ 40
        have or9_ := i_orp (x_ := s_) (y_ := (i_shl 1 k_)) (k_ := 3) (by decide) h1_ (by first | exact bs9_ | decide)
        refine sm_T_go 1 (c1 := (42, [some (.inr (.inr (some (13, 0)))), some (.inl c_), some (.inl g_), some (.inl (i_or s_ (i_shl 1 k_))), some (.inl k_)], [], S_)) rfl ?_
        refine sm_T_inc (a := 4) (z := 1) (v := k_) (w := k_ + 1) rfl rfl (by omega) (by omega) (by omega) ?_ -- pc_ 42
        refine sm_T_go 1 (c1 := (5, [some (.inr (.inr (some (13, 0)))), some (.inl c_), some (.inl g_), some (.inl (i_or s_ (i_shl 1 k_))), some (.inl (k_ + 1))], [], S_)) rfl ?_
        refine ih_ (i_or s_ (i_shl 1 k_)) (k_ + 1) S_ hI_ hF_ ⟨?_, ?_, ?_, trivial⟩ ?_
        · omega
        · first | exact or9_ | omega
        · rfl
        · omega
set_option maxHeartbeats 400000 in
set_option maxRecDepth 20000 in
theorem vc_508 {sc_ : Nat × (Nat → Int)} (c_ : Int) (g_ : Int) (S0_ : sm_S) (hI_ : gi S0_) (hc_ : 0 ≤ c_ ∧ c_ ≤ 3) (hg_ : 0 ≤ g_ ∧ g_ ≤ 149) : sm_T (mt_P sc_) 1 508 (0, [some (.inr (.inr (some (13, 0)))), some (.inl c_), some (.inl g_), none, none], [], S0_) (fun ro9_ => ∃ u_ S1_, ro9_ = (.inl u_, S1_, 0) ∧ vq_508 c_ g_ S0_ u_ S1_) := by
  have hF_ : ai_fr (sx_W vw_508) S0_ S0_ := ai_fr_rf
  refine sm_T_go 4 (c1 := (5, [some (.inr (.inr (some (13, 0)))), some (.inl c_), some (.inl g_), some (.inl 0), some (.inl 0)], [], S0_)) rfl ?_
  refine (vl_508 c_ g_ S0_ hc_ hg_ _) 0 0 S0_ hI_ hF_ ⟨?_, ?_, ?_, trivial⟩ (Nat.lt_succ_self _)
  · omega
  · decide
  · rfl
/-! M_.findChanges -/
def vw_509 : sx_Wl := ([(13, 214)], [285, 287, 288], [])
def vq_509 (c_ : Int) (g_ : Int) (n_ : Int) (S0_ : sm_S) (u_ : Option sm_V) (S1_ : sm_S) : Prop := u_ = none ∧ gi S1_ ∧ ai_fr (sx_W vw_509) S0_ S1_ ∧ (True)
set_option maxHeartbeats 4000000 in
set_option maxRecDepth 20000 in
theorem vl_509 {sc_ : Nat × (Nat → Int)} (c_ : Int) (g_ : Int) (n_ : Int) (S0_ : sm_S) (hc_ : 0 ≤ c_ ∧ c_ ≤ 3) (hg_ : cgt c_ S0_) (hgg_ : 0 ≤ g_ ∧ g_ < S0_.2.2.1 228 0 c_.toNat) (hn_ : 0 ≤ n_ ∧ n_ ≤ 167) (hx_ : S0_.2.2.1 223 0 c_.toNat + S0_.2.2.1 224 0 c_.toNat ≤ 12) : ∀ nn_ : Nat, (∀ (ip_ : Int) (k_ : Int) (S_ : sm_S), gi S_ → ai_fr (sx_W vw_509) S0_ S_ → ((ip_ = S0_.2.2.1 234 0 (12 * c_ + S0_.2.2.1 229 0 (150 * c_ + g_).toNat).toNat ∧ 0 ≤ k_ ∧ k_ ≤ 3 ∧ 0 ≤ ip_ ∧ ip_ ≤ 3) ∧ True) → ((90000000 - k_).toNat) < nn_ → sm_T (mt_P sc_) 2 509 (16, [some (.inr (.inr (some (13, 0)))), some (.inl c_), some (.inl g_), some (.inl n_), some (.inl ip_), some (.inl k_), none, none, none, none], [], S_) (fun ro9_ => ∃ u_ S1_, ro9_ = (.inl u_, S1_, 0) ∧ vq_509 c_ g_ n_ S0_ u_ S1_)) ∧ (∀ (ip_ : Int) (ha_ : Int) (mo_ : Int) (S_ : sm_S), gi S_ → ai_fr (sx_W vw_509) S0_ S_ → ((ip_ = S0_.2.2.1 234 0 (12 * c_ + S0_.2.2.1 229 0 (150 * c_ + g_).toNat).toNat ∧ 0 ≤ mo_ ∧ mo_ ≤ 1 ∧ 0 ≤ ip_ ∧ ip_ ≤ 3) ∧ True) → ((100 * cm3 S_ + 50 * mo_).toNat) < nn_ → sm_T (mt_P sc_) 2 509 (80, [some (.inr (.inr (some (13, 0)))), some (.inl c_), some (.inl g_), some (.inl n_), some (.inl ip_), some (.inl ha_), some (.inl mo_), none, none, none], [], S_) (fun ro9_ => ∃ u_ S1_, ro9_ = (.inl u_, S1_, 0) ∧ vq_509 c_ g_ n_ S0_ u_ S1_)) ∧ (∀ (ip_ : Int) (ha_ : Int) (t_ : Int) (k_ : Int) (S_ : sm_S), gi S_ → ai_fr (sx_W vw_509) S0_ S_ → ((ip_ = S0_.2.2.1 234 0 (12 * c_ + S0_.2.2.1 229 0 (150 * c_ + g_).toNat).toNat ∧ 0 ≤ k_ ∧ k_ ≤ 3 ∧ 0 ≤ ip_ ∧ ip_ ≤ 3 ∧ k_ ≤ ip_ ∧ -2147483648 ≤ t_ ∧ t_ ≤ 1000000000 ∧ S_.1 13 0 214 ≤ 20000) ∧ (t_ = 1000000000 ∨ fc1 S_ c_ g_ t_ 0 k_) ∧ True) → ((100 * cm3 S_ + 40 - k_).toNat) < nn_ → sm_T (mt_P sc_) 2 509 (103, [some (.inr (.inr (some (13, 0)))), some (.inl c_), some (.inl g_), some (.inl n_), some (.inl ip_), some (.inl ha_), none, some (.inl t_), some (.inl k_), none], [], S_) (fun ro9_ => ∃ u_ S1_, ro9_ = (.inl u_, S1_, 0) ∧ vq_509 c_ g_ n_ S0_ u_ S1_)) ∧ (∀ (ip_ : Int) (ha_ : Int) (mo_ : Int) (t_ : Int) (k_ : Int) (p0_ : Int) (S_ : sm_S), gi S_ → ai_fr (sx_W vw_509) S0_ S_ → ((ip_ = S0_.2.2.1 234 0 (12 * c_ + S0_.2.2.1 229 0 (150 * c_ + g_).toNat).toNat ∧ 0 ≤ k_ ∧ k_ ≤ 3 ∧ 0 ≤ ip_ ∧ ip_ ≤ 3 ∧ -2147483648 ≤ t_ ∧ t_ ≤ 1000000000 ∧ 0 ≤ mo_ ∧ mo_ ≤ 1 ∧ S_.1 13 0 214 ≤ 20000 ∧ cm3 S_ ≤ p0_) ∧ (cm3 S_ < p0_ ∨ mo_ = 0 ∨ fc1 S_ c_ g_ t_ k_ ip_) ∧ True) → ((100 * p0_ + 20 - k_).toNat) < nn_ → sm_T (mt_P sc_) 2 509 (207, [some (.inr (.inr (some (13, 0)))), some (.inl c_), some (.inl g_), some (.inl n_), some (.inl ip_), some (.inl ha_), some (.inl mo_), some (.inl t_), some (.inl k_), none], [], S_) (fun ro9_ => ∃ u_ S1_, ro9_ = (.inl u_, S1_, 0) ∧ vq_509 c_ g_ n_ S0_ u_ S1_)) := by
  intro nn_
  induction nn_ with
  | zero => exact ⟨fun _ _ _ _ _ _ h_ => absurd h_ (Nat.not_lt_zero _), fun _ _ _ _ _ _ _ h_ => absurd h_ (Nat.not_lt_zero _), fun _ _ _ _ _ _ _ _ h_ => absurd h_ (Nat.not_lt_zero _), fun _ _ _ _ _ _ _ _ _ _ h_ => absurd h_ (Nat.not_lt_zero _)⟩
  | succ nn_ ih_ =>
    refine ⟨?_, ?_, ?_, ?_⟩
    · rintro ip_ k_ S_ hI_ hF_ ⟨h0_, -⟩ hm_
      have f223_ : S_.2.2.1 223 0 = S0_.2.2.1 223 0 := fr_arr hF_ rfl
      have f224_ : S_.2.2.1 224 0 = S0_.2.2.1 224 0 := fr_arr hF_ rfl
      have f228_ : S_.2.2.1 228 0 = S0_.2.2.1 228 0 := fr_arr hF_ rfl
      have f229_ : S_.2.2.1 229 0 = S0_.2.2.1 229 0 := fr_arr hF_ rfl
      have f230_ : S_.2.2.1 230 0 = S0_.2.2.1 230 0 := fr_arr hF_ rfl
      have f234_ : S_.2.2.1 234 0 = S0_.2.2.1 234 0 := fr_arr hF_ rfl
      have f286_ : S_.2.2.1 286 0 = S0_.2.2.1 286 0 := fr_arr hF_ rfl
      have x223_ : S_.2.2.1 223 0 c_.toNat = S0_.2.2.1 223 0 c_.toNat := congrFun f223_ _
      have x224_ : S_.2.2.1 224 0 c_.toNat = S0_.2.2.1 224 0 c_.toNat := congrFun f224_ _
      have x228_ : S_.2.2.1 228 0 c_.toNat = S0_.2.2.1 228 0 c_.toNat := congrFun f228_ _
      have cA_ : 0 ≤ S_.2.2.1 223 0 c_.toNat ∧ S_.2.2.1 223 0 c_.toNat ≤ 12 := hI_.2 223 0 _
      have cB_ : 0 ≤ S_.2.2.1 224 0 c_.toNat ∧ S_.2.2.1 224 0 c_.toNat ≤ 6 := hI_.2 224 0 _
      have cG_ : 0 ≤ S_.2.2.1 228 0 c_.toNat ∧ S_.2.2.1 228 0 c_.toNat ≤ 150 := hI_.2 228 0 _
      have hg9_ := cgt_fr hc_.1 hI_ hg_ hF_
      refine sm_T_go 2 (c1 := (20, [some (.inr (.inr (some (13, 0)))), some (.inl c_), some (.inl g_), some (.inl n_), some (.inl ip_), some (.inl k_), none, none, none, none], [.inl ip_, .inl k_], S_)) rfl ?_
      refine sm_T_br (a := 3) (z := 49) rfl (fun cx1_ => ?_) (fun cx1_ => ?_)
      · have cx1_ : ip_ ≤ k_ := of_decide_eq_true cx1_
        refine sm_T_go 3 (c1 := (74, [some (.inr (.inr (some (13, 0)))), some (.inl c_), some (.inl g_), some (.inl n_), some (.inl ip_), some (.inl k_), none, none, none, none], [.inl n_, .inr (.inr (some (284, 0)))], S_)) rfl ?_
        refine sm_T_zald (n := 256) rfl rfl (by omega) (by omega) ?_
        have bx2_ : 0 ≤ S_.2.2.1 284 0 n_.toNat ∧ S_.2.2.1 284 0 n_.toNat ≤ 1 := hI_.2 284 0 _
        refine sm_T_go 3 (c1 := (80, [some (.inr (.inr (some (13, 0)))), some (.inl c_), some (.inl g_), some (.inl n_), some (.inl ip_), some (.inl (S_.2.2.1 284 0 n_.toNat)), some (.inl 1), none, none, none], [], S_)) rfl ?_
        refine ih_.2.1 ip_ (S_.2.2.1 284 0 n_.toNat) 1 S_ hI_ hF_ ⟨?_, trivial⟩ ?_
        · omega
        · (have m8_ := cm3_b hI_; omega)
      · have cx1_ : ¬ (ip_ ≤ k_) := of_decide_eq_false cx1_
        have G9_ := hg9_ g_ (by omega) (by omega) k_ (by omega) (by omega) (Or.inr (by rw [f234_, f229_]; omega))
        refine sm_T_go 9 (c1 := (38, [some (.inr (.inr (some (13, 0)))), some (.inl c_), some (.inl g_), some (.inl n_), some (.inl ip_), some (.inl k_), none, none, none, none], [.inl k_, .inl g_, .inl c_, .inr (.inr (some (13, 0))), .inr (.inr (some (286, 0))), .inl k_, .inr (.inr (some (287, 0)))], S_)) rfl ?_
        refine sm_T_cal (d1 := 0) (Q1 := vq_507 c_ g_ k_ S_) rfl rfl (by decide) (vc_507 c_ g_ k_ S_ hI_ (by omega) (by omega) (by omega)) (fun u_ Sx3_ px6_ => ?_)
        obtain ⟨rfl, vx8_, rfl, px6_⟩ := px6_
        have e38_ := px6_
        have z38_ : vx8_ = S_.2.2.1 230 0 (450 * c_ + 3 * g_ + k_).toNat := by (have w9_ := e38_.2; (try simp only [rd_eq, rd_ne, rf_eq, rf_nk, rf_nt, rd_fa, rd_af, rd_fl, rd_al, rd_lf, rd_la, rd_leq, rd_lne, rd_fr, rd_ar, ne_eq, Nat.reduceEqDiff, not_false_eq_true] at *); exact w9_)
        refine sm_T_iald (n := 257) rfl rfl (by omega) (by omega) ?_
        have bx9_ : 0 ≤ S_.2.2.1 286 0 vx8_.toNat ∧ S_.2.2.1 286 0 vx8_.toNat ≤ 20010 := hI_.2 286 0 _
        refine sm_T_iast (n := 3) rfl rfl (by omega) (by omega) ?_
        have hIx10_ : gi (sm_aI S_ 287 0 k_.toNat (S_.2.2.1 286 0 vx8_.toNat)) := gi_aI hI_ (show 0 ≤ (S_.2.2.1 286 0 vx8_.toNat) ∧ (S_.2.2.1 286 0 vx8_.toNat) ≤ 20010 from ⟨by omega, by omega⟩)
        have hFx11_ : ai_fr (sx_W vw_509) S0_ (sm_aI S_ 287 0 k_.toNat (S_.2.2.1 286 0 vx8_.toNat)) := ai_fr_tr hF_ (ai_fr_aI rfl)
        refine sm_T_go 9 (c1 := (58, [some (.inr (.inr (some (13, 0)))), some (.inl c_), some (.inl g_), some (.inl n_), some (.inl ip_), some (.inl k_), none, none, none, none], [.inl k_, .inl g_, .inl c_, .inr (.inr (some (13, 0))), .inr (.inr (some (284, 0))), .inl k_, .inr (.inr (some (288, 0)))], sm_aI S_ 287 0 k_.toNat (S_.2.2.1 286 0 vx8_.toNat))) rfl ?_
        refine sm_T_cal (d1 := 0) (Q1 := vq_507 c_ g_ k_ (sm_aI S_ 287 0 k_.toNat (S_.2.2.1 286 0 vx8_.toNat))) rfl rfl (by decide) (vc_507 c_ g_ k_ (sm_aI S_ 287 0 k_.toNat (S_.2.2.1 286 0 vx8_.toNat)) hIx10_ (by omega) (by omega) (by omega)) (fun u_ Sx12_ px15_ => ?_)
        obtain ⟨rfl, vx17_, rfl, px15_⟩ := px15_
        have e58_ := px15_
        have z58_ : vx17_ = S_.2.2.1 230 0 (450 * c_ + 3 * g_ + k_).toNat := by (have w9_ := e58_.2; (try simp only [rd_eq, rd_ne, rf_eq, rf_nk, rf_nt, rd_fa, rd_af, rd_fl, rd_al, rd_lf, rd_la, rd_leq, rd_lne, rd_fr, rd_ar, ne_eq, Nat.reduceEqDiff, not_false_eq_true] at *); exact w9_)
        refine sm_T_zald (n := 256) rfl rfl (by omega) (by omega) ?_
        have bx18_ : 0 ≤ S_.2.2.1 284 0 vx17_.toNat ∧ S_.2.2.1 284 0 vx17_.toNat ≤ 1 := hI_.2 284 0 _
        refine sm_T_go 0 (c1 := (62, [some (.inr (.inr (some (13, 0)))), some (.inl c_), some (.inl g_), some (.inl n_), some (.inl ip_), some (.inl k_), none, none, none, none], [.inl (S_.2.2.1 284 0 vx17_.toNat), .inl k_, .inr (.inr (some (288, 0)))], sm_aI S_ 287 0 k_.toNat (S_.2.2.1 286 0 vx8_.toNat))) rfl ?_
        refine sm_T_zas1 (n := 3) rfl rfl (by omega) (by omega) (by omega) ?_
        have hIx19_ : gi (sm_aI (sm_aI S_ 287 0 k_.toNat (S_.2.2.1 286 0 vx8_.toNat)) 288 0 k_.toNat (S_.2.2.1 284 0 vx17_.toNat)) := gi_aI hIx10_ (show 0 ≤ (S_.2.2.1 284 0 vx17_.toNat) ∧ (S_.2.2.1 284 0 vx17_.toNat) ≤ 1 from ⟨by omega, by omega⟩)
        have hFx20_ : ai_fr (sx_W vw_509) S0_ (sm_aI (sm_aI S_ 287 0 k_.toNat (S_.2.2.1 286 0 vx8_.toNat)) 288 0 k_.toNat (S_.2.2.1 284 0 vx17_.toNat)) := ai_fr_tr hFx11_ (ai_fr_aI rfl)
        refine sm_T_inc (a := 5) (z := 1) (v := k_) (w := k_ + 1) rfl rfl (by omega) (by omega) (by omega) ?_ -- pc_ 63
        refine sm_T_go 1 (c1 := (16, [some (.inr (.inr (some (13, 0)))), some (.inl c_), some (.inl g_), some (.inl n_), some (.inl ip_), some (.inl (k_ + 1)), none, none, none, none], [], sm_aI (sm_aI S_ 287 0 k_.toNat (S_.2.2.1 286 0 vx8_.toNat)) 288 0 k_.toNat (S_.2.2.1 284 0 vx17_.toNat))) rfl ?_
        refine ih_.1 ip_ (k_ + 1) (sm_aI (sm_aI S_ 287 0 k_.toNat (S_.2.2.1 286 0 vx8_.toNat)) 288 0 k_.toNat (S_.2.2.1 284 0 vx17_.toNat)) hIx19_ hFx20_ ⟨?_, trivial⟩ ?_
        · omega
        · omega
    · rintro ip_ ha_ mo_ S_ hI_ hF_ ⟨h0_, -⟩ hm_
      have f223_ : S_.2.2.1 223 0 = S0_.2.2.1 223 0 := fr_arr hF_ rfl
      have f224_ : S_.2.2.1 224 0 = S0_.2.2.1 224 0 := fr_arr hF_ rfl
      have f228_ : S_.2.2.1 228 0 = S0_.2.2.1 228 0 := fr_arr hF_ rfl
      have f229_ : S_.2.2.1 229 0 = S0_.2.2.1 229 0 := fr_arr hF_ rfl
      have f230_ : S_.2.2.1 230 0 = S0_.2.2.1 230 0 := fr_arr hF_ rfl
      have f234_ : S_.2.2.1 234 0 = S0_.2.2.1 234 0 := fr_arr hF_ rfl
      have f286_ : S_.2.2.1 286 0 = S0_.2.2.1 286 0 := fr_arr hF_ rfl
      have x223_ : S_.2.2.1 223 0 c_.toNat = S0_.2.2.1 223 0 c_.toNat := congrFun f223_ _
      have x224_ : S_.2.2.1 224 0 c_.toNat = S0_.2.2.1 224 0 c_.toNat := congrFun f224_ _
      have x228_ : S_.2.2.1 228 0 c_.toNat = S0_.2.2.1 228 0 c_.toNat := congrFun f228_ _
      have cA_ : 0 ≤ S_.2.2.1 223 0 c_.toNat ∧ S_.2.2.1 223 0 c_.toNat ≤ 12 := hI_.2 223 0 _
      have cB_ : 0 ≤ S_.2.2.1 224 0 c_.toNat ∧ S_.2.2.1 224 0 c_.toNat ≤ 6 := hI_.2 224 0 _
      have cG_ : 0 ≤ S_.2.2.1 228 0 c_.toNat ∧ S_.2.2.1 228 0 c_.toNat ≤ 150 := hI_.2 228 0 _
      have hg9_ := cgt_fr hc_.1 hI_ hg_ hF_
      have m9_ := cm3_b hI_
      refine sm_T_go 1 (c1 := (82, [some (.inr (.inr (some (13, 0)))), some (.inl c_), some (.inl g_), some (.inl n_), some (.inl ip_), some (.inl ha_), some (.inl mo_), none, none, none], [.inl mo_], S_)) rfl ?_
      refine sm_T_b0 (a := 0) (z := 277) rfl (fun cx1_ => ?_) (fun cx1_ => ?_)
      · have cx1_ : mo_ = 0 := of_decide_eq_true cx1_
        refine sm_T_rv rfl ⟨_, _, rfl, rfl, hI_, hF_, ?_⟩
        trivial
      · have cx1_ : ¬ (mo_ = 0) := of_decide_eq_false cx1_
        have bx2_ : 0 ≤ S_.1 13 0 214 ∧ S_.1 13 0 214 ≤ 20001 := hI_.1 13 0 214 rfl
        refine sm_T_go 3 (c1 := (92, [some (.inr (.inr (some (13, 0)))), some (.inl c_), some (.inl g_), some (.inl n_), some (.inl ip_), some (.inl ha_), some (.inl mo_), none, none, none], [.inl 20000, .inl (S_.1 13 0 214)], S_)) rfl ?_
        refine sm_T_br (a := 4) (z := 267) rfl (fun cx3_ => ?_) (fun cx3_ => ?_)
        · have cx3_ : 20000 < (S_.1 13 0 214) := of_decide_eq_true cx3_
          refine sm_T_rv rfl ⟨_, _, rfl, rfl, hI_, hF_, ?_⟩
          trivial
        · have cx3_ : ¬ (20000 < (S_.1 13 0 214)) := of_decide_eq_false cx3_
          refine sm_T_nt (u := some (.inl 1000000000)) (S1 := S_) rfl rfl rfl ?_
          refine sm_T_go 3 (c1 := (103, [some (.inr (.inr (some (13, 0)))), some (.inl c_), some (.inl g_), some (.inl n_), some (.inl ip_), some (.inl ha_), some (.inl mo_), some (.inl 1000000000), some (.inl 0), none], [], S_)) rfl ?_
          refine sm_T_wk [some (.inr (.inr (some (13, 0)))), some (.inl c_), some (.inl g_), some (.inl n_), some (.inl ip_), some (.inl ha_), none, some (.inl 1000000000), some (.inl 0), none] (by exact ⟨rfl, rfl, rfl, rfl, rfl, rfl, rfl, rfl, trivial⟩) ?_
          refine ih_.2.2.1 ip_ ha_ 1000000000 0 S_ hI_ hF_ ⟨?_, ?_, trivial⟩ ?_
          · (have w9_ : 0 ≤ S_.2.2.1 234 0 (12 * c_ + S_.2.2.1 229 0 (150 * c_ + g_).toNat).toNat ∧ S_.2.2.1 234 0 (12 * c_ + S_.2.2.1 229 0 (150 * c_ + g_).toNat).toNat ≤ 3 := hI_.2 234 0 _; rw [f234_, f229_] at w9_; omega)
          · exact Or.inl rfl
          · omega
    · rintro ip_ ha_ t_ k_ S_ hI_ hF_ ⟨h0_, hw_, -⟩ hm_
      have f223_ : S_.2.2.1 223 0 = S0_.2.2.1 223 0 := fr_arr hF_ rfl
      have f224_ : S_.2.2.1 224 0 = S0_.2.2.1 224 0 := fr_arr hF_ rfl
      have f228_ : S_.2.2.1 228 0 = S0_.2.2.1 228 0 := fr_arr hF_ rfl
      have f229_ : S_.2.2.1 229 0 = S0_.2.2.1 229 0 := fr_arr hF_ rfl
      have f230_ : S_.2.2.1 230 0 = S0_.2.2.1 230 0 := fr_arr hF_ rfl
      have f234_ : S_.2.2.1 234 0 = S0_.2.2.1 234 0 := fr_arr hF_ rfl
      have f286_ : S_.2.2.1 286 0 = S0_.2.2.1 286 0 := fr_arr hF_ rfl
      have x223_ : S_.2.2.1 223 0 c_.toNat = S0_.2.2.1 223 0 c_.toNat := congrFun f223_ _
      have x224_ : S_.2.2.1 224 0 c_.toNat = S0_.2.2.1 224 0 c_.toNat := congrFun f224_ _
      have x228_ : S_.2.2.1 228 0 c_.toNat = S0_.2.2.1 228 0 c_.toNat := congrFun f228_ _
      have cA_ : 0 ≤ S_.2.2.1 223 0 c_.toNat ∧ S_.2.2.1 223 0 c_.toNat ≤ 12 := hI_.2 223 0 _
      have cB_ : 0 ≤ S_.2.2.1 224 0 c_.toNat ∧ S_.2.2.1 224 0 c_.toNat ≤ 6 := hI_.2 224 0 _
      have cG_ : 0 ≤ S_.2.2.1 228 0 c_.toNat ∧ S_.2.2.1 228 0 c_.toNat ≤ 150 := hI_.2 228 0 _
      have hg9_ := cgt_fr hc_.1 hI_ hg_ hF_
      have m9_ := cm3_b hI_
      refine sm_T_go 2 (c1 := (107, [some (.inr (.inr (some (13, 0)))), some (.inl c_), some (.inl g_), some (.inl n_), some (.inl ip_), some (.inl ha_), none, some (.inl t_), some (.inl k_), none], [.inl ip_, .inl k_], S_)) rfl ?_
      refine sm_T_br (a := 3) (z := 82) rfl (fun cx1_ => ?_) (fun cx1_ => ?_)
      · have cx1_ : ip_ ≤ k_ := of_decide_eq_true cx1_
        refine sm_T_go 1 (c1 := (191, [some (.inr (.inr (some (13, 0)))), some (.inl c_), some (.inl g_), some (.inl n_), some (.inl ip_), some (.inl ha_), none, some (.inl t_), some (.inl k_), none], [.inl t_], S_)) rfl ?_
        refine sm_T_nt (u := some (.inl 1000000000)) (S1 := S_) rfl rfl rfl ?_
        refine sm_T_br (a := 3) (z := 7) rfl (fun cx2_ => ?_) (fun cx2_ => ?_)
        · have cx2_ : 1000000000 ≤ t_ := of_decide_eq_true cx2_
          refine sm_T_go 4 (c1 := (207, [some (.inr (.inr (some (13, 0)))), some (.inl c_), some (.inl g_), some (.inl n_), some (.inl ip_), some (.inl ha_), some (.inl 0), some (.inl t_), some (.inl 0), none], [], S_)) rfl ?_
          refine ih_.2.2.2 ip_ ha_ 0 t_ 0 (cm3 S_) S_ hI_ hF_ ⟨?_, ?_, trivial⟩ ?_
          · omega
          · first | exact Or.inr (Or.inl rfl) | (right; right; rcases hw_ with y9_ | y9_; (exfalso; omega); (obtain ⟨j9_, a9_, b9_, c9_⟩ := y9_; exact ⟨j9_, a9_, by omega, c9_⟩))
          · omega
        · have cx2_ : ¬ (1000000000 ≤ t_) := of_decide_eq_false cx2_
          refine sm_T_go 5 (c1 := (207, [some (.inr (.inr (some (13, 0)))), some (.inl c_), some (.inl g_), some (.inl n_), some (.inl ip_), some (.inl ha_), some (.inl 1), some (.inl t_), some (.inl 0), none], [], S_)) rfl ?_
          refine ih_.2.2.2 ip_ ha_ 1 t_ 0 (cm3 S_) S_ hI_ hF_ ⟨?_, ?_, trivial⟩ ?_
          · omega
          · first | exact Or.inr (Or.inl rfl) | (right; right; rcases hw_ with y9_ | y9_; (exfalso; omega); (obtain ⟨j9_, a9_, b9_, c9_⟩ := y9_; exact ⟨j9_, a9_, by omega, c9_⟩))
          · omega
      · have cx1_ : ¬ (ip_ ≤ k_) := of_decide_eq_false cx1_
        have G9_ := hg9_ g_ (by omega) (by omega) k_ (by omega) (by omega) (Or.inr (by rw [f234_, f229_]; omega))
        refine sm_T_go 3 (c1 := (116, [some (.inr (.inr (some (13, 0)))), some (.inl c_), some (.inl g_), some (.inl n_), some (.inl ip_), some (.inl ha_), none, some (.inl t_), some (.inl k_), none], [.inl k_, .inr (.inr (some (287, 0)))], S_)) rfl ?_
        refine sm_T_iald (n := 3) rfl rfl (by omega) (by omega) ?_
        have bx3_ : 0 ≤ S_.2.2.1 287 0 k_.toNat ∧ S_.2.2.1 287 0 k_.toNat ≤ 20010 := hI_.2 287 0 _
        refine sm_T_go 6 (c1 := (126, [some (.inr (.inr (some (13, 0)))), some (.inl c_), some (.inl g_), some (.inl n_), some (.inl ip_), some (.inl ha_), none, some (.inl t_), some (.inl k_), none], [.inl k_, .inl g_, .inl c_, .inr (.inr (some (13, 0))), .inr (.inr (some (286, 0))), .inl (S_.2.2.1 287 0 k_.toNat)], S_)) rfl ?_
        refine sm_T_cal (d1 := 0) (Q1 := vq_507 c_ g_ k_ S_) rfl rfl (by decide) (vc_507 c_ g_ k_ S_ hI_ (by omega) (by omega) (by omega)) (fun u_ Sx4_ px7_ => ?_)
        obtain ⟨rfl, vx9_, rfl, px7_⟩ := px7_
        have e126_ := px7_
        have z126_ : vx9_ = S_.2.2.1 230 0 (450 * c_ + 3 * g_ + k_).toNat := by (have w9_ := e126_.2; (try simp only [rd_eq, rd_ne, rf_eq, rf_nk, rf_nt, rd_fa, rd_af, rd_fl, rd_al, rd_lf, rd_la, rd_leq, rd_lne, rd_fr, rd_ar, ne_eq, Nat.reduceEqDiff, not_false_eq_true] at *); exact w9_)
        refine sm_T_go 1 (c1 := (130, [some (.inr (.inr (some (13, 0)))), some (.inl c_), some (.inl g_), some (.inl n_), some (.inl ip_), some (.inl ha_), none, some (.inl t_), some (.inl k_), none], [.inl 1, .inl vx9_, .inr (.inr (some (286, 0))), .inl (S_.2.2.1 287 0 k_.toNat)], S_)) rfl ?_
        refine sm_T_bin (w := vx9_ + 1) rfl (bi_add (by omega) (by omega) (by omega)) ?_ -- pc_ 130
        refine sm_T_iald (n := 257) rfl rfl (by omega) (by omega) ?_
        have bx10_ : 0 ≤ S_.2.2.1 286 0 (vx9_ + 1).toNat ∧ S_.2.2.1 286 0 (vx9_ + 1).toNat ≤ 20010 := hI_.2 286 0 _
        refine sm_T_br (a := 3) (z := 7) rfl (fun cx11_ => ?_) (fun cx11_ => ?_)
        · have cx11_ : (S_.2.2.1 286 0 (vx9_ + 1).toNat) ≤ (S_.2.2.1 287 0 k_.toNat) := of_decide_eq_true cx11_
          refine sm_T_go 6 (c1 := (183, [some (.inr (.inr (some (13, 0)))), some (.inl c_), some (.inl g_), some (.inl n_), some (.inl ip_), some (.inl ha_), none, some (.inl t_), some (.inl k_), some (.inl 0)], [], S_)) rfl ?_
          refine sm_T_inc (a := 8) (z := 1) (v := k_) (w := k_ + 1) rfl rfl (by omega) (by omega) (by omega) ?_ -- pc_ 183
          refine sm_T_go 1 (c1 := (103, [some (.inr (.inr (some (13, 0)))), some (.inl c_), some (.inl g_), some (.inl n_), some (.inl ip_), some (.inl ha_), none, some (.inl t_), some (.inl (k_ + 1)), some (.inl 0)], [], S_)) rfl ?_
          refine sm_T_wk [some (.inr (.inr (some (13, 0)))), some (.inl c_), some (.inl g_), some (.inl n_), some (.inl ip_), some (.inl ha_), none, some (.inl t_), some (.inl (k_ + 1)), none] (by exact ⟨rfl, rfl, rfl, rfl, rfl, rfl, rfl, rfl, trivial⟩) ?_
          refine ih_.2.2.1 ip_ ha_ t_ (k_ + 1) S_ hI_ hF_ ⟨?_, ?_, trivial⟩ ?_
          · omega
          · first | (right; exact ⟨k_, by omega, by omega, by (refine ⟨?_, rfl⟩; rw [← z126_]; omega)⟩) | (rcases hw_ with y9_ | y9_; exact Or.inl y9_; (right; obtain ⟨j9_, a9_, b9_, c9_⟩ := y9_; exact ⟨j9_, a9_, by omega, c9_⟩))
          · omega
        · have cx11_ : ¬ ((S_.2.2.1 286 0 (vx9_ + 1).toNat) ≤ (S_.2.2.1 287 0 k_.toNat)) := of_decide_eq_false cx11_
          refine sm_T_go 10 (c1 := (157, [some (.inr (.inr (some (13, 0)))), some (.inl c_), some (.inl g_), some (.inl n_), some (.inl ip_), some (.inl ha_), none, some (.inl t_), some (.inl k_), some (.inl 1)], [.inl k_, .inr (.inr (some (287, 0))), .inr (.inr (some (285, 0)))], S_)) rfl ?_
          refine sm_T_iald (n := 3) rfl rfl (by omega) (by omega) ?_
          refine sm_T_iald (n := 20010) rfl rfl (by omega) (by omega) ?_
          have bx12_ : (-2147483648) ≤ S_.2.2.1 285 0 (S_.2.2.1 287 0 k_.toNat).toNat ∧ S_.2.2.1 285 0 (S_.2.2.1 287 0 k_.toNat).toNat ≤ 2147483647 := hI_.2 285 0 _
          refine sm_T_go 1 (c1 := (161, [some (.inr (.inr (some (13, 0)))), some (.inl c_), some (.inl g_), some (.inl n_), some (.inl ip_), some (.inl ha_), none, some (.inl t_), some (.inl k_), some (.inl 1)], [.inl t_, .inl (S_.2.2.1 285 0 (S_.2.2.1 287 0 k_.toNat).toNat)], S_)) rfl ?_
          refine sm_T_br (a := 3) (z := 18) rfl (fun cx13_ => ?_) (fun cx13_ => ?_)
          · have cx13_ : t_ ≤ (S_.2.2.1 285 0 (S_.2.2.1 287 0 k_.toNat).toNat) := of_decide_eq_true cx13_
            refine sm_T_go 2 (c1 := (183, [some (.inr (.inr (some (13, 0)))), some (.inl c_), some (.inl g_), some (.inl n_), some (.inl ip_), some (.inl ha_), none, some (.inl t_), some (.inl k_), some (.inl 1)], [], S_)) rfl ?_
            refine sm_T_inc (a := 8) (z := 1) (v := k_) (w := k_ + 1) rfl rfl (by omega) (by omega) (by omega) ?_ -- pc_ 183
            refine sm_T_go 1 (c1 := (103, [some (.inr (.inr (some (13, 0)))), some (.inl c_), some (.inl g_), some (.inl n_), some (.inl ip_), some (.inl ha_), none, some (.inl t_), some (.inl (k_ + 1)), some (.inl 1)], [], S_)) rfl ?_
            refine sm_T_wk [some (.inr (.inr (some (13, 0)))), some (.inl c_), some (.inl g_), some (.inl n_), some (.inl ip_), some (.inl ha_), none, some (.inl t_), some (.inl (k_ + 1)), none] (by exact ⟨rfl, rfl, rfl, rfl, rfl, rfl, rfl, rfl, trivial⟩) ?_
            refine ih_.2.2.1 ip_ ha_ t_ (k_ + 1) S_ hI_ hF_ ⟨?_, ?_, trivial⟩ ?_
            · omega
            · first | (right; exact ⟨k_, by omega, by omega, by (refine ⟨?_, rfl⟩; rw [← z126_]; omega)⟩) | (rcases hw_ with y9_ | y9_; exact Or.inl y9_; (right; obtain ⟨j9_, a9_, b9_, c9_⟩ := y9_; exact ⟨j9_, a9_, by omega, c9_⟩))
            · omega
          · have cx13_ : ¬ (t_ ≤ (S_.2.2.1 285 0 (S_.2.2.1 287 0 k_.toNat).toNat)) := of_decide_eq_false cx13_
            refine sm_T_go 5 (c1 := (174, [some (.inr (.inr (some (13, 0)))), some (.inl c_), some (.inl g_), some (.inl n_), some (.inl ip_), some (.inl ha_), none, some (.inl t_), some (.inl k_), some (.inl 1)], [.inl k_, .inr (.inr (some (287, 0))), .inr (.inr (some (285, 0)))], S_)) rfl ?_
            refine sm_T_iald (n := 3) rfl rfl (by omega) (by omega) ?_
            refine sm_T_iald (n := 20010) rfl rfl (by omega) (by omega) ?_
            refine sm_T_go 2 (c1 := (183, [some (.inr (.inr (some (13, 0)))), some (.inl c_), some (.inl g_), some (.inl n_), some (.inl ip_), some (.inl ha_), none, some (.inl (S_.2.2.1 285 0 (S_.2.2.1 287 0 k_.toNat).toNat)), some (.inl k_), some (.inl 1)], [], S_)) rfl ?_
            refine sm_T_inc (a := 8) (z := 1) (v := k_) (w := k_ + 1) rfl rfl (by omega) (by omega) (by omega) ?_ -- pc_ 183
            refine sm_T_go 1 (c1 := (103, [some (.inr (.inr (some (13, 0)))), some (.inl c_), some (.inl g_), some (.inl n_), some (.inl ip_), some (.inl ha_), none, some (.inl (S_.2.2.1 285 0 (S_.2.2.1 287 0 k_.toNat).toNat)), some (.inl (k_ + 1)), some (.inl 1)], [], S_)) rfl ?_
            refine sm_T_wk [some (.inr (.inr (some (13, 0)))), some (.inl c_), some (.inl g_), some (.inl n_), some (.inl ip_), some (.inl ha_), none, some (.inl (S_.2.2.1 285 0 (S_.2.2.1 287 0 k_.toNat).toNat)), some (.inl (k_ + 1)), none] (by exact ⟨rfl, rfl, rfl, rfl, rfl, rfl, rfl, rfl, trivial⟩) ?_
            refine ih_.2.2.1 ip_ ha_ (S_.2.2.1 285 0 (S_.2.2.1 287 0 k_.toNat).toNat) (k_ + 1) S_ hI_ hF_ ⟨?_, ?_, trivial⟩ ?_
            · omega
            · first | (right; exact ⟨k_, by omega, by omega, by (refine ⟨?_, rfl⟩; rw [← z126_]; omega)⟩) | (rcases hw_ with y9_ | y9_; exact Or.inl y9_; (right; obtain ⟨j9_, a9_, b9_, c9_⟩ := y9_; exact ⟨j9_, a9_, by omega, c9_⟩))
            · omega
    · rintro ip_ ha_ mo_ t_ k_ p0_ S_ hI_ hF_ ⟨h0_, hw_, -⟩ hm_
      have f223_ : S_.2.2.1 223 0 = S0_.2.2.1 223 0 := fr_arr hF_ rfl
      have f224_ : S_.2.2.1 224 0 = S0_.2.2.1 224 0 := fr_arr hF_ rfl
      have f228_ : S_.2.2.1 228 0 = S0_.2.2.1 228 0 := fr_arr hF_ rfl
      have f229_ : S_.2.2.1 229 0 = S0_.2.2.1 229 0 := fr_arr hF_ rfl
      have f230_ : S_.2.2.1 230 0 = S0_.2.2.1 230 0 := fr_arr hF_ rfl
      have f234_ : S_.2.2.1 234 0 = S0_.2.2.1 234 0 := fr_arr hF_ rfl
      have f286_ : S_.2.2.1 286 0 = S0_.2.2.1 286 0 := fr_arr hF_ rfl
      have x223_ : S_.2.2.1 223 0 c_.toNat = S0_.2.2.1 223 0 c_.toNat := congrFun f223_ _
      have x224_ : S_.2.2.1 224 0 c_.toNat = S0_.2.2.1 224 0 c_.toNat := congrFun f224_ _
      have x228_ : S_.2.2.1 228 0 c_.toNat = S0_.2.2.1 228 0 c_.toNat := congrFun f228_ _
      have cA_ : 0 ≤ S_.2.2.1 223 0 c_.toNat ∧ S_.2.2.1 223 0 c_.toNat ≤ 12 := hI_.2 223 0 _
      have cB_ : 0 ≤ S_.2.2.1 224 0 c_.toNat ∧ S_.2.2.1 224 0 c_.toNat ≤ 6 := hI_.2 224 0 _
      have cG_ : 0 ≤ S_.2.2.1 228 0 c_.toNat ∧ S_.2.2.1 228 0 c_.toNat ≤ 150 := hI_.2 228 0 _
      have hg9_ := cgt_fr hc_.1 hI_ hg_ hF_
      have m9_ := cm3_b hI_
      refine sm_T_go 2 (c1 := (211, [some (.inr (.inr (some (13, 0)))), some (.inl c_), some (.inl g_), some (.inl n_), some (.inl ip_), some (.inl ha_), some (.inl mo_), some (.inl t_), some (.inl k_), none], [.inl ip_, .inl k_], S_)) rfl ?_
      refine sm_T_br (a := 3) (z := 89) rfl (fun cx1_ => ?_) (fun cx1_ => ?_)
      · have cx1_ : ip_ ≤ k_ := of_decide_eq_true cx1_
        refine sm_T_go 1 (c1 := (302, [some (.inr (.inr (some (13, 0)))), some (.inl c_), some (.inl g_), some (.inl n_), some (.inl ip_), some (.inl ha_), some (.inl mo_), some (.inl t_), some (.inl k_), none], [.inl mo_], S_)) rfl ?_
        refine sm_T_b0 (a := 0) (z := 54) rfl (fun cx2_ => ?_) (fun cx2_ => ?_)
        · have cx2_ : mo_ = 0 := of_decide_eq_true cx2_
          refine sm_T_go 1 (c1 := (80, [some (.inr (.inr (some (13, 0)))), some (.inl c_), some (.inl g_), some (.inl n_), some (.inl ip_), some (.inl ha_), some (.inl mo_), some (.inl t_), some (.inl k_), none], [], S_)) rfl ?_
          refine sm_T_wk [some (.inr (.inr (some (13, 0)))), some (.inl c_), some (.inl g_), some (.inl n_), some (.inl ip_), some (.inl ha_), some (.inl mo_), none, none, none] (by exact ⟨rfl, rfl, rfl, rfl, rfl, rfl, rfl, trivial⟩) ?_
          refine ih_.2.1 ip_ ha_ mo_ S_ hI_ hF_ ⟨?_, trivial⟩ ?_
          · omega
          · (rcases hw_ with y9_ | y9_ | y9_; omega; omega; (obtain ⟨j9_, a9_, b9_, c9_⟩ := y9_; omega))
        · have cx2_ : ¬ (mo_ = 0) := of_decide_eq_false cx2_
          refine sm_T_go 3 (c1 := (308, [some (.inr (.inr (some (13, 0)))), some (.inl c_), some (.inl g_), some (.inl n_), some (.inl ip_), some (.inl ha_), some (.inl mo_), some (.inl t_), some (.inl k_), none], [.inl g_, .inl c_, .inr (.inr (some (13, 0)))], S_)) rfl ?_
          refine sm_T_cal (d1 := 1) (Q1 := vq_508 c_ g_ S_) rfl rfl (by decide) (vc_508 c_ g_ S_ hI_ (by omega) (by omega)) (fun u_ Sx3_ px6_ => ?_)
          obtain ⟨rfl, vx8_, rfl, px6_⟩ := px6_
          refine sm_T_go 1 (c1 := (313, [some (.inr (.inr (some (13, 0)))), some (.inl c_), some (.inl g_), some (.inl n_), some (.inl ip_), some (.inl ha_), some (.inl mo_), some (.inl t_), some (.inl k_), none], [.inl ha_, .inl vx8_], S_)) rfl ?_
          refine sm_T_br (a := 0) (z := 43) rfl (fun cx9_ => ?_) (fun cx9_ => ?_)
          · have cx9_ : vx8_ = ha_ := of_decide_eq_true cx9_
            refine sm_T_go 1 (c1 := (80, [some (.inr (.inr (some (13, 0)))), some (.inl c_), some (.inl g_), some (.inl n_), some (.inl ip_), some (.inl ha_), some (.inl mo_), some (.inl t_), some (.inl k_), none], [], S_)) rfl ?_
            refine sm_T_wk [some (.inr (.inr (some (13, 0)))), some (.inl c_), some (.inl g_), some (.inl n_), some (.inl ip_), some (.inl ha_), some (.inl mo_), none, none, none] (by exact ⟨rfl, rfl, rfl, rfl, rfl, rfl, rfl, trivial⟩) ?_
            refine ih_.2.1 ip_ ha_ mo_ S_ hI_ hF_ ⟨?_, trivial⟩ ?_
            · omega
            · (rcases hw_ with y9_ | y9_ | y9_; omega; omega; (obtain ⟨j9_, a9_, b9_, c9_⟩ := y9_; omega))
          · have cx9_ : ¬ (vx8_ = ha_) := of_decide_eq_false cx9_
            refine sm_T_go 1 (c1 := (318, [some (.inr (.inr (some (13, 0)))), some (.inl c_), some (.inl g_), some (.inl n_), some (.inl ip_), some (.inl ha_), some (.inl mo_), some (.inl t_), some (.inl k_), none], [.inl ha_], S_)) rfl ?_
            refine sm_T_b0 (a := 1) (z := 7) rfl (fun cx10_ => ?_) (fun cx10_ => ?_)
            · have cx10_ : ha_ ≠ 0 := of_decide_eq_true cx10_
              have bx11_ : 0 ≤ S_.1 13 0 214 ∧ S_.1 13 0 214 ≤ 20001 := hI_.1 13 0 214 rfl
              refine sm_T_go 10 (c1 := (343, [some (.inr (.inr (some (13, 0)))), some (.inl c_), some (.inl g_), some (.inl n_), some (.inl ip_), some (.inl 0), some (.inl mo_), some (.inl t_), some (.inl k_), none], [.inl n_, .inr (.inr (some (270, 0))), .inl t_, .inl (S_.1 13 0 214), .inr (.inr (some (285, 0)))], S_)) rfl ?_
              refine sm_T_iald (n := 256) rfl rfl (by omega) (by omega) ?_
              have bx12_ : (-2147483648) ≤ S_.2.2.1 270 0 n_.toNat ∧ S_.2.2.1 270 0 n_.toNat ≤ 2147483647 := hI_.2 270 0 _
              refine sm_T_bin (w := (i_add t_ (S_.2.2.1 270 0 n_.toNat))) rfl rfl ?_ -- pc_ 344
              have bx13_ := i_add_r t_ (S_.2.2.1 270 0 n_.toNat)
              refine sm_T_iast (n := 20010) rfl rfl (by omega) (by omega) ?_
              have hIx14_ : gi (sm_aI S_ 285 0 (S_.1 13 0 214).toNat (i_add t_ (S_.2.2.1 270 0 n_.toNat))) := gi_aI hI_ (show (-2147483648) ≤ (i_add t_ (S_.2.2.1 270 0 n_.toNat)) ∧ (i_add t_ (S_.2.2.1 270 0 n_.toNat)) ≤ 2147483647 from ⟨by omega, by omega⟩)
              have hFx15_ : ai_fr (sx_W vw_509) S0_ (sm_aI S_ 285 0 (S_.1 13 0 214).toNat (i_add t_ (S_.2.2.1 270 0 n_.toNat))) := ai_fr_tr hF_ (ai_fr_aI rfl)
              refine sm_T_go 4 (c1 := (352, [some (.inr (.inr (some (13, 0)))), some (.inl c_), some (.inl g_), some (.inl n_), some (.inl ip_), some (.inl 0), some (.inl mo_), some (.inl t_), some (.inl k_), none], [.inl 1, .inl (S_.1 13 0 214), .inr (.inr (some (13, 0)))], sm_aI S_ 285 0 (S_.1 13 0 214).toNat (i_add t_ (S_.2.2.1 270 0 n_.toNat)))) rfl ?_
              refine sm_T_bin (w := (S_.1 13 0 214) + 1) rfl (bi_add (by omega) (by omega) (by omega)) ?_ -- pc_ 352
              have hIx16_ : gi (sm_pI (sm_aI S_ 285 0 (S_.1 13 0 214).toNat (i_add t_ (S_.2.2.1 270 0 n_.toNat))) 13 0 214 ((S_.1 13 0 214) + 1)) := gi_pI hIx14_ (show 0 ≤ (S_.1 13 0 214) + 1 ∧ (S_.1 13 0 214) + 1 ≤ 20001 from ⟨by omega, by omega⟩)
              have hFx17_ : ai_fr (sx_W vw_509) S0_ (sm_pI (sm_aI S_ 285 0 (S_.1 13 0 214).toNat (i_add t_ (S_.2.2.1 270 0 n_.toNat))) 13 0 214 ((S_.1 13 0 214) + 1)) := ai_fr_tr hFx15_ (ai_fr_pI rfl)
              refine sm_T_go 2 (c1 := (80, [some (.inr (.inr (some (13, 0)))), some (.inl c_), some (.inl g_), some (.inl n_), some (.inl ip_), some (.inl 0), some (.inl mo_), some (.inl t_), some (.inl k_), none], [], sm_pI (sm_aI S_ 285 0 (S_.1 13 0 214).toNat (i_add t_ (S_.2.2.1 270 0 n_.toNat))) 13 0 214 ((S_.1 13 0 214) + 1))) rfl ?_
              refine sm_T_wk [some (.inr (.inr (some (13, 0)))), some (.inl c_), some (.inl g_), some (.inl n_), some (.inl ip_), some (.inl 0), some (.inl mo_), none, none, none] (by exact ⟨rfl, rfl, rfl, rfl, rfl, rfl, rfl, trivial⟩) ?_
              refine ih_.2.1 ip_ 0 mo_ (sm_pI (sm_aI S_ 285 0 (S_.1 13 0 214).toNat (i_add t_ (S_.2.2.1 270 0 n_.toNat))) 13 0 214 ((S_.1 13 0 214) + 1)) hIx16_ hFx17_ ⟨?_, trivial⟩ ?_
              · omega
              · (show (100 * cm3 S_ + 50 * mo_).toNat < nn_; rcases hw_ with y9_ | y9_ | y9_; omega; omega; (obtain ⟨j9_, a9_, b9_, c9_⟩ := y9_; omega))
            · have cx10_ : ¬ (ha_ ≠ 0) := of_decide_eq_false cx10_
              have bx18_ : 0 ≤ S_.1 13 0 214 ∧ S_.1 13 0 214 ≤ 20001 := hI_.1 13 0 214 rfl
              refine sm_T_go 11 (c1 := (343, [some (.inr (.inr (some (13, 0)))), some (.inl c_), some (.inl g_), some (.inl n_), some (.inl ip_), some (.inl 1), some (.inl mo_), some (.inl t_), some (.inl k_), none], [.inl n_, .inr (.inr (some (270, 0))), .inl t_, .inl (S_.1 13 0 214), .inr (.inr (some (285, 0)))], S_)) rfl ?_
              refine sm_T_iald (n := 256) rfl rfl (by omega) (by omega) ?_
              have bx19_ : (-2147483648) ≤ S_.2.2.1 270 0 n_.toNat ∧ S_.2.2.1 270 0 n_.toNat ≤ 2147483647 := hI_.2 270 0 _
              refine sm_T_bin (w := (i_add t_ (S_.2.2.1 270 0 n_.toNat))) rfl rfl ?_ -- pc_ 344
              have bx20_ := i_add_r t_ (S_.2.2.1 270 0 n_.toNat)
              refine sm_T_iast (n := 20010) rfl rfl (by omega) (by omega) ?_
              have hIx21_ : gi (sm_aI S_ 285 0 (S_.1 13 0 214).toNat (i_add t_ (S_.2.2.1 270 0 n_.toNat))) := gi_aI hI_ (show (-2147483648) ≤ (i_add t_ (S_.2.2.1 270 0 n_.toNat)) ∧ (i_add t_ (S_.2.2.1 270 0 n_.toNat)) ≤ 2147483647 from ⟨by omega, by omega⟩)
              have hFx22_ : ai_fr (sx_W vw_509) S0_ (sm_aI S_ 285 0 (S_.1 13 0 214).toNat (i_add t_ (S_.2.2.1 270 0 n_.toNat))) := ai_fr_tr hF_ (ai_fr_aI rfl)
              refine sm_T_go 4 (c1 := (352, [some (.inr (.inr (some (13, 0)))), some (.inl c_), some (.inl g_), some (.inl n_), some (.inl ip_), some (.inl 1), some (.inl mo_), some (.inl t_), some (.inl k_), none], [.inl 1, .inl (S_.1 13 0 214), .inr (.inr (some (13, 0)))], sm_aI S_ 285 0 (S_.1 13 0 214).toNat (i_add t_ (S_.2.2.1 270 0 n_.toNat)))) rfl ?_
              refine sm_T_bin (w := (S_.1 13 0 214) + 1) rfl (bi_add (by omega) (by omega) (by omega)) ?_ -- pc_ 352
              have hIx23_ : gi (sm_pI (sm_aI S_ 285 0 (S_.1 13 0 214).toNat (i_add t_ (S_.2.2.1 270 0 n_.toNat))) 13 0 214 ((S_.1 13 0 214) + 1)) := gi_pI hIx21_ (show 0 ≤ (S_.1 13 0 214) + 1 ∧ (S_.1 13 0 214) + 1 ≤ 20001 from ⟨by omega, by omega⟩)
              have hFx24_ : ai_fr (sx_W vw_509) S0_ (sm_pI (sm_aI S_ 285 0 (S_.1 13 0 214).toNat (i_add t_ (S_.2.2.1 270 0 n_.toNat))) 13 0 214 ((S_.1 13 0 214) + 1)) := ai_fr_tr hFx22_ (ai_fr_pI rfl)
              refine sm_T_go 2 (c1 := (80, [some (.inr (.inr (some (13, 0)))), some (.inl c_), some (.inl g_), some (.inl n_), some (.inl ip_), some (.inl 1), some (.inl mo_), some (.inl t_), some (.inl k_), none], [], sm_pI (sm_aI S_ 285 0 (S_.1 13 0 214).toNat (i_add t_ (S_.2.2.1 270 0 n_.toNat))) 13 0 214 ((S_.1 13 0 214) + 1))) rfl ?_
              refine sm_T_wk [some (.inr (.inr (some (13, 0)))), some (.inl c_), some (.inl g_), some (.inl n_), some (.inl ip_), some (.inl 1), some (.inl mo_), none, none, none] (by exact ⟨rfl, rfl, rfl, rfl, rfl, rfl, rfl, trivial⟩) ?_
              refine ih_.2.1 ip_ 1 mo_ (sm_pI (sm_aI S_ 285 0 (S_.1 13 0 214).toNat (i_add t_ (S_.2.2.1 270 0 n_.toNat))) 13 0 214 ((S_.1 13 0 214) + 1)) hIx23_ hFx24_ ⟨?_, trivial⟩ ?_
              · omega
              · (show (100 * cm3 S_ + 50 * mo_).toNat < nn_; rcases hw_ with y9_ | y9_ | y9_; omega; omega; (obtain ⟨j9_, a9_, b9_, c9_⟩ := y9_; omega))
      · have cx1_ : ¬ (ip_ ≤ k_) := of_decide_eq_false cx1_
        refine sm_T_go 1 (c1 := (216, [some (.inr (.inr (some (13, 0)))), some (.inl c_), some (.inl g_), some (.inl n_), some (.inl ip_), some (.inl ha_), some (.inl mo_), some (.inl t_), some (.inl k_), none], [.inl mo_], S_)) rfl ?_
        refine sm_T_b0 (a := 0) (z := 84) rfl (fun cx25_ => ?_) (fun cx25_ => ?_)
        · have cx25_ : mo_ = 0 := of_decide_eq_true cx25_
          refine sm_T_go 1 (c1 := (302, [some (.inr (.inr (some (13, 0)))), some (.inl c_), some (.inl g_), some (.inl n_), some (.inl ip_), some (.inl ha_), some (.inl mo_), some (.inl t_), some (.inl k_), none], [.inl mo_], S_)) rfl ?_
          refine sm_T_b0 (a := 0) (z := 54) rfl (fun cx26_ => ?_) (fun cx26_ => ?_)
          · have cx26_ : mo_ = 0 := of_decide_eq_true cx26_
            refine sm_T_go 1 (c1 := (80, [some (.inr (.inr (some (13, 0)))), some (.inl c_), some (.inl g_), some (.inl n_), some (.inl ip_), some (.inl ha_), some (.inl mo_), some (.inl t_), some (.inl k_), none], [], S_)) rfl ?_
            refine sm_T_wk [some (.inr (.inr (some (13, 0)))), some (.inl c_), some (.inl g_), some (.inl n_), some (.inl ip_), some (.inl ha_), some (.inl mo_), none, none, none] (by exact ⟨rfl, rfl, rfl, rfl, rfl, rfl, rfl, trivial⟩) ?_
            refine ih_.2.1 ip_ ha_ mo_ S_ hI_ hF_ ⟨?_, trivial⟩ ?_
            · omega
            · (rcases hw_ with y9_ | y9_ | y9_; omega; omega; (obtain ⟨j9_, a9_, b9_, c9_⟩ := y9_; omega))
          · have cx26_ : ¬ (mo_ = 0) := of_decide_eq_false cx26_
            exfalso; omega
        · have cx25_ : ¬ (mo_ = 0) := of_decide_eq_false cx25_
          have G9_ := hg9_ g_ (by omega) (by omega) k_ (by omega) (by omega) (Or.inr (by rw [f234_, f229_]; omega))
          refine sm_T_go 3 (c1 := (225, [some (.inr (.inr (some (13, 0)))), some (.inl c_), some (.inl g_), some (.inl n_), some (.inl ip_), some (.inl ha_), some (.inl mo_), some (.inl t_), some (.inl k_), none], [.inl k_, .inr (.inr (some (287, 0)))], S_)) rfl ?_
          refine sm_T_iald (n := 3) rfl rfl (by omega) (by omega) ?_
          have bx27_ : 0 ≤ S_.2.2.1 287 0 k_.toNat ∧ S_.2.2.1 287 0 k_.toNat ≤ 20010 := hI_.2 287 0 _
          refine sm_T_go 6 (c1 := (235, [some (.inr (.inr (some (13, 0)))), some (.inl c_), some (.inl g_), some (.inl n_), some (.inl ip_), some (.inl ha_), some (.inl mo_), some (.inl t_), some (.inl k_), none], [.inl k_, .inl g_, .inl c_, .inr (.inr (some (13, 0))), .inr (.inr (some (286, 0))), .inl (S_.2.2.1 287 0 k_.toNat)], S_)) rfl ?_
          refine sm_T_cal (d1 := 0) (Q1 := vq_507 c_ g_ k_ S_) rfl rfl (by decide) (vc_507 c_ g_ k_ S_ hI_ (by omega) (by omega) (by omega)) (fun u_ Sx28_ px31_ => ?_)
          obtain ⟨rfl, vx33_, rfl, px31_⟩ := px31_
          have e235_ := px31_
          have z235_ : vx33_ = S_.2.2.1 230 0 (450 * c_ + 3 * g_ + k_).toNat := by (have w9_ := e235_.2; (try simp only [rd_eq, rd_ne, rf_eq, rf_nk, rf_nt, rd_fa, rd_af, rd_fl, rd_al, rd_lf, rd_la, rd_leq, rd_lne, rd_fr, rd_ar, ne_eq, Nat.reduceEqDiff, not_false_eq_true] at *); exact w9_)
          refine sm_T_go 1 (c1 := (239, [some (.inr (.inr (some (13, 0)))), some (.inl c_), some (.inl g_), some (.inl n_), some (.inl ip_), some (.inl ha_), some (.inl mo_), some (.inl t_), some (.inl k_), none], [.inl 1, .inl vx33_, .inr (.inr (some (286, 0))), .inl (S_.2.2.1 287 0 k_.toNat)], S_)) rfl ?_
          refine sm_T_bin (w := vx33_ + 1) rfl (bi_add (by omega) (by omega) (by omega)) ?_ -- pc_ 239
          refine sm_T_iald (n := 257) rfl rfl (by omega) (by omega) ?_
          have bx34_ : 0 ≤ S_.2.2.1 286 0 (vx33_ + 1).toNat ∧ S_.2.2.1 286 0 (vx33_ + 1).toNat ≤ 20010 := hI_.2 286 0 _
          refine sm_T_br (a := 3) (z := 53) rfl (fun cx35_ => ?_) (fun cx35_ => ?_)
          · have cx35_ : (S_.2.2.1 286 0 (vx33_ + 1).toNat) ≤ (S_.2.2.1 287 0 k_.toNat) := of_decide_eq_true cx35_
            refine sm_T_inc (a := 8) (z := 1) (v := k_) (w := k_ + 1) rfl rfl (by omega) (by omega) (by omega) ?_ -- pc_ 294
            refine sm_T_go 1 (c1 := (207, [some (.inr (.inr (some (13, 0)))), some (.inl c_), some (.inl g_), some (.inl n_), some (.inl ip_), some (.inl ha_), some (.inl mo_), some (.inl t_), some (.inl (k_ + 1)), none], [], S_)) rfl ?_
            refine ih_.2.2.2 ip_ ha_ mo_ t_ (k_ + 1) p0_ S_ hI_ hF_ ⟨?_, ?_, trivial⟩ ?_
            · omega
            · rcases hw_ with y9_ | y9_ | y9_
              · exact Or.inl y9_
              · exact Or.inr (Or.inl y9_)
              · right; right; obtain ⟨j9_, a9_, b9_, c9_⟩ := y9_; by_cases x9_ : j9_ = k_; (exfalso; rw [x9_] at c9_; have d9_ := c9_.1; have d8_ := c9_.2; rw [← z235_] at d9_; omega); exact ⟨j9_, by omega, b9_, c9_⟩
            · omega
          · have cx35_ : ¬ ((S_.2.2.1 286 0 (vx33_ + 1).toNat) ≤ (S_.2.2.1 287 0 k_.toNat)) := of_decide_eq_false cx35_
            refine sm_T_go 5 (c1 := (254, [some (.inr (.inr (some (13, 0)))), some (.inl c_), some (.inl g_), some (.inl n_), some (.inl ip_), some (.inl ha_), some (.inl mo_), some (.inl t_), some (.inl k_), none], [.inl k_, .inr (.inr (some (287, 0))), .inr (.inr (some (285, 0)))], S_)) rfl ?_
            refine sm_T_iald (n := 3) rfl rfl (by omega) (by omega) ?_
            refine sm_T_iald (n := 20010) rfl rfl (by omega) (by omega) ?_
            have bx36_ : (-2147483648) ≤ S_.2.2.1 285 0 (S_.2.2.1 287 0 k_.toNat).toNat ∧ S_.2.2.1 285 0 (S_.2.2.1 287 0 k_.toNat).toNat ≤ 2147483647 := hI_.2 285 0 _
            refine sm_T_go 1 (c1 := (258, [some (.inr (.inr (some (13, 0)))), some (.inl c_), some (.inl g_), some (.inl n_), some (.inl ip_), some (.inl ha_), some (.inl mo_), some (.inl t_), some (.inl k_), none], [.inl t_, .inl (S_.2.2.1 285 0 (S_.2.2.1 287 0 k_.toNat).toNat)], S_)) rfl ?_
            refine sm_T_br (a := 1) (z := 36) rfl (fun cx37_ => ?_) (fun cx37_ => ?_)
            · have cx37_ : (S_.2.2.1 285 0 (S_.2.2.1 287 0 k_.toNat).toNat) ≠ t_ := of_decide_eq_true cx37_
              refine sm_T_inc (a := 8) (z := 1) (v := k_) (w := k_ + 1) rfl rfl (by omega) (by omega) (by omega) ?_ -- pc_ 294
              refine sm_T_go 1 (c1 := (207, [some (.inr (.inr (some (13, 0)))), some (.inl c_), some (.inl g_), some (.inl n_), some (.inl ip_), some (.inl ha_), some (.inl mo_), some (.inl t_), some (.inl (k_ + 1)), none], [], S_)) rfl ?_
              refine ih_.2.2.2 ip_ ha_ mo_ t_ (k_ + 1) p0_ S_ hI_ hF_ ⟨?_, ?_, trivial⟩ ?_
              · omega
              · rcases hw_ with y9_ | y9_ | y9_
                · exact Or.inl y9_
                · exact Or.inr (Or.inl y9_)
                · right; right; obtain ⟨j9_, a9_, b9_, c9_⟩ := y9_; by_cases x9_ : j9_ = k_; (exfalso; rw [x9_] at c9_; have d9_ := c9_.1; have d8_ := c9_.2; rw [← z235_] at d9_; omega); exact ⟨j9_, by omega, b9_, c9_⟩
              · omega
            · have cx37_ : ¬ ((S_.2.2.1 285 0 (S_.2.2.1 287 0 k_.toNat).toNat) ≠ t_) := of_decide_eq_false cx37_
              refine sm_T_go 4 (c1 := (268, [some (.inr (.inr (some (13, 0)))), some (.inl c_), some (.inl g_), some (.inl n_), some (.inl ip_), some (.inl ha_), some (.inl mo_), some (.inl t_), some (.inl k_), none], [.inl k_, .inr (.inr (some (287, 0))), .inl k_, .inr (.inr (some (287, 0)))], S_)) rfl ?_
              refine sm_T_iald (n := 3) rfl rfl (by omega) (by omega) ?_
              refine sm_T_go 1 (c1 := (270, [some (.inr (.inr (some (13, 0)))), some (.inl c_), some (.inl g_), some (.inl n_), some (.inl ip_), some (.inl ha_), some (.inl mo_), some (.inl t_), some (.inl k_), none], [.inl 1, .inl (S_.2.2.1 287 0 k_.toNat), .inl k_, .inr (.inr (some (287, 0)))], S_)) rfl ?_
              refine sm_T_bin (w := (S_.2.2.1 287 0 k_.toNat) + 1) rfl (bi_add (by omega) (by omega) (by omega)) ?_ -- pc_ 270
              refine sm_T_iast (n := 3) rfl rfl (by omega) (by omega) ?_
              have hIx38_ : gi (sm_aI S_ 287 0 k_.toNat ((S_.2.2.1 287 0 k_.toNat) + 1)) := gi_aI hI_ (show 0 ≤ (S_.2.2.1 287 0 k_.toNat) + 1 ∧ (S_.2.2.1 287 0 k_.toNat) + 1 ≤ 20010 from ⟨by omega, by omega⟩)
              have hFx39_ : ai_fr (sx_W vw_509) S0_ (sm_aI S_ 287 0 k_.toNat ((S_.2.2.1 287 0 k_.toNat) + 1)) := ai_fr_tr hF_ (ai_fr_aI rfl)
              refine sm_T_go 6 (c1 := (284, [some (.inr (.inr (some (13, 0)))), some (.inl c_), some (.inl g_), some (.inl n_), some (.inl ip_), some (.inl ha_), some (.inl mo_), some (.inl t_), some (.inl k_), none], [.inl k_, .inr (.inr (some (288, 0))), .inl k_, .inr (.inr (some (288, 0)))], sm_aI S_ 287 0 k_.toNat ((S_.2.2.1 287 0 k_.toNat) + 1))) rfl ?_
              refine sm_T_zald (n := 3) rfl rfl (by omega) (by omega) ?_
              have bx40_ : 0 ≤ S_.2.2.1 288 0 k_.toNat ∧ S_.2.2.1 288 0 k_.toNat ≤ 1 := hI_.2 288 0 _
              refine sm_T_go 0 (c1 := (285, [some (.inr (.inr (some (13, 0)))), some (.inl c_), some (.inl g_), some (.inl n_), some (.inl ip_), some (.inl ha_), some (.inl mo_), some (.inl t_), some (.inl k_), none], [.inl (S_.2.2.1 288 0 k_.toNat), .inl k_, .inr (.inr (some (288, 0)))], sm_aI S_ 287 0 k_.toNat ((S_.2.2.1 287 0 k_.toNat) + 1))) rfl ?_
              refine sm_T_b0 (a := 1) (z := 7) rfl (fun cx41_ => ?_) (fun cx41_ => ?_)
              · have cx41_ : (S_.2.2.1 288 0 k_.toNat) ≠ 0 := of_decide_eq_true cx41_
                refine sm_T_go 1 (c1 := (293, [some (.inr (.inr (some (13, 0)))), some (.inl c_), some (.inl g_), some (.inl n_), some (.inl ip_), some (.inl ha_), some (.inl mo_), some (.inl t_), some (.inl k_), none], [.inl 0, .inl k_, .inr (.inr (some (288, 0)))], sm_aI S_ 287 0 k_.toNat ((S_.2.2.1 287 0 k_.toNat) + 1))) rfl ?_
                refine sm_T_zas1 (n := 3) rfl rfl (by omega) (by omega) (by omega) ?_
                have hIx42_ : gi (sm_aI (sm_aI S_ 287 0 k_.toNat ((S_.2.2.1 287 0 k_.toNat) + 1)) 288 0 k_.toNat 0) := gi_aI hIx38_ (show 0 ≤ 0 ∧ 0 ≤ 1 from ⟨by omega, by omega⟩)
                have hFx43_ : ai_fr (sx_W vw_509) S0_ (sm_aI (sm_aI S_ 287 0 k_.toNat ((S_.2.2.1 287 0 k_.toNat) + 1)) 288 0 k_.toNat 0) := ai_fr_tr hFx39_ (ai_fr_aI rfl)
                refine sm_T_inc (a := 8) (z := 1) (v := k_) (w := k_ + 1) rfl rfl (by omega) (by omega) (by omega) ?_ -- pc_ 294
                refine sm_T_go 1 (c1 := (207, [some (.inr (.inr (some (13, 0)))), some (.inl c_), some (.inl g_), some (.inl n_), some (.inl ip_), some (.inl ha_), some (.inl mo_), some (.inl t_), some (.inl (k_ + 1)), none], [], sm_aI (sm_aI S_ 287 0 k_.toNat ((S_.2.2.1 287 0 k_.toNat) + 1)) 288 0 k_.toNat 0)) rfl ?_
                refine ih_.2.2.2 ip_ ha_ mo_ t_ (k_ + 1) p0_ (sm_aI (sm_aI S_ 287 0 k_.toNat ((S_.2.2.1 287 0 k_.toNat) + 1)) 288 0 k_.toNat 0) hIx42_ hFx43_ ⟨?_, ?_, trivial⟩ ?_
                · (have u9_ : cm3 ((sm_aI (sm_aI S_ 287 0 k_.toNat ((S_.2.2.1 287 0 k_.toNat) + 1)) 288 0 k_.toNat 0)) = cm3 S_ - 1 := cm3_up (k_ := k_) (by omega); (try simp only [rd_eq, rd_ne, rf_eq, rf_nk, rf_nt, rd_fa, rd_af, rd_fl, rd_al, rd_lf, rd_la, rd_leq, rd_lne, rd_fr, rd_ar, ne_eq, Nat.reduceEqDiff, not_false_eq_true]); rw [u9_]; omega)
                · (have u9_ : cm3 ((sm_aI (sm_aI S_ 287 0 k_.toNat ((S_.2.2.1 287 0 k_.toNat) + 1)) 288 0 k_.toNat 0)) = cm3 S_ - 1 := cm3_up (k_ := k_) (by omega); left; rw [u9_]; omega)
                · omega
              · have cx41_ : ¬ ((S_.2.2.1 288 0 k_.toNat) ≠ 0) := of_decide_eq_false cx41_
                refine sm_T_go 2 (c1 := (293, [some (.inr (.inr (some (13, 0)))), some (.inl c_), some (.inl g_), some (.inl n_), some (.inl ip_), some (.inl ha_), some (.inl mo_), some (.inl t_), some (.inl k_), none], [.inl 1, .inl k_, .inr (.inr (some (288, 0)))], sm_aI S_ 287 0 k_.toNat ((S_.2.2.1 287 0 k_.toNat) + 1))) rfl ?_
                refine sm_T_zas1 (n := 3) rfl rfl (by omega) (by omega) (by omega) ?_
                have hIx44_ : gi (sm_aI (sm_aI S_ 287 0 k_.toNat ((S_.2.2.1 287 0 k_.toNat) + 1)) 288 0 k_.toNat 1) := gi_aI hIx38_ (show 0 ≤ 1 ∧ 1 ≤ 1 from ⟨by omega, by omega⟩)
                have hFx45_ : ai_fr (sx_W vw_509) S0_ (sm_aI (sm_aI S_ 287 0 k_.toNat ((S_.2.2.1 287 0 k_.toNat) + 1)) 288 0 k_.toNat 1) := ai_fr_tr hFx39_ (ai_fr_aI rfl)
                refine sm_T_inc (a := 8) (z := 1) (v := k_) (w := k_ + 1) rfl rfl (by omega) (by omega) (by omega) ?_ -- pc_ 294
                refine sm_T_go 1 (c1 := (207, [some (.inr (.inr (some (13, 0)))), some (.inl c_), some (.inl g_), some (.inl n_), some (.inl ip_), some (.inl ha_), some (.inl mo_), some (.inl t_), some (.inl (k_ + 1)), none], [], sm_aI (sm_aI S_ 287 0 k_.toNat ((S_.2.2.1 287 0 k_.toNat) + 1)) 288 0 k_.toNat 1)) rfl ?_
                refine ih_.2.2.2 ip_ ha_ mo_ t_ (k_ + 1) p0_ (sm_aI (sm_aI S_ 287 0 k_.toNat ((S_.2.2.1 287 0 k_.toNat) + 1)) 288 0 k_.toNat 1) hIx44_ hFx45_ ⟨?_, ?_, trivial⟩ ?_
                · (have u9_ : cm3 ((sm_aI (sm_aI S_ 287 0 k_.toNat ((S_.2.2.1 287 0 k_.toNat) + 1)) 288 0 k_.toNat 1)) = cm3 S_ - 1 := cm3_up (k_ := k_) (by omega); (try simp only [rd_eq, rd_ne, rf_eq, rf_nk, rf_nt, rd_fa, rd_af, rd_fl, rd_al, rd_lf, rd_la, rd_leq, rd_lne, rd_fr, rd_ar, ne_eq, Nat.reduceEqDiff, not_false_eq_true]); rw [u9_]; omega)
                · (have u9_ : cm3 ((sm_aI (sm_aI S_ 287 0 k_.toNat ((S_.2.2.1 287 0 k_.toNat) + 1)) 288 0 k_.toNat 1)) = cm3 S_ - 1 := cm3_up (k_ := k_) (by omega); left; rw [u9_]; omega)
                · omega
set_option maxHeartbeats 4000000 in
set_option maxRecDepth 20000 in
theorem vc_509 {sc_ : Nat × (Nat → Int)} (c_ : Int) (g_ : Int) (n_ : Int) (S0_ : sm_S) (hI_ : gi S0_) (hc_ : 0 ≤ c_ ∧ c_ ≤ 3) (hg_ : cgt c_ S0_) (hgg_ : 0 ≤ g_ ∧ g_ < S0_.2.2.1 228 0 c_.toNat) (hn_ : 0 ≤ n_ ∧ n_ ≤ 167) (hx_ : S0_.2.2.1 223 0 c_.toNat + S0_.2.2.1 224 0 c_.toNat ≤ 12) : sm_T (mt_P sc_) 2 509 (0, [some (.inr (.inr (some (13, 0)))), some (.inl c_), some (.inl g_), some (.inl n_), none, none, none, none, none, none], [], S0_) (fun ro9_ => ∃ u_ S1_, ro9_ = (.inl u_, S1_, 0) ∧ vq_509 c_ g_ n_ S0_ u_ S1_) := by
  have hF_ : ai_fr (sx_W vw_509) S0_ S0_ := ai_fr_rf
  have cG0_ : 0 ≤ S0_.2.2.1 228 0 c_.toNat ∧ S0_.2.2.1 228 0 c_.toNat ≤ 150 := hI_.2 228 0 _
  refine sm_T_go 5 (c1 := (7, [some (.inr (.inr (some (13, 0)))), some (.inl c_), some (.inl g_), some (.inl n_), none, none, none, none, none, none], [.inl g_, .inl c_, .inr (.inr (some (13, 0))), .inr (.inr (some (234, 0)))], S0_)) rfl ?_
  refine sm_T_cal (d1 := 0) (Q1 := vq_421 c_ g_ S0_) rfl rfl (by decide) (vc_421 c_ g_ S0_ hI_ (by omega) (by omega)) (fun u_ Sx1_ px4_ => ?_)
  obtain ⟨rfl, vx6_, rfl, px4_⟩ := px4_
  have e7_ := px4_
  refine sm_T_iald (n := 48) rfl rfl (by omega) (by omega) ?_
  have bx7_ : 0 ≤ S0_.2.2.1 234 0 vx6_.toNat ∧ S0_.2.2.1 234 0 vx6_.toNat ≤ 3 := hI_.2 234 0 _
  refine sm_T_go 3 (c1 := (16, [some (.inr (.inr (some (13, 0)))), some (.inl c_), some (.inl g_), some (.inl n_), some (.inl (S0_.2.2.1 234 0 vx6_.toNat)), some (.inl 0), none, none, none, none], [], S0_)) rfl ?_
  refine (vl_509 c_ g_ n_ S0_ hc_ hg_ hgg_ hn_ hx_ _).1 (S0_.2.2.1 234 0 vx6_.toNat) 0 S0_ hI_ hF_ ⟨?_, trivial⟩ (Nat.lt_succ_self _)
  · (rw [← e7_.2]; omega)
/-! M_.isWild -/
def vw_510 : sx_Wl := ([(13, 159), (13, 214)], [238, 243, 244, 245, 246, 247, 248, 249, 250, 270, 284, 285, 286, 287, 288], [])
def vq_510 (c_ : Int) (a_ : Int) (b_ : Int) (S0_ : sm_S) (u_ : Option sm_V) (S1_ : sm_S) : Prop := ∃ v_ : Int, u_ = some (.inl v_) ∧ gi S1_ ∧ ai_fr (sx_W vw_510) S0_ S1_ ∧ (v_ = 0 ∨ v_ = 1)
set_option maxHeartbeats 1500000 in
set_option maxRecDepth 20000 in
theorem vl_510 {sc_ : Nat × (Nat → Int)} (c_ : Int) (a_ : Int) (b_ : Int) (S0_ : sm_S) (hc_ : 0 ≤ c_ ∧ c_ ≤ 3) (hx_ : S0_.2.2.1 223 0 c_.toNat + S0_.2.2.1 224 0 c_.toNat ≤ 12) (hg_ : cgt c_ S0_) (ho_ : con c_ S0_) (ha_ : 0 ≤ a_ ∧ a_ < 4096) (hb_ : 0 ≤ b_ ∧ b_ < 4096) : ∀ nn_ : Nat, (∀ (n_ : Int) (S_ : sm_S), gi S_ → ai_fr (sx_W vw_510) S0_ S_ → ((0 ≤ n_ ∧ n_ ≤ 168) ∧ True) → ((90000 - n_).toNat) < nn_ → sm_T (mt_P sc_) 5 510 (15, [some (.inr (.inr (some (13, 0)))), some (.inl c_), some (.inl a_), some (.inl b_), some (.inl n_), none], [], S_) (fun ro9_ => ∃ u_ S1_, ro9_ = (.inl u_, S1_, 0) ∧ vq_510 c_ a_ b_ S0_ u_ S1_)) ∧ (∀ (fi_ : Int) (n_ : Int) (S_ : sm_S), gi S_ → ai_fr (sx_W vw_510) S0_ S_ → ((0 ≤ n_ ∧ n_ ≤ (S0_.2.2.1 223 0 c_.toNat + S0_.2.2.1 224 0 c_.toNat + S0_.2.2.1 228 0 c_.toNat) ∧ fi_ = S0_.2.2.1 223 0 c_.toNat + S0_.2.2.1 224 0 c_.toNat ∧ (S_.1 13 0 214 ≤ n_ ∨ fi_ ≤ n_)) ∧ True) → ((5000 - n_).toNat) < nn_ → sm_T (mt_P sc_) 5 510 (90, [some (.inr (.inr (some (13, 0)))), some (.inl c_), some (.inl a_), some (.inl b_), some (.inl fi_), some (.inl n_)], [], S_) (fun ro9_ => ∃ u_ S1_, ro9_ = (.inl u_, S1_, 0) ∧ vq_510 c_ a_ b_ S0_ u_ S1_)) := by
  intro nn_
  induction nn_ with
  | zero => exact ⟨fun _ _ _ _ _ h_ => absurd h_ (Nat.not_lt_zero _), fun _ _ _ _ _ _ h_ => absurd h_ (Nat.not_lt_zero _)⟩
  | succ nn_ ih_ =>
    refine ⟨?_, ?_⟩
    · rintro n_ S_ hI_ hF_ ⟨h0_, -⟩ hm_
      have f223_ : S_.2.2.1 223 0 = S0_.2.2.1 223 0 := fr_arr hF_ rfl
      have f224_ : S_.2.2.1 224 0 = S0_.2.2.1 224 0 := fr_arr hF_ rfl
      have f225_ : S_.2.2.1 225 0 = S0_.2.2.1 225 0 := fr_arr hF_ rfl
      have f228_ : S_.2.2.1 228 0 = S0_.2.2.1 228 0 := fr_arr hF_ rfl
      have x223_ : S_.2.2.1 223 0 c_.toNat = S0_.2.2.1 223 0 c_.toNat := congrFun f223_ _
      have x224_ : S_.2.2.1 224 0 c_.toNat = S0_.2.2.1 224 0 c_.toNat := congrFun f224_ _
      have x225_ : S_.2.2.1 225 0 c_.toNat = S0_.2.2.1 225 0 c_.toNat := congrFun f225_ _
      have x228_ : S_.2.2.1 228 0 c_.toNat = S0_.2.2.1 228 0 c_.toNat := congrFun f228_ _
      have cA_ : 0 ≤ S_.2.2.1 223 0 c_.toNat ∧ S_.2.2.1 223 0 c_.toNat ≤ 12 := hI_.2 223 0 _
      have cB_ : 0 ≤ S_.2.2.1 224 0 c_.toNat ∧ S_.2.2.1 224 0 c_.toNat ≤ 6 := hI_.2 224 0 _
      have cG_ : 0 ≤ S_.2.2.1 228 0 c_.toNat ∧ S_.2.2.1 228 0 c_.toNat ≤ 150 := hI_.2 228 0 _
      have C9_ : 0 ≤ S_.1 13 0 214 ∧ S_.1 13 0 214 ≤ 20001 := hI_.1 13 0 214 rfl
      refine sm_T_go 3 (c1 := (19, [some (.inr (.inr (some (13, 0)))), some (.inl c_), some (.inl a_), some (.inl b_), some (.inl n_), none], [.inl c_, .inr (.inr (some (13, 0))), .inl n_], S_)) rfl ?_
      refine sm_T_cal (d1 := 0) (Q1 := vq_422 c_ S_) rfl rfl (by decide) (vc_422 c_ S_ hI_ (by omega)) (fun u_ Sx1_ px4_ => ?_)
      obtain ⟨rfl, vx6_, rfl, px4_⟩ := px4_
      refine sm_T_br (a := 3) (z := 40) rfl (fun cx7_ => ?_) (fun cx7_ => ?_)
      · have cx7_ : vx6_ ≤ n_ := of_decide_eq_true cx7_
        refine sm_T_go 2 (c1 := (64, [some (.inr (.inr (some (13, 0)))), some (.inl c_), some (.inl a_), some (.inl b_), some (.inl n_), none], [.inl c_, .inr (.inr (some (13, 0)))], S_)) rfl ?_
        refine sm_T_cal (d1 := 4) (Q1 := vq_495 c_ S_) rfl rfl (by decide) (vc_495 c_ S_ hI_ (by exact hc_) (by omega) (by exact cgt_fr hc_.1 hI_ hg_ hF_) (by exact con_fr hc_.1 hI_ ho_ hF_)) (fun u_ Sx8_ px11_ => ?_)
        obtain ⟨rfl, hIx9_, hFx10_, px11_⟩ := px11_
        have hFx12_ : ai_fr (sx_W vw_510) S0_ Sx8_ := ai_fr_tr hF_ (fr_le hFx10_ rfl)
        have y223_ : Sx8_.2.2.1 223 0 c_.toNat = S_.2.2.1 223 0 c_.toNat := congrFun (fr_arr hFx10_ rfl) _
        have y224_ : Sx8_.2.2.1 224 0 c_.toNat = S_.2.2.1 224 0 c_.toNat := congrFun (fr_arr hFx10_ rfl) _
        have y228_ : Sx8_.2.2.1 228 0 c_.toNat = S_.2.2.1 228 0 c_.toNat := congrFun (fr_arr hFx10_ rfl) _
        refine sm_T_go 3 (c1 := (72, [some (.inr (.inr (some (13, 0)))), some (.inl c_), some (.inl a_), some (.inl b_), some (.inl n_), none], [.inl c_, .inr (.inr (some (223, 0)))], Sx8_)) rfl ?_
        refine sm_T_iald (n := 4) rfl rfl (by omega) (by omega) ?_
        have bx13_ : 0 ≤ Sx8_.2.2.1 223 0 c_.toNat ∧ Sx8_.2.2.1 223 0 c_.toNat ≤ 12 := hIx9_.2 223 0 _
        refine sm_T_go 3 (c1 := (78, [some (.inr (.inr (some (13, 0)))), some (.inl c_), some (.inl a_), some (.inl b_), some (.inl n_), none], [.inl c_, .inr (.inr (some (224, 0))), .inl (Sx8_.2.2.1 223 0 c_.toNat)], Sx8_)) rfl ?_
        refine sm_T_iald (n := 4) rfl rfl (by omega) (by omega) ?_
        have bx14_ : 0 ≤ Sx8_.2.2.1 224 0 c_.toNat ∧ Sx8_.2.2.1 224 0 c_.toNat ≤ 6 := hIx9_.2 224 0 _
        refine sm_T_bin (w := (Sx8_.2.2.1 223 0 c_.toNat) + (Sx8_.2.2.1 224 0 c_.toNat)) rfl (bi_add (by omega) (by omega) (by omega)) ?_ -- pc_ 79
        have hIx15_ : gi (sm_pI Sx8_ 13 0 214 0) := gi_pI hIx9_ (show 0 ≤ 0 ∧ 0 ≤ 20001 from ⟨by omega, by omega⟩)
        have hFx16_ : ai_fr (sx_W vw_510) S0_ (sm_pI Sx8_ 13 0 214 0) := ai_fr_tr hFx12_ (ai_fr_pI rfl)
        refine sm_T_go 6 (c1 := (90, [some (.inr (.inr (some (13, 0)))), some (.inl c_), some (.inl a_), some (.inl b_), some (.inl ((Sx8_.2.2.1 223 0 c_.toNat) + (Sx8_.2.2.1 224 0 c_.toNat))), some (.inl 0)], [], sm_pI Sx8_ 13 0 214 0)) rfl ?_
        refine ih_.2 ((Sx8_.2.2.1 223 0 c_.toNat) + (Sx8_.2.2.1 224 0 c_.toNat)) 0 (sm_pI Sx8_ 13 0 214 0) hIx15_ hFx16_ ⟨?_, trivial⟩ ?_
        · ((try simp only [rd_eq, rd_ne, rf_eq, rf_nk, rf_nt, rd_fa, rd_af, rd_fl, rd_al, rd_lf, rd_la, rd_leq, rd_lne, rd_fr, rd_ar, ne_eq, Nat.reduceEqDiff, not_false_eq_true]); omega)
        · omega
      · have cx7_ : ¬ (vx6_ ≤ n_) := of_decide_eq_false cx7_
        refine sm_T_go 6 (c1 := (37, [some (.inr (.inr (some (13, 0)))), some (.inl c_), some (.inl a_), some (.inl b_), some (.inl n_), none], [.inl n_, .inr (.inr (some (238, 0))), .inl n_, .inr (.inr (some (284, 0)))], S_)) rfl ?_
        refine sm_T_lald (n := 256) rfl rfl (by omega) (by omega) ?_
        refine sm_T_go 2 (c1 := (41, [some (.inr (.inr (some (13, 0)))), some (.inl c_), some (.inl a_), some (.inl b_), some (.inl n_), none], [.inl 63, .inl a_, .inr (.inl (S_.2.2.2 238 0 n_.toNat)), .inl n_, .inr (.inr (some (284, 0)))], S_)) rfl ?_
        refine sm_T_bin (w := (a_ % 64)) rfl (bi_msk (k := 6) (by decide)) ?_ -- pc_ 41
        refine sm_T_go 5 (c1 := (47, [some (.inr (.inr (some (13, 0)))), some (.inl c_), some (.inl a_), some (.inl b_), some (.inl n_), none], [.inl (sm_lcmp ((l_3 ((l_s2 ((S_.2.2.2 238 0 n_.toNat)) (a_ % 64))) 1)) 1), .inl n_, .inr (.inr (some (284, 0)))], S_)) rfl ?_
        refine sm_T_b0 (a := 1) (z := 7) rfl (fun cx17_ => ?_) (fun cx17_ => ?_)
        · have cx17_ : (sm_lcmp ((l_3 ((l_s2 ((S_.2.2.2 238 0 n_.toNat)) (a_ % 64))) 1)) 1) ≠ 0 := of_decide_eq_true cx17_
          refine sm_T_go 1 (c1 := (55, [some (.inr (.inr (some (13, 0)))), some (.inl c_), some (.inl a_), some (.inl b_), some (.inl n_), none], [.inl 0, .inl n_, .inr (.inr (some (284, 0)))], S_)) rfl ?_
          refine sm_T_zas1 (n := 256) rfl rfl (by omega) (by omega) (by omega) ?_
          have hIx18_ : gi (sm_aI S_ 284 0 n_.toNat 0) := gi_aI hI_ (show 0 ≤ 0 ∧ 0 ≤ 1 from ⟨by omega, by omega⟩)
          have hFx19_ : ai_fr (sx_W vw_510) S0_ (sm_aI S_ 284 0 n_.toNat 0) := ai_fr_tr hF_ (ai_fr_aI rfl)
          refine sm_T_inc (a := 4) (z := 1) (v := n_) (w := n_ + 1) rfl rfl (by omega) (by omega) (by omega) ?_ -- pc_ 56
          refine sm_T_go 1 (c1 := (15, [some (.inr (.inr (some (13, 0)))), some (.inl c_), some (.inl a_), some (.inl b_), some (.inl (n_ + 1)), none], [], sm_aI S_ 284 0 n_.toNat 0)) rfl ?_
          refine ih_.1 (n_ + 1) (sm_aI S_ 284 0 n_.toNat 0) hIx18_ hFx19_ ⟨?_, trivial⟩ ?_
          · ((try simp only [rd_eq, rd_ne, rf_eq, rf_nk, rf_nt, rd_fa, rd_af, rd_fl, rd_al, rd_lf, rd_la, rd_leq, rd_lne, rd_fr, rd_ar, ne_eq, Nat.reduceEqDiff, not_false_eq_true]); omega)
          · omega
        · have cx17_ : ¬ ((sm_lcmp ((l_3 ((l_s2 ((S_.2.2.2 238 0 n_.toNat)) (a_ % 64))) 1)) 1) ≠ 0) := of_decide_eq_false cx17_
          refine sm_T_go 2 (c1 := (55, [some (.inr (.inr (some (13, 0)))), some (.inl c_), some (.inl a_), some (.inl b_), some (.inl n_), none], [.inl 1, .inl n_, .inr (.inr (some (284, 0)))], S_)) rfl ?_
          refine sm_T_zas1 (n := 256) rfl rfl (by omega) (by omega) (by omega) ?_
          have hIx20_ : gi (sm_aI S_ 284 0 n_.toNat 1) := gi_aI hI_ (show 0 ≤ 1 ∧ 1 ≤ 1 from ⟨by omega, by omega⟩)
          have hFx21_ : ai_fr (sx_W vw_510) S0_ (sm_aI S_ 284 0 n_.toNat 1) := ai_fr_tr hF_ (ai_fr_aI rfl)
          refine sm_T_inc (a := 4) (z := 1) (v := n_) (w := n_ + 1) rfl rfl (by omega) (by omega) (by omega) ?_ -- pc_ 56
          refine sm_T_go 1 (c1 := (15, [some (.inr (.inr (some (13, 0)))), some (.inl c_), some (.inl a_), some (.inl b_), some (.inl (n_ + 1)), none], [], sm_aI S_ 284 0 n_.toNat 1)) rfl ?_
          refine ih_.1 (n_ + 1) (sm_aI S_ 284 0 n_.toNat 1) hIx20_ hFx21_ ⟨?_, trivial⟩ ?_
          · ((try simp only [rd_eq, rd_ne, rf_eq, rf_nk, rf_nt, rd_fa, rd_af, rd_fl, rd_al, rd_lf, rd_la, rd_leq, rd_lne, rd_fr, rd_ar, ne_eq, Nat.reduceEqDiff, not_false_eq_true]); omega)
          · omega
    · rintro fi_ n_ S_ hI_ hF_ ⟨h0_, -⟩ hm_
      have f223_ : S_.2.2.1 223 0 = S0_.2.2.1 223 0 := fr_arr hF_ rfl
      have f224_ : S_.2.2.1 224 0 = S0_.2.2.1 224 0 := fr_arr hF_ rfl
      have f225_ : S_.2.2.1 225 0 = S0_.2.2.1 225 0 := fr_arr hF_ rfl
      have f228_ : S_.2.2.1 228 0 = S0_.2.2.1 228 0 := fr_arr hF_ rfl
      have x223_ : S_.2.2.1 223 0 c_.toNat = S0_.2.2.1 223 0 c_.toNat := congrFun f223_ _
      have x224_ : S_.2.2.1 224 0 c_.toNat = S0_.2.2.1 224 0 c_.toNat := congrFun f224_ _
      have x225_ : S_.2.2.1 225 0 c_.toNat = S0_.2.2.1 225 0 c_.toNat := congrFun f225_ _
      have x228_ : S_.2.2.1 228 0 c_.toNat = S0_.2.2.1 228 0 c_.toNat := congrFun f228_ _
      have cA_ : 0 ≤ S_.2.2.1 223 0 c_.toNat ∧ S_.2.2.1 223 0 c_.toNat ≤ 12 := hI_.2 223 0 _
      have cB_ : 0 ≤ S_.2.2.1 224 0 c_.toNat ∧ S_.2.2.1 224 0 c_.toNat ≤ 6 := hI_.2 224 0 _
      have cG_ : 0 ≤ S_.2.2.1 228 0 c_.toNat ∧ S_.2.2.1 228 0 c_.toNat ≤ 150 := hI_.2 228 0 _
      have C9_ : 0 ≤ S_.1 13 0 214 ∧ S_.1 13 0 214 ≤ 20001 := hI_.1 13 0 214 rfl
      refine sm_T_go 3 (c1 := (94, [some (.inr (.inr (some (13, 0)))), some (.inl c_), some (.inl a_), some (.inl b_), some (.inl fi_), some (.inl n_)], [.inl c_, .inr (.inr (some (13, 0))), .inl n_], S_)) rfl ?_
      refine sm_T_cal (d1 := 0) (Q1 := vq_422 c_ S_) rfl rfl (by decide) (vc_422 c_ S_ hI_ (by omega)) (fun u_ Sx1_ px4_ => ?_)
      obtain ⟨rfl, vx6_, rfl, px4_⟩ := px4_
      refine sm_T_br (a := 3) (z := 117) rfl (fun cx7_ => ?_) (fun cx7_ => ?_)
      · have cx7_ : vx6_ ≤ n_ := of_decide_eq_true cx7_
        have bx8_ : 0 ≤ S_.1 13 0 214 ∧ S_.1 13 0 214 ≤ 20001 := hI_.1 13 0 214 rfl
        refine sm_T_go 3 (c1 := (221, [some (.inr (.inr (some (13, 0)))), some (.inl c_), some (.inl a_), some (.inl b_), some (.inl fi_), some (.inl n_)], [.inl 20000, .inl (S_.1 13 0 214)], S_)) rfl ?_
        refine sm_T_br (a := 5) (z := 7) rfl (fun cx9_ => ?_) (fun cx9_ => ?_)
        · have cx9_ : (S_.1 13 0 214) ≤ 20000 := of_decide_eq_true cx9_
          refine sm_T_go 1 (c1 := (229, [some (.inr (.inr (some (13, 0)))), some (.inl c_), some (.inl a_), some (.inl b_), some (.inl fi_), some (.inl n_)], [.inl 0], S_)) rfl ?_
          refine sm_T_rz rfl (by omega) ⟨_, _, rfl, _, rfl, hI_, hF_, ?_⟩
          omega
        · have cx9_ : ¬ ((S_.1 13 0 214) ≤ 20000) := of_decide_eq_false cx9_
          refine sm_T_go 2 (c1 := (229, [some (.inr (.inr (some (13, 0)))), some (.inl c_), some (.inl a_), some (.inl b_), some (.inl fi_), some (.inl n_)], [.inl 1], S_)) rfl ?_
          refine sm_T_rz rfl (by omega) ⟨_, _, rfl, _, rfl, hI_, hF_, ?_⟩
          omega
      · have cx7_ : ¬ (vx6_ ≤ n_) := of_decide_eq_false cx7_
        have bx10_ : 0 ≤ S_.1 13 0 214 ∧ S_.1 13 0 214 ≤ 20001 := hI_.1 13 0 214 rfl
        refine sm_T_go 5 (c1 := (110, [some (.inr (.inr (some (13, 0)))), some (.inl c_), some (.inl a_), some (.inl b_), some (.inl fi_), some (.inl n_)], [.inl (S_.1 13 0 214), .inl n_, .inr (.inr (some (286, 0)))], S_)) rfl ?_
        refine sm_T_iast (n := 257) rfl rfl (by omega) (by omega) ?_
        have hIx11_ : gi (sm_aI S_ 286 0 n_.toNat (S_.1 13 0 214)) := gi_aI hI_ (show 0 ≤ (S_.1 13 0 214) ∧ (S_.1 13 0 214) ≤ 20010 from ⟨by omega, by omega⟩)
        have hFx12_ : ai_fr (sx_W vw_510) S0_ (sm_aI S_ 286 0 n_.toNat (S_.1 13 0 214)) := ai_fr_tr hF_ (ai_fr_aI rfl)
        refine sm_T_go 2 (c1 := (115, [some (.inr (.inr (some (13, 0)))), some (.inl c_), some (.inl a_), some (.inl b_), some (.inl fi_), some (.inl n_)], [.inl fi_, .inl n_], sm_aI S_ 286 0 n_.toNat (S_.1 13 0 214))) rfl ?_
        refine sm_T_br (a := 3) (z := 48) rfl (fun cx13_ => ?_) (fun cx13_ => ?_)
        · have cx13_ : fi_ ≤ n_ := of_decide_eq_true cx13_
          refine sm_T_go 4 (c1 := (170, [some (.inr (.inr (some (13, 0)))), some (.inl c_), some (.inl a_), some (.inl b_), some (.inl fi_), some (.inl n_)], [.inl 1, .inl n_, .inr (.inr (some (286, 0)))], sm_aI S_ 286 0 n_.toNat (S_.1 13 0 214))) rfl ?_
          refine sm_T_bin (w := n_ + 1) rfl (bi_add (by omega) (by omega) (by omega)) ?_ -- pc_ 170
          refine sm_T_go 2 (c1 := (175, [some (.inr (.inr (some (13, 0)))), some (.inl c_), some (.inl a_), some (.inl b_), some (.inl fi_), some (.inl n_)], [.inl (S_.1 13 0 214), .inl (n_ + 1), .inr (.inr (some (286, 0)))], sm_aI S_ 286 0 n_.toNat (S_.1 13 0 214))) rfl ?_
          refine sm_T_iast (n := 257) rfl rfl (by omega) (by omega) ?_
          have hIx14_ : gi (sm_aI (sm_aI S_ 286 0 n_.toNat (S_.1 13 0 214)) 286 0 (n_ + 1).toNat (S_.1 13 0 214)) := gi_aI hIx11_ (show 0 ≤ (S_.1 13 0 214) ∧ (S_.1 13 0 214) ≤ 20010 from ⟨by omega, by omega⟩)
          have hFx15_ : ai_fr (sx_W vw_510) S0_ (sm_aI (sm_aI S_ 286 0 n_.toNat (S_.1 13 0 214)) 286 0 (n_ + 1).toNat (S_.1 13 0 214)) := ai_fr_tr hFx12_ (ai_fr_aI rfl)
          refine sm_T_go 2 (c1 := (180, [some (.inr (.inr (some (13, 0)))), some (.inl c_), some (.inl a_), some (.inl b_), some (.inl fi_), some (.inl n_)], [.inl fi_, .inl n_], sm_aI (sm_aI S_ 286 0 n_.toNat (S_.1 13 0 214)) 286 0 (n_ + 1).toNat (S_.1 13 0 214))) rfl ?_
          refine sm_T_br (a := 2) (z := 15) rfl (fun cx16_ => ?_) (fun cx16_ => ?_)
          · have cx16_ : n_ < fi_ := of_decide_eq_true cx16_
            exfalso; omega
          · have cx16_ : ¬ (n_ < fi_) := of_decide_eq_false cx16_
            refine sm_T_go 4 (c1 := (189, [some (.inr (.inr (some (13, 0)))), some (.inl c_), some (.inl a_), some (.inl b_), some (.inl fi_), some (.inl n_)], [.inl fi_, .inl n_, .inl c_, .inr (.inr (some (13, 0)))], sm_aI (sm_aI S_ 286 0 n_.toNat (S_.1 13 0 214)) 286 0 (n_ + 1).toNat (S_.1 13 0 214))) rfl ?_
            refine sm_T_bin (w := n_ - fi_) rfl (bi_sub (by omega) (by omega) (by omega)) ?_ -- pc_ 189
            refine sm_T_go 1 (c1 := (192, [some (.inr (.inr (some (13, 0)))), some (.inl c_), some (.inl a_), some (.inl b_), some (.inl fi_), some (.inl n_)], [.inl n_, .inl (n_ - fi_), .inl c_, .inr (.inr (some (13, 0)))], sm_aI (sm_aI S_ 286 0 n_.toNat (S_.1 13 0 214)) 286 0 (n_ + 1).toNat (S_.1 13 0 214))) rfl ?_
            refine sm_T_cal (d1 := 2) (Q1 := vq_509 c_ (n_ - fi_) n_ (sm_aI (sm_aI S_ 286 0 n_.toNat (S_.1 13 0 214)) 286 0 (n_ + 1).toNat (S_.1 13 0 214))) rfl rfl (by decide) (vc_509 c_ (n_ - fi_) n_ (sm_aI (sm_aI S_ 286 0 n_.toNat (S_.1 13 0 214)) 286 0 (n_ + 1).toNat (S_.1 13 0 214)) hIx14_ (by exact hc_) (by exact cgt_fr hc_.1 hIx14_ hg_ hFx15_) (by ((try simp only [rd_eq, rd_ne, rf_eq, rf_nk, rf_nt, rd_fa, rd_af, rd_fl, rd_al, rd_lf, rd_la, rd_leq, rd_lne, rd_fr, rd_ar, ne_eq, Nat.reduceEqDiff, not_false_eq_true]); omega)) (by omega) (by ((try simp only [rd_eq, rd_ne, rf_eq, rf_nk, rf_nt, rd_fa, rd_af, rd_fl, rd_al, rd_lf, rd_la, rd_leq, rd_lne, rd_fr, rd_ar, ne_eq, Nat.reduceEqDiff, not_false_eq_true]); omega))) (fun u_ Sx17_ px20_ => ?_)
            obtain ⟨rfl, hIx18_, hFx19_, px20_⟩ := px20_
            have hFx21_ : ai_fr (sx_W vw_510) S0_ Sx17_ := ai_fr_tr hFx15_ (fr_le hFx19_ rfl)
            have C8_ : 0 ≤ Sx17_.1 13 0 214 ∧ Sx17_.1 13 0 214 ≤ 20001 := hIx18_.1 13 0 214 rfl
            refine sm_T_go 4 (c1 := (202, [some (.inr (.inr (some (13, 0)))), some (.inl c_), some (.inl a_), some (.inl b_), some (.inl fi_), some (.inl n_)], [.inl 1, .inl n_, .inr (.inr (some (286, 0)))], Sx17_)) rfl ?_
            refine sm_T_bin (w := n_ + 1) rfl (bi_add (by omega) (by omega) (by omega)) ?_ -- pc_ 202
            have bx22_ : 0 ≤ Sx17_.1 13 0 214 ∧ Sx17_.1 13 0 214 ≤ 20001 := hIx18_.1 13 0 214 rfl
            refine sm_T_go 2 (c1 := (207, [some (.inr (.inr (some (13, 0)))), some (.inl c_), some (.inl a_), some (.inl b_), some (.inl fi_), some (.inl n_)], [.inl (Sx17_.1 13 0 214), .inl (n_ + 1), .inr (.inr (some (286, 0)))], Sx17_)) rfl ?_
            refine sm_T_iast (n := 257) rfl rfl (by omega) (by omega) ?_
            have hIx23_ : gi (sm_aI Sx17_ 286 0 (n_ + 1).toNat (Sx17_.1 13 0 214)) := gi_aI hIx18_ (show 0 ≤ (Sx17_.1 13 0 214) ∧ (Sx17_.1 13 0 214) ≤ 20010 from ⟨by omega, by omega⟩)
            have hFx24_ : ai_fr (sx_W vw_510) S0_ (sm_aI Sx17_ 286 0 (n_ + 1).toNat (Sx17_.1 13 0 214)) := ai_fr_tr hFx21_ (ai_fr_aI rfl)
            refine sm_T_inc (a := 5) (z := 1) (v := n_) (w := n_ + 1) rfl rfl (by omega) (by omega) (by omega) ?_ -- pc_ 208
            refine sm_T_go 1 (c1 := (90, [some (.inr (.inr (some (13, 0)))), some (.inl c_), some (.inl a_), some (.inl b_), some (.inl fi_), some (.inl (n_ + 1))], [], sm_aI Sx17_ 286 0 (n_ + 1).toNat (Sx17_.1 13 0 214))) rfl ?_
            refine ih_.2 fi_ (n_ + 1) (sm_aI Sx17_ 286 0 (n_ + 1).toNat (Sx17_.1 13 0 214)) hIx23_ hFx24_ ⟨?_, trivial⟩ ?_
            · ((try simp only [rd_eq, rd_ne, rf_eq, rf_nk, rf_nt, rd_fa, rd_af, rd_fl, rd_al, rd_lf, rd_la, rd_leq, rd_lne, rd_fr, rd_ar, ne_eq, Nat.reduceEqDiff, not_false_eq_true]); omega)
            · omega
        · have cx13_ : ¬ (fi_ ≤ n_) := of_decide_eq_false cx13_
          refine sm_T_go 3 (c1 := (124, [some (.inr (.inr (some (13, 0)))), some (.inl c_), some (.inl a_), some (.inl b_), some (.inl fi_), some (.inl n_)], [.inl n_, .inr (.inr (some (284, 0)))], sm_aI S_ 286 0 n_.toNat (S_.1 13 0 214))) rfl ?_
          refine sm_T_zald (n := 256) rfl rfl (by omega) (by omega) ?_
          have bx25_ : 0 ≤ S_.2.2.1 284 0 n_.toNat ∧ S_.2.2.1 284 0 n_.toNat ≤ 1 := hI_.2 284 0 _
          refine sm_T_go 2 (c1 := (128, [some (.inr (.inr (some (13, 0)))), some (.inl c_), some (.inl a_), some (.inl b_), some (.inl fi_), some (.inl n_)], [.inl n_, .inl b_, .inl (S_.2.2.1 284 0 n_.toNat)], sm_aI S_ 286 0 n_.toNat (S_.1 13 0 214))) rfl ?_
          refine sm_T_bin (w := (i_shr b_ n_)) rfl rfl ?_ -- pc_ 128
          first | have bx26_ := i_shr_p (x_ := b_) (e_ := n_) (by omega) (by omega) (by omega) | have bx26_ := i_shr_n b_ n_
          refine sm_T_go 1 (c1 := (130, [some (.inr (.inr (some (13, 0)))), some (.inl c_), some (.inl a_), some (.inl b_), some (.inl fi_), some (.inl n_)], [.inl 1, .inl (i_shr b_ n_), .inl (S_.2.2.1 284 0 n_.toNat)], sm_aI S_ 286 0 n_.toNat (S_.1 13 0 214))) rfl ?_
          refine sm_T_bin (w := ((i_shr b_ n_) % 2)) rfl (bi_msk (k := 1) (by decide)) ?_ -- pc_ 130
          refine sm_T_go 1 (c1 := (132, [some (.inr (.inr (some (13, 0)))), some (.inl c_), some (.inl a_), some (.inl b_), some (.inl fi_), some (.inl n_)], [.inl 1, .inl ((i_shr b_ n_) % 2), .inl (S_.2.2.1 284 0 n_.toNat)], sm_aI S_ 286 0 n_.toNat (S_.1 13 0 214))) rfl ?_
          refine sm_T_br (a := 1) (z := 7) rfl (fun cx27_ => ?_) (fun cx27_ => ?_)
          · have cx27_ : ((i_shr b_ n_) % 2) ≠ 1 := of_decide_eq_true cx27_
            refine sm_T_go 1 (c1 := (140, [some (.inr (.inr (some (13, 0)))), some (.inl c_), some (.inl a_), some (.inl b_), some (.inl fi_), some (.inl n_)], [.inl 0, .inl (S_.2.2.1 284 0 n_.toNat)], sm_aI S_ 286 0 n_.toNat (S_.1 13 0 214))) rfl ?_
            refine sm_T_br (a := 0) (z := 23) rfl (fun cx28_ => ?_) (fun cx28_ => ?_)
            · have cx28_ : (S_.2.2.1 284 0 n_.toNat) = 0 := of_decide_eq_true cx28_
              refine sm_T_go 4 (c1 := (170, [some (.inr (.inr (some (13, 0)))), some (.inl c_), some (.inl a_), some (.inl b_), some (.inl fi_), some (.inl n_)], [.inl 1, .inl n_, .inr (.inr (some (286, 0)))], sm_aI S_ 286 0 n_.toNat (S_.1 13 0 214))) rfl ?_
              refine sm_T_bin (w := n_ + 1) rfl (bi_add (by omega) (by omega) (by omega)) ?_ -- pc_ 170
              refine sm_T_go 2 (c1 := (175, [some (.inr (.inr (some (13, 0)))), some (.inl c_), some (.inl a_), some (.inl b_), some (.inl fi_), some (.inl n_)], [.inl (S_.1 13 0 214), .inl (n_ + 1), .inr (.inr (some (286, 0)))], sm_aI S_ 286 0 n_.toNat (S_.1 13 0 214))) rfl ?_
              refine sm_T_iast (n := 257) rfl rfl (by omega) (by omega) ?_
              have hIx29_ : gi (sm_aI (sm_aI S_ 286 0 n_.toNat (S_.1 13 0 214)) 286 0 (n_ + 1).toNat (S_.1 13 0 214)) := gi_aI hIx11_ (show 0 ≤ (S_.1 13 0 214) ∧ (S_.1 13 0 214) ≤ 20010 from ⟨by omega, by omega⟩)
              have hFx30_ : ai_fr (sx_W vw_510) S0_ (sm_aI (sm_aI S_ 286 0 n_.toNat (S_.1 13 0 214)) 286 0 (n_ + 1).toNat (S_.1 13 0 214)) := ai_fr_tr hFx12_ (ai_fr_aI rfl)
              refine sm_T_go 2 (c1 := (180, [some (.inr (.inr (some (13, 0)))), some (.inl c_), some (.inl a_), some (.inl b_), some (.inl fi_), some (.inl n_)], [.inl fi_, .inl n_], sm_aI (sm_aI S_ 286 0 n_.toNat (S_.1 13 0 214)) 286 0 (n_ + 1).toNat (S_.1 13 0 214))) rfl ?_
              refine sm_T_br (a := 2) (z := 15) rfl (fun cx31_ => ?_) (fun cx31_ => ?_)
              · have cx31_ : n_ < fi_ := of_decide_eq_true cx31_
                refine sm_T_go 4 (c1 := (202, [some (.inr (.inr (some (13, 0)))), some (.inl c_), some (.inl a_), some (.inl b_), some (.inl fi_), some (.inl n_)], [.inl 1, .inl n_, .inr (.inr (some (286, 0)))], sm_aI (sm_aI S_ 286 0 n_.toNat (S_.1 13 0 214)) 286 0 (n_ + 1).toNat (S_.1 13 0 214))) rfl ?_
                refine sm_T_bin (w := n_ + 1) rfl (bi_add (by omega) (by omega) (by omega)) ?_ -- pc_ 202
                refine sm_T_go 2 (c1 := (207, [some (.inr (.inr (some (13, 0)))), some (.inl c_), some (.inl a_), some (.inl b_), some (.inl fi_), some (.inl n_)], [.inl (S_.1 13 0 214), .inl (n_ + 1), .inr (.inr (some (286, 0)))], sm_aI (sm_aI S_ 286 0 n_.toNat (S_.1 13 0 214)) 286 0 (n_ + 1).toNat (S_.1 13 0 214))) rfl ?_
                refine sm_T_iast (n := 257) rfl rfl (by omega) (by omega) ?_
                have hIx32_ : gi (sm_aI (sm_aI (sm_aI S_ 286 0 n_.toNat (S_.1 13 0 214)) 286 0 (n_ + 1).toNat (S_.1 13 0 214)) 286 0 (n_ + 1).toNat (S_.1 13 0 214)) := gi_aI hIx29_ (show 0 ≤ (S_.1 13 0 214) ∧ (S_.1 13 0 214) ≤ 20010 from ⟨by omega, by omega⟩)
                have hFx33_ : ai_fr (sx_W vw_510) S0_ (sm_aI (sm_aI (sm_aI S_ 286 0 n_.toNat (S_.1 13 0 214)) 286 0 (n_ + 1).toNat (S_.1 13 0 214)) 286 0 (n_ + 1).toNat (S_.1 13 0 214)) := ai_fr_tr hFx30_ (ai_fr_aI rfl)
                refine sm_T_inc (a := 5) (z := 1) (v := n_) (w := n_ + 1) rfl rfl (by omega) (by omega) (by omega) ?_ -- pc_ 208
                refine sm_T_go 1 (c1 := (90, [some (.inr (.inr (some (13, 0)))), some (.inl c_), some (.inl a_), some (.inl b_), some (.inl fi_), some (.inl (n_ + 1))], [], sm_aI (sm_aI (sm_aI S_ 286 0 n_.toNat (S_.1 13 0 214)) 286 0 (n_ + 1).toNat (S_.1 13 0 214)) 286 0 (n_ + 1).toNat (S_.1 13 0 214))) rfl ?_
                refine ih_.2 fi_ (n_ + 1) (sm_aI (sm_aI (sm_aI S_ 286 0 n_.toNat (S_.1 13 0 214)) 286 0 (n_ + 1).toNat (S_.1 13 0 214)) 286 0 (n_ + 1).toNat (S_.1 13 0 214)) hIx32_ hFx33_ ⟨?_, trivial⟩ ?_
                · ((try simp only [rd_eq, rd_ne, rf_eq, rf_nk, rf_nt, rd_fa, rd_af, rd_fl, rd_al, rd_lf, rd_la, rd_leq, rd_lne, rd_fr, rd_ar, ne_eq, Nat.reduceEqDiff, not_false_eq_true]); omega)
                · omega
              · have cx31_ : ¬ (n_ < fi_) := of_decide_eq_false cx31_
                exfalso; omega
            · have cx28_ : ¬ ((S_.2.2.1 284 0 n_.toNat) = 0) := of_decide_eq_false cx28_
              refine sm_T_go 5 (c1 := (152, [some (.inr (.inr (some (13, 0)))), some (.inl c_), some (.inl a_), some (.inl b_), some (.inl fi_), some (.inl n_)], [.inl 0, .inl (S_.1 13 0 214), .inr (.inr (some (285, 0)))], sm_aI S_ 286 0 n_.toNat (S_.1 13 0 214))) rfl ?_
              refine sm_T_iast (n := 20010) rfl rfl (by omega) (by omega) ?_
              have hIx34_ : gi (sm_aI (sm_aI S_ 286 0 n_.toNat (S_.1 13 0 214)) 285 0 (S_.1 13 0 214).toNat 0) := gi_aI hIx11_ (show (-2147483648) ≤ 0 ∧ 0 ≤ 2147483647 from ⟨by omega, by omega⟩)
              have hFx35_ : ai_fr (sx_W vw_510) S0_ (sm_aI (sm_aI S_ 286 0 n_.toNat (S_.1 13 0 214)) 285 0 (S_.1 13 0 214).toNat 0) := ai_fr_tr hFx12_ (ai_fr_aI rfl)
              refine sm_T_go 4 (c1 := (159, [some (.inr (.inr (some (13, 0)))), some (.inl c_), some (.inl a_), some (.inl b_), some (.inl fi_), some (.inl n_)], [.inl 1, .inl (S_.1 13 0 214), .inr (.inr (some (13, 0)))], sm_aI (sm_aI S_ 286 0 n_.toNat (S_.1 13 0 214)) 285 0 (S_.1 13 0 214).toNat 0)) rfl ?_
              refine sm_T_bin (w := (S_.1 13 0 214) + 1) rfl (bi_add (by omega) (by omega) (by omega)) ?_ -- pc_ 159
              have hIx36_ : gi (sm_pI (sm_aI (sm_aI S_ 286 0 n_.toNat (S_.1 13 0 214)) 285 0 (S_.1 13 0 214).toNat 0) 13 0 214 ((S_.1 13 0 214) + 1)) := gi_pI hIx34_ (show 0 ≤ (S_.1 13 0 214) + 1 ∧ (S_.1 13 0 214) + 1 ≤ 20001 from ⟨by omega, by omega⟩)
              have hFx37_ : ai_fr (sx_W vw_510) S0_ (sm_pI (sm_aI (sm_aI S_ 286 0 n_.toNat (S_.1 13 0 214)) 285 0 (S_.1 13 0 214).toNat 0) 13 0 214 ((S_.1 13 0 214) + 1)) := ai_fr_tr hFx35_ (ai_fr_pI rfl)
              refine sm_T_go 5 (c1 := (170, [some (.inr (.inr (some (13, 0)))), some (.inl c_), some (.inl a_), some (.inl b_), some (.inl fi_), some (.inl n_)], [.inl 1, .inl n_, .inr (.inr (some (286, 0)))], sm_pI (sm_aI (sm_aI S_ 286 0 n_.toNat (S_.1 13 0 214)) 285 0 (S_.1 13 0 214).toNat 0) 13 0 214 ((S_.1 13 0 214) + 1))) rfl ?_
              refine sm_T_bin (w := n_ + 1) rfl (bi_add (by omega) (by omega) (by omega)) ?_ -- pc_ 170
              refine sm_T_go 2 (c1 := (175, [some (.inr (.inr (some (13, 0)))), some (.inl c_), some (.inl a_), some (.inl b_), some (.inl fi_), some (.inl n_)], [.inl ((S_.1 13 0 214) + 1), .inl (n_ + 1), .inr (.inr (some (286, 0)))], sm_pI (sm_aI (sm_aI S_ 286 0 n_.toNat (S_.1 13 0 214)) 285 0 (S_.1 13 0 214).toNat 0) 13 0 214 ((S_.1 13 0 214) + 1))) rfl ?_
              refine sm_T_iast (n := 257) rfl rfl (by omega) (by omega) ?_
              have hIx38_ : gi (sm_aI (sm_pI (sm_aI (sm_aI S_ 286 0 n_.toNat (S_.1 13 0 214)) 285 0 (S_.1 13 0 214).toNat 0) 13 0 214 ((S_.1 13 0 214) + 1)) 286 0 (n_ + 1).toNat ((S_.1 13 0 214) + 1)) := gi_aI hIx36_ (show 0 ≤ (S_.1 13 0 214) + 1 ∧ (S_.1 13 0 214) + 1 ≤ 20010 from ⟨by omega, by omega⟩)
              have hFx39_ : ai_fr (sx_W vw_510) S0_ (sm_aI (sm_pI (sm_aI (sm_aI S_ 286 0 n_.toNat (S_.1 13 0 214)) 285 0 (S_.1 13 0 214).toNat 0) 13 0 214 ((S_.1 13 0 214) + 1)) 286 0 (n_ + 1).toNat ((S_.1 13 0 214) + 1)) := ai_fr_tr hFx37_ (ai_fr_aI rfl)
              refine sm_T_go 2 (c1 := (180, [some (.inr (.inr (some (13, 0)))), some (.inl c_), some (.inl a_), some (.inl b_), some (.inl fi_), some (.inl n_)], [.inl fi_, .inl n_], sm_aI (sm_pI (sm_aI (sm_aI S_ 286 0 n_.toNat (S_.1 13 0 214)) 285 0 (S_.1 13 0 214).toNat 0) 13 0 214 ((S_.1 13 0 214) + 1)) 286 0 (n_ + 1).toNat ((S_.1 13 0 214) + 1))) rfl ?_
              refine sm_T_br (a := 2) (z := 15) rfl (fun cx40_ => ?_) (fun cx40_ => ?_)
              · have cx40_ : n_ < fi_ := of_decide_eq_true cx40_
                refine sm_T_go 4 (c1 := (202, [some (.inr (.inr (some (13, 0)))), some (.inl c_), some (.inl a_), some (.inl b_), some (.inl fi_), some (.inl n_)], [.inl 1, .inl n_, .inr (.inr (some (286, 0)))], sm_aI (sm_pI (sm_aI (sm_aI S_ 286 0 n_.toNat (S_.1 13 0 214)) 285 0 (S_.1 13 0 214).toNat 0) 13 0 214 ((S_.1 13 0 214) + 1)) 286 0 (n_ + 1).toNat ((S_.1 13 0 214) + 1))) rfl ?_
                refine sm_T_bin (w := n_ + 1) rfl (bi_add (by omega) (by omega) (by omega)) ?_ -- pc_ 202
                refine sm_T_go 2 (c1 := (207, [some (.inr (.inr (some (13, 0)))), some (.inl c_), some (.inl a_), some (.inl b_), some (.inl fi_), some (.inl n_)], [.inl ((S_.1 13 0 214) + 1), .inl (n_ + 1), .inr (.inr (some (286, 0)))], sm_aI (sm_pI (sm_aI (sm_aI S_ 286 0 n_.toNat (S_.1 13 0 214)) 285 0 (S_.1 13 0 214).toNat 0) 13 0 214 ((S_.1 13 0 214) + 1)) 286 0 (n_ + 1).toNat ((S_.1 13 0 214) + 1))) rfl ?_
                refine sm_T_iast (n := 257) rfl rfl (by omega) (by omega) ?_
                have hIx41_ : gi (sm_aI (sm_aI (sm_pI (sm_aI (sm_aI S_ 286 0 n_.toNat (S_.1 13 0 214)) 285 0 (S_.1 13 0 214).toNat 0) 13 0 214 ((S_.1 13 0 214) + 1)) 286 0 (n_ + 1).toNat ((S_.1 13 0 214) + 1)) 286 0 (n_ + 1).toNat ((S_.1 13 0 214) + 1)) := gi_aI hIx38_ (show 0 ≤ (S_.1 13 0 214) + 1 ∧ (S_.1 13 0 214) + 1 ≤ 20010 from ⟨by omega, by omega⟩)
                have hFx42_ : ai_fr (sx_W vw_510) S0_ (sm_aI (sm_aI (sm_pI (sm_aI (sm_aI S_ 286 0 n_.toNat (S_.1 13 0 214)) 285 0 (S_.1 13 0 214).toNat 0) 13 0 214 ((S_.1 13 0 214) + 1)) 286 0 (n_ + 1).toNat ((S_.1 13 0 214) + 1)) 286 0 (n_ + 1).toNat ((S_.1 13 0 214) + 1)) := ai_fr_tr hFx39_ (ai_fr_aI rfl)
                refine sm_T_inc (a := 5) (z := 1) (v := n_) (w := n_ + 1) rfl rfl (by omega) (by omega) (by omega) ?_ -- pc_ 208
                refine sm_T_go 1 (c1 := (90, [some (.inr (.inr (some (13, 0)))), some (.inl c_), some (.inl a_), some (.inl b_), some (.inl fi_), some (.inl (n_ + 1))], [], sm_aI (sm_aI (sm_pI (sm_aI (sm_aI S_ 286 0 n_.toNat (S_.1 13 0 214)) 285 0 (S_.1 13 0 214).toNat 0) 13 0 214 ((S_.1 13 0 214) + 1)) 286 0 (n_ + 1).toNat ((S_.1 13 0 214) + 1)) 286 0 (n_ + 1).toNat ((S_.1 13 0 214) + 1))) rfl ?_
                refine ih_.2 fi_ (n_ + 1) (sm_aI (sm_aI (sm_pI (sm_aI (sm_aI S_ 286 0 n_.toNat (S_.1 13 0 214)) 285 0 (S_.1 13 0 214).toNat 0) 13 0 214 ((S_.1 13 0 214) + 1)) 286 0 (n_ + 1).toNat ((S_.1 13 0 214) + 1)) 286 0 (n_ + 1).toNat ((S_.1 13 0 214) + 1)) hIx41_ hFx42_ ⟨?_, trivial⟩ ?_
                · ((try simp only [rd_eq, rd_ne, rf_eq, rf_nk, rf_nt, rd_fa, rd_af, rd_fl, rd_al, rd_lf, rd_la, rd_leq, rd_lne, rd_fr, rd_ar, ne_eq, Nat.reduceEqDiff, not_false_eq_true]); omega)
                · omega
              · have cx40_ : ¬ (n_ < fi_) := of_decide_eq_false cx40_
                exfalso; omega
          · have cx27_ : ¬ (((i_shr b_ n_) % 2) ≠ 1) := of_decide_eq_false cx27_
            refine sm_T_go 2 (c1 := (140, [some (.inr (.inr (some (13, 0)))), some (.inl c_), some (.inl a_), some (.inl b_), some (.inl fi_), some (.inl n_)], [.inl 1, .inl (S_.2.2.1 284 0 n_.toNat)], sm_aI S_ 286 0 n_.toNat (S_.1 13 0 214))) rfl ?_
            refine sm_T_br (a := 0) (z := 23) rfl (fun cx43_ => ?_) (fun cx43_ => ?_)
            · have cx43_ : (S_.2.2.1 284 0 n_.toNat) = 1 := of_decide_eq_true cx43_
              refine sm_T_go 4 (c1 := (170, [some (.inr (.inr (some (13, 0)))), some (.inl c_), some (.inl a_), some (.inl b_), some (.inl fi_), some (.inl n_)], [.inl 1, .inl n_, .inr (.inr (some (286, 0)))], sm_aI S_ 286 0 n_.toNat (S_.1 13 0 214))) rfl ?_
              refine sm_T_bin (w := n_ + 1) rfl (bi_add (by omega) (by omega) (by omega)) ?_ -- pc_ 170
              refine sm_T_go 2 (c1 := (175, [some (.inr (.inr (some (13, 0)))), some (.inl c_), some (.inl a_), some (.inl b_), some (.inl fi_), some (.inl n_)], [.inl (S_.1 13 0 214), .inl (n_ + 1), .inr (.inr (some (286, 0)))], sm_aI S_ 286 0 n_.toNat (S_.1 13 0 214))) rfl ?_
              refine sm_T_iast (n := 257) rfl rfl (by omega) (by omega) ?_
              have hIx44_ : gi (sm_aI (sm_aI S_ 286 0 n_.toNat (S_.1 13 0 214)) 286 0 (n_ + 1).toNat (S_.1 13 0 214)) := gi_aI hIx11_ (show 0 ≤ (S_.1 13 0 214) ∧ (S_.1 13 0 214) ≤ 20010 from ⟨by omega, by omega⟩)
              have hFx45_ : ai_fr (sx_W vw_510) S0_ (sm_aI (sm_aI S_ 286 0 n_.toNat (S_.1 13 0 214)) 286 0 (n_ + 1).toNat (S_.1 13 0 214)) := ai_fr_tr hFx12_ (ai_fr_aI rfl)
              refine sm_T_go 2 (c1 := (180, [some (.inr (.inr (some (13, 0)))), some (.inl c_), some (.inl a_), some (.inl b_), some (.inl fi_), some (.inl n_)], [.inl fi_, .inl n_], sm_aI (sm_aI S_ 286 0 n_.toNat (S_.1 13 0 214)) 286 0 (n_ + 1).toNat (S_.1 13 0 214))) rfl ?_
              refine sm_T_br (a := 2) (z := 15) rfl (fun cx46_ => ?_) (fun cx46_ => ?_)
              · have cx46_ : n_ < fi_ := of_decide_eq_true cx46_
                refine sm_T_go 4 (c1 := (202, [some (.inr (.inr (some (13, 0)))), some (.inl c_), some (.inl a_), some (.inl b_), some (.inl fi_), some (.inl n_)], [.inl 1, .inl n_, .inr (.inr (some (286, 0)))], sm_aI (sm_aI S_ 286 0 n_.toNat (S_.1 13 0 214)) 286 0 (n_ + 1).toNat (S_.1 13 0 214))) rfl ?_
                refine sm_T_bin (w := n_ + 1) rfl (bi_add (by omega) (by omega) (by omega)) ?_ -- pc_ 202
                refine sm_T_go 2 (c1 := (207, [some (.inr (.inr (some (13, 0)))), some (.inl c_), some (.inl a_), some (.inl b_), some (.inl fi_), some (.inl n_)], [.inl (S_.1 13 0 214), .inl (n_ + 1), .inr (.inr (some (286, 0)))], sm_aI (sm_aI S_ 286 0 n_.toNat (S_.1 13 0 214)) 286 0 (n_ + 1).toNat (S_.1 13 0 214))) rfl ?_
                refine sm_T_iast (n := 257) rfl rfl (by omega) (by omega) ?_
                have hIx47_ : gi (sm_aI (sm_aI (sm_aI S_ 286 0 n_.toNat (S_.1 13 0 214)) 286 0 (n_ + 1).toNat (S_.1 13 0 214)) 286 0 (n_ + 1).toNat (S_.1 13 0 214)) := gi_aI hIx44_ (show 0 ≤ (S_.1 13 0 214) ∧ (S_.1 13 0 214) ≤ 20010 from ⟨by omega, by omega⟩)
                have hFx48_ : ai_fr (sx_W vw_510) S0_ (sm_aI (sm_aI (sm_aI S_ 286 0 n_.toNat (S_.1 13 0 214)) 286 0 (n_ + 1).toNat (S_.1 13 0 214)) 286 0 (n_ + 1).toNat (S_.1 13 0 214)) := ai_fr_tr hFx45_ (ai_fr_aI rfl)
                refine sm_T_inc (a := 5) (z := 1) (v := n_) (w := n_ + 1) rfl rfl (by omega) (by omega) (by omega) ?_ -- pc_ 208
                refine sm_T_go 1 (c1 := (90, [some (.inr (.inr (some (13, 0)))), some (.inl c_), some (.inl a_), some (.inl b_), some (.inl fi_), some (.inl (n_ + 1))], [], sm_aI (sm_aI (sm_aI S_ 286 0 n_.toNat (S_.1 13 0 214)) 286 0 (n_ + 1).toNat (S_.1 13 0 214)) 286 0 (n_ + 1).toNat (S_.1 13 0 214))) rfl ?_
                refine ih_.2 fi_ (n_ + 1) (sm_aI (sm_aI (sm_aI S_ 286 0 n_.toNat (S_.1 13 0 214)) 286 0 (n_ + 1).toNat (S_.1 13 0 214)) 286 0 (n_ + 1).toNat (S_.1 13 0 214)) hIx47_ hFx48_ ⟨?_, trivial⟩ ?_
                · ((try simp only [rd_eq, rd_ne, rf_eq, rf_nk, rf_nt, rd_fa, rd_af, rd_fl, rd_al, rd_lf, rd_la, rd_leq, rd_lne, rd_fr, rd_ar, ne_eq, Nat.reduceEqDiff, not_false_eq_true]); omega)
                · omega
              · have cx46_ : ¬ (n_ < fi_) := of_decide_eq_false cx46_
                exfalso; omega
            · have cx43_ : ¬ ((S_.2.2.1 284 0 n_.toNat) = 1) := of_decide_eq_false cx43_
              refine sm_T_go 5 (c1 := (152, [some (.inr (.inr (some (13, 0)))), some (.inl c_), some (.inl a_), some (.inl b_), some (.inl fi_), some (.inl n_)], [.inl 0, .inl (S_.1 13 0 214), .inr (.inr (some (285, 0)))], sm_aI S_ 286 0 n_.toNat (S_.1 13 0 214))) rfl ?_
              refine sm_T_iast (n := 20010) rfl rfl (by omega) (by omega) ?_
              have hIx49_ : gi (sm_aI (sm_aI S_ 286 0 n_.toNat (S_.1 13 0 214)) 285 0 (S_.1 13 0 214).toNat 0) := gi_aI hIx11_ (show (-2147483648) ≤ 0 ∧ 0 ≤ 2147483647 from ⟨by omega, by omega⟩)
              have hFx50_ : ai_fr (sx_W vw_510) S0_ (sm_aI (sm_aI S_ 286 0 n_.toNat (S_.1 13 0 214)) 285 0 (S_.1 13 0 214).toNat 0) := ai_fr_tr hFx12_ (ai_fr_aI rfl)
              refine sm_T_go 4 (c1 := (159, [some (.inr (.inr (some (13, 0)))), some (.inl c_), some (.inl a_), some (.inl b_), some (.inl fi_), some (.inl n_)], [.inl 1, .inl (S_.1 13 0 214), .inr (.inr (some (13, 0)))], sm_aI (sm_aI S_ 286 0 n_.toNat (S_.1 13 0 214)) 285 0 (S_.1 13 0 214).toNat 0)) rfl ?_
              refine sm_T_bin (w := (S_.1 13 0 214) + 1) rfl (bi_add (by omega) (by omega) (by omega)) ?_ -- pc_ 159
              have hIx51_ : gi (sm_pI (sm_aI (sm_aI S_ 286 0 n_.toNat (S_.1 13 0 214)) 285 0 (S_.1 13 0 214).toNat 0) 13 0 214 ((S_.1 13 0 214) + 1)) := gi_pI hIx49_ (show 0 ≤ (S_.1 13 0 214) + 1 ∧ (S_.1 13 0 214) + 1 ≤ 20001 from ⟨by omega, by omega⟩)
              have hFx52_ : ai_fr (sx_W vw_510) S0_ (sm_pI (sm_aI (sm_aI S_ 286 0 n_.toNat (S_.1 13 0 214)) 285 0 (S_.1 13 0 214).toNat 0) 13 0 214 ((S_.1 13 0 214) + 1)) := ai_fr_tr hFx50_ (ai_fr_pI rfl)
              refine sm_T_go 5 (c1 := (170, [some (.inr (.inr (some (13, 0)))), some (.inl c_), some (.inl a_), some (.inl b_), some (.inl fi_), some (.inl n_)], [.inl 1, .inl n_, .inr (.inr (some (286, 0)))], sm_pI (sm_aI (sm_aI S_ 286 0 n_.toNat (S_.1 13 0 214)) 285 0 (S_.1 13 0 214).toNat 0) 13 0 214 ((S_.1 13 0 214) + 1))) rfl ?_
              refine sm_T_bin (w := n_ + 1) rfl (bi_add (by omega) (by omega) (by omega)) ?_ -- pc_ 170
              refine sm_T_go 2 (c1 := (175, [some (.inr (.inr (some (13, 0)))), some (.inl c_), some (.inl a_), some (.inl b_), some (.inl fi_), some (.inl n_)], [.inl ((S_.1 13 0 214) + 1), .inl (n_ + 1), .inr (.inr (some (286, 0)))], sm_pI (sm_aI (sm_aI S_ 286 0 n_.toNat (S_.1 13 0 214)) 285 0 (S_.1 13 0 214).toNat 0) 13 0 214 ((S_.1 13 0 214) + 1))) rfl ?_
              refine sm_T_iast (n := 257) rfl rfl (by omega) (by omega) ?_
              have hIx53_ : gi (sm_aI (sm_pI (sm_aI (sm_aI S_ 286 0 n_.toNat (S_.1 13 0 214)) 285 0 (S_.1 13 0 214).toNat 0) 13 0 214 ((S_.1 13 0 214) + 1)) 286 0 (n_ + 1).toNat ((S_.1 13 0 214) + 1)) := gi_aI hIx51_ (show 0 ≤ (S_.1 13 0 214) + 1 ∧ (S_.1 13 0 214) + 1 ≤ 20010 from ⟨by omega, by omega⟩)
              have hFx54_ : ai_fr (sx_W vw_510) S0_ (sm_aI (sm_pI (sm_aI (sm_aI S_ 286 0 n_.toNat (S_.1 13 0 214)) 285 0 (S_.1 13 0 214).toNat 0) 13 0 214 ((S_.1 13 0 214) + 1)) 286 0 (n_ + 1).toNat ((S_.1 13 0 214) + 1)) := ai_fr_tr hFx52_ (ai_fr_aI rfl)
              refine sm_T_go 2 (c1 := (180, [some (.inr (.inr (some (13, 0)))), some (.inl c_), some (.inl a_), some (.inl b_), some (.inl fi_), some (.inl n_)], [.inl fi_, .inl n_], sm_aI (sm_pI (sm_aI (sm_aI S_ 286 0 n_.toNat (S_.1 13 0 214)) 285 0 (S_.1 13 0 214).toNat 0) 13 0 214 ((S_.1 13 0 214) + 1)) 286 0 (n_ + 1).toNat ((S_.1 13 0 214) + 1))) rfl ?_
              refine sm_T_br (a := 2) (z := 15) rfl (fun cx55_ => ?_) (fun cx55_ => ?_)
              · have cx55_ : n_ < fi_ := of_decide_eq_true cx55_
                refine sm_T_go 4 (c1 := (202, [some (.inr (.inr (some (13, 0)))), some (.inl c_), some (.inl a_), some (.inl b_), some (.inl fi_), some (.inl n_)], [.inl 1, .inl n_, .inr (.inr (some (286, 0)))], sm_aI (sm_pI (sm_aI (sm_aI S_ 286 0 n_.toNat (S_.1 13 0 214)) 285 0 (S_.1 13 0 214).toNat 0) 13 0 214 ((S_.1 13 0 214) + 1)) 286 0 (n_ + 1).toNat ((S_.1 13 0 214) + 1))) rfl ?_
                refine sm_T_bin (w := n_ + 1) rfl (bi_add (by omega) (by omega) (by omega)) ?_ -- pc_ 202
                refine sm_T_go 2 (c1 := (207, [some (.inr (.inr (some (13, 0)))), some (.inl c_), some (.inl a_), some (.inl b_), some (.inl fi_), some (.inl n_)], [.inl ((S_.1 13 0 214) + 1), .inl (n_ + 1), .inr (.inr (some (286, 0)))], sm_aI (sm_pI (sm_aI (sm_aI S_ 286 0 n_.toNat (S_.1 13 0 214)) 285 0 (S_.1 13 0 214).toNat 0) 13 0 214 ((S_.1 13 0 214) + 1)) 286 0 (n_ + 1).toNat ((S_.1 13 0 214) + 1))) rfl ?_
                refine sm_T_iast (n := 257) rfl rfl (by omega) (by omega) ?_
                have hIx56_ : gi (sm_aI (sm_aI (sm_pI (sm_aI (sm_aI S_ 286 0 n_.toNat (S_.1 13 0 214)) 285 0 (S_.1 13 0 214).toNat 0) 13 0 214 ((S_.1 13 0 214) + 1)) 286 0 (n_ + 1).toNat ((S_.1 13 0 214) + 1)) 286 0 (n_ + 1).toNat ((S_.1 13 0 214) + 1)) := gi_aI hIx53_ (show 0 ≤ (S_.1 13 0 214) + 1 ∧ (S_.1 13 0 214) + 1 ≤ 20010 from ⟨by omega, by omega⟩)
                have hFx57_ : ai_fr (sx_W vw_510) S0_ (sm_aI (sm_aI (sm_pI (sm_aI (sm_aI S_ 286 0 n_.toNat (S_.1 13 0 214)) 285 0 (S_.1 13 0 214).toNat 0) 13 0 214 ((S_.1 13 0 214) + 1)) 286 0 (n_ + 1).toNat ((S_.1 13 0 214) + 1)) 286 0 (n_ + 1).toNat ((S_.1 13 0 214) + 1)) := ai_fr_tr hFx54_ (ai_fr_aI rfl)
                refine sm_T_inc (a := 5) (z := 1) (v := n_) (w := n_ + 1) rfl rfl (by omega) (by omega) (by omega) ?_ -- pc_ 208
                refine sm_T_go 1 (c1 := (90, [some (.inr (.inr (some (13, 0)))), some (.inl c_), some (.inl a_), some (.inl b_), some (.inl fi_), some (.inl (n_ + 1))], [], sm_aI (sm_aI (sm_pI (sm_aI (sm_aI S_ 286 0 n_.toNat (S_.1 13 0 214)) 285 0 (S_.1 13 0 214).toNat 0) 13 0 214 ((S_.1 13 0 214) + 1)) 286 0 (n_ + 1).toNat ((S_.1 13 0 214) + 1)) 286 0 (n_ + 1).toNat ((S_.1 13 0 214) + 1))) rfl ?_
                refine ih_.2 fi_ (n_ + 1) (sm_aI (sm_aI (sm_pI (sm_aI (sm_aI S_ 286 0 n_.toNat (S_.1 13 0 214)) 285 0 (S_.1 13 0 214).toNat 0) 13 0 214 ((S_.1 13 0 214) + 1)) 286 0 (n_ + 1).toNat ((S_.1 13 0 214) + 1)) 286 0 (n_ + 1).toNat ((S_.1 13 0 214) + 1)) hIx56_ hFx57_ ⟨?_, trivial⟩ ?_
                · ((try simp only [rd_eq, rd_ne, rf_eq, rf_nk, rf_nt, rd_fa, rd_af, rd_fl, rd_al, rd_lf, rd_la, rd_leq, rd_lne, rd_fr, rd_ar, ne_eq, Nat.reduceEqDiff, not_false_eq_true]); omega)
                · omega
              · have cx55_ : ¬ (n_ < fi_) := of_decide_eq_false cx55_
                exfalso; omega
set_option maxHeartbeats 1500000 in
set_option maxRecDepth 20000 in
theorem vc_510 {sc_ : Nat × (Nat → Int)} (c_ : Int) (a_ : Int) (b_ : Int) (S0_ : sm_S) (hI_ : gi S0_) (hc_ : 0 ≤ c_ ∧ c_ ≤ 3) (hx_ : S0_.2.2.1 223 0 c_.toNat + S0_.2.2.1 224 0 c_.toNat ≤ 12) (hg_ : cgt c_ S0_) (ho_ : con c_ S0_) (ha_ : 0 ≤ a_ ∧ a_ < 4096) (hb_ : 0 ≤ b_ ∧ b_ < 4096) : sm_T (mt_P sc_) 5 510 (0, [some (.inr (.inr (some (13, 0)))), some (.inl c_), some (.inl a_), some (.inl b_), none, none], [], S0_) (fun ro9_ => ∃ u_ S1_, ro9_ = (.inl u_, S1_, 0) ∧ vq_510 c_ a_ b_ S0_ u_ S1_) := by
  have hF_ : ai_fr (sx_W vw_510) S0_ S0_ := ai_fr_rf
  refine sm_T_go 4 (c1 := (5, [some (.inr (.inr (some (13, 0)))), some (.inl c_), some (.inl a_), some (.inl b_), none, none], [.inl 6, .inl a_, .inl c_, .inr (.inr (some (13, 0)))], S0_)) rfl ?_
  refine sm_T_bin (w := (a_ / 64)) rfl (bi_shr (k := 6) (by decide) (by omega) (by omega)) ?_ -- pc_ 5
  refine sm_T_go 3 (c1 := (9, [some (.inr (.inr (some (13, 0)))), some (.inl c_), some (.inl a_), some (.inl b_), none, none], [.inr (.inl 0), .inl (-1), .inl (-1), .inl (a_ / 64), .inl c_, .inr (.inr (some (13, 0)))], S0_)) rfl ?_
  refine sm_T_cal (d1 := 1) (Q1 := vq_430 c_ (a_ / 64) (-1) (-1) 0 S0_) rfl rfl (by decide) (vc_430 c_ (a_ / 64) (-1) (-1) 0 S0_ hI_ (by exact hc_) (by omega) (by exact hx_) (by exact hg_)) (fun u_ Sx1_ px4_ => ?_)
  obtain ⟨rfl, hIx2_, hFx3_, px4_⟩ := px4_
  have hFx5_ : ai_fr (sx_W vw_510) S0_ Sx1_ := ai_fr_tr hF_ (fr_le hFx3_ rfl)
  refine sm_T_go 2 (c1 := (15, [some (.inr (.inr (some (13, 0)))), some (.inl c_), some (.inl a_), some (.inl b_), some (.inl 0), none], [], Sx1_)) rfl ?_
  refine (vl_510 c_ a_ b_ S0_ hc_ hx_ hg_ ho_ ha_ hb_ _).1 0 Sx1_ hIx2_ hFx5_ ⟨?_, trivial⟩ (Nat.lt_succ_self _)
  · ((try simp only [rd_eq, rd_ne, rf_eq, rf_nk, rf_nt, rd_fa, rd_af, rd_fl, rd_al, rd_lf, rd_la, rd_leq, rd_lne, rd_fr, rd_ar, ne_eq, Nat.reduceEqDiff, not_false_eq_true]); omega)
/-! M_.arePatterns -/
def vw_511 : sx_Wl := ([], [], [])
def vq_511 (c_ : Int) (a_ : Int) (b_ : Int) (S0_ : sm_S) (u_ : Option sm_V) (S1_ : sm_S) : Prop := S0_ = S1_ ∧ ∃ v_ : Int, u_ = some (.inl v_) ∧ ((v_ = 1 ∧ 0 ≤ a_ ∧ a_ < 4096 ∧ 0 ≤ b_ ∧ b_ < 4096) ∨ v_ = 0)
set_option maxHeartbeats 400000 in
set_option maxRecDepth 20000 in
theorem vc_511 {sc_ : Nat × (Nat → Int)} (c_ : Int) (a_ : Int) (b_ : Int) (S0_ : sm_S) (hI_ : gi S0_) (hc_ : 0 ≤ c_ ∧ c_ ≤ 3) (hx_ : S0_.2.2.1 223 0 c_.toNat + S0_.2.2.1 224 0 c_.toNat ≤ 12) (ha_ : (-2147483648) ≤ a_ ∧ a_ ≤ 2147483647) (hb_ : (-2147483648) ≤ b_ ∧ b_ ≤ 2147483647) : sm_T (mt_P sc_) 1 511 (0, [some (.inr (.inr (some (13, 0)))), some (.inl c_), some (.inl a_), some (.inl b_)], [], S0_) (fun ro9_ => ∃ u_ S1_, ro9_ = (.inl u_, S1_, 0) ∧ vq_511 c_ a_ b_ S0_ u_ S1_) := by
  have hF_ : ai_fr (sx_W vw_511) S0_ S0_ := ai_fr_rf
  have cA_ : 0 ≤ S0_.2.2.1 223 0 c_.toNat ∧ S0_.2.2.1 223 0 c_.toNat ≤ 12 := hI_.2 223 0 _
  have cB_ : 0 ≤ S0_.2.2.1 224 0 c_.toNat ∧ S0_.2.2.1 224 0 c_.toNat ≤ 6 := hI_.2 224 0 _
  have cG_ : 0 ≤ S0_.2.2.1 228 0 c_.toNat ∧ S0_.2.2.1 228 0 c_.toNat ≤ 150 := hI_.2 228 0 _
  have w9_ := pw_le (n := (S0_.2.2.1 223 0 c_.toNat + S0_.2.2.1 224 0 c_.toNat).toNat) (m := 12) (by omega)
  refine sm_T_go 4 (c1 := (6, [some (.inr (.inr (some (13, 0)))), some (.inl c_), some (.inl a_), some (.inl b_)], [.inl c_, .inr (.inr (some (223, 0))), .inl a_], S0_)) rfl ?_
  refine sm_T_iald (n := 4) rfl rfl (by omega) (by omega) ?_
  have bx1_ : 0 ≤ S0_.2.2.1 223 0 c_.toNat ∧ S0_.2.2.1 223 0 c_.toNat ≤ 12 := hI_.2 223 0 _
  refine sm_T_go 3 (c1 := (12, [some (.inr (.inr (some (13, 0)))), some (.inl c_), some (.inl a_), some (.inl b_)], [.inl c_, .inr (.inr (some (224, 0))), .inl (S0_.2.2.1 223 0 c_.toNat), .inl a_], S0_)) rfl ?_
  refine sm_T_iald (n := 4) rfl rfl (by omega) (by omega) ?_
  have bx2_ : 0 ≤ S0_.2.2.1 224 0 c_.toNat ∧ S0_.2.2.1 224 0 c_.toNat ≤ 6 := hI_.2 224 0 _
  refine sm_T_bin (w := (S0_.2.2.1 223 0 c_.toNat) + (S0_.2.2.1 224 0 c_.toNat)) rfl (bi_add (by omega) (by omega) (by omega)) ?_ -- pc_ 13
  refine sm_T_cal (d1 := 0) (Q1 := vq_381 a_ ((S0_.2.2.1 223 0 c_.toNat) + (S0_.2.2.1 224 0 c_.toNat)) S0_) rfl rfl (by decide) (vc_381 a_ ((S0_.2.2.1 223 0 c_.toNat) + (S0_.2.2.1 224 0 c_.toNat)) S0_ hI_ (by omega) (by omega)) (fun u_ Sx3_ px6_ => ?_)
  obtain ⟨rfl, vx8_, rfl, px6_⟩ := px6_
  refine sm_T_b0 (a := 0) (z := 27) rfl (fun cx9_ => ?_) (fun cx9_ => ?_)
  · have cx9_ : vx8_ = 0 := of_decide_eq_true cx9_
    refine sm_T_go 1 (c1 := (45, [some (.inr (.inr (some (13, 0)))), some (.inl c_), some (.inl a_), some (.inl b_)], [.inl 0], S0_)) rfl ?_
    refine sm_T_rz rfl (by omega) ⟨_, _, rfl, rfl, _, rfl, ?_⟩
    omega
  · have cx9_ : ¬ (vx8_ = 0) := of_decide_eq_false cx9_
    refine sm_T_go 4 (c1 := (26, [some (.inr (.inr (some (13, 0)))), some (.inl c_), some (.inl a_), some (.inl b_)], [.inl c_, .inr (.inr (some (223, 0))), .inl b_], S0_)) rfl ?_
    refine sm_T_iald (n := 4) rfl rfl (by omega) (by omega) ?_
    refine sm_T_go 3 (c1 := (32, [some (.inr (.inr (some (13, 0)))), some (.inl c_), some (.inl a_), some (.inl b_)], [.inl c_, .inr (.inr (some (224, 0))), .inl (S0_.2.2.1 223 0 c_.toNat), .inl b_], S0_)) rfl ?_
    refine sm_T_iald (n := 4) rfl rfl (by omega) (by omega) ?_
    refine sm_T_bin (w := (S0_.2.2.1 223 0 c_.toNat) + (S0_.2.2.1 224 0 c_.toNat)) rfl (bi_add (by omega) (by omega) (by omega)) ?_ -- pc_ 33
    refine sm_T_cal (d1 := 0) (Q1 := vq_381 b_ ((S0_.2.2.1 223 0 c_.toNat) + (S0_.2.2.1 224 0 c_.toNat)) S0_) rfl rfl (by decide) (vc_381 b_ ((S0_.2.2.1 223 0 c_.toNat) + (S0_.2.2.1 224 0 c_.toNat)) S0_ hI_ (by omega) (by omega)) (fun u_ Sx10_ px13_ => ?_)
    obtain ⟨rfl, vx15_, rfl, px13_⟩ := px13_
    refine sm_T_b0 (a := 0) (z := 7) rfl (fun cx16_ => ?_) (fun cx16_ => ?_)
    · have cx16_ : vx15_ = 0 := of_decide_eq_true cx16_
      refine sm_T_go 1 (c1 := (45, [some (.inr (.inr (some (13, 0)))), some (.inl c_), some (.inl a_), some (.inl b_)], [.inl 0], S0_)) rfl ?_
      refine sm_T_rz rfl (by omega) ⟨_, _, rfl, rfl, _, rfl, ?_⟩
      omega
    · have cx16_ : ¬ (vx15_ = 0) := of_decide_eq_false cx16_
      refine sm_T_go 2 (c1 := (45, [some (.inr (.inr (some (13, 0)))), some (.inl c_), some (.inl a_), some (.inl b_)], [.inl 1], S0_)) rfl ?_
      refine sm_T_rz rfl (by omega) ⟨_, _, rfl, rfl, _, rfl, ?_⟩
      omega
/-! M_.wave -/
def vw_512 : sx_Wl := ([(13, 0), (13, 159), (13, 214)], [238, 243, 244, 245, 246, 247, 248, 249, 250, 270, 284, 285, 286, 287, 288], [])
def vq_512 (a1_ : Int) (a2_ : Int) (a3_ : Int) (a4_ : Int) (a5_ : Int) (S0_ : sm_S) (u_ : Option sm_V) (S1_ : sm_S) : Prop := ∃ v_ : Int, u_ = some (.inl v_) ∧ gi S1_ ∧ ai_fr (sx_W vw_512) S0_ S1_ ∧ ((-2147483648 ≤ v_ ∧ v_ ≤ 2147483647) ∧ jR S1_)
set_option maxHeartbeats 400000 in
set_option maxRecDepth 20000 in
theorem vl_512 {sc_ : Nat × (Nat → Int)} (a1_ : Int) (a2_ : Int) (a3_ : Int) (a4_ : Int) (a5_ : Int) (S0_ : sm_S) (ha1_ : (-2147483648) ≤ a1_ ∧ a1_ ≤ 2147483647) (ha2_ : (-2147483648) ≤ a2_ ∧ a2_ ≤ 2147483647) (ha3_ : (-2147483648) ≤ a3_ ∧ a3_ ≤ 2147483647) (ha4_ : (-2147483648) ≤ a4_ ∧ a4_ ≤ 2147483647) (ha5_ : (-2147483648) ≤ a5_ ∧ a5_ ≤ 2147483647) (hJ_ : jR S0_) : ∀ nn_ : Nat, (∀ (v9_ : Int) (k_ : Int) (S_ : sm_S), gi S_ → ai_fr (sx_W vw_512) S0_ S_ → ((0 ≤ a4_ ∧ a4_ < 168 ∧ 0 ≤ k_ ∧ k_ ≤ 20010) ∧ True) → ((90000 - k_).toNat) < nn_ → sm_T (mt_P sc_) 6 512 (86, [some (.inr (.inr (some (13, 0)))), some (.inl a1_), some (.inl a2_), some (.inl a3_), some (.inl a4_), some (.inl a5_), some (.inl v9_), some (.inl k_)], [], S_) (fun ro9_ => ∃ u_ S1_, ro9_ = (.inl u_, S1_, 0) ∧ vq_512 a1_ a2_ a3_ a4_ a5_ S0_ u_ S1_)) := by
  intro nn_
  induction nn_ with
  | zero => exact fun _ _ _ _ _ _ h_ => absurd h_ (Nat.not_lt_zero _)
  | succ nn_ ih_ =>
    rintro v9_ k_ S_ hI_ hF_ ⟨h0_, -⟩ hm_
    refine sm_T_go 5 (c1 := (95, [some (.inr (.inr (some (13, 0)))), some (.inl a1_), some (.inl a2_), some (.inl a3_), some (.inl a4_), some (.inl a5_), some (.inl v9_), some (.inl k_)], [.inl 1, .inl a4_, .inr (.inr (some (286, 0))), .inl k_], S_)) rfl ?_
    refine sm_T_bin (w := a4_ + 1) rfl (bi_add (by omega) (by omega) (by omega)) ?_ -- pc_ 95
    refine sm_T_iald (n := 257) rfl rfl (by omega) (by omega) ?_
    have bx1_ : 0 ≤ S_.2.2.1 286 0 (a4_ + 1).toNat ∧ S_.2.2.1 286 0 (a4_ + 1).toNat ≤ 20010 := hI_.2 286 0 _
    refine sm_T_br (a := 3) (z := 38) rfl (fun cx2_ => ?_) (fun cx2_ => ?_)
    · have cx2_ : (S_.2.2.1 286 0 (a4_ + 1).toNat) ≤ k_ := of_decide_eq_true cx2_
      refine sm_T_go 1 (c1 := (137, [some (.inr (.inr (some (13, 0)))), some (.inl a1_), some (.inl a2_), some (.inl a3_), some (.inl a4_), some (.inl a5_), some (.inl v9_), some (.inl k_)], [.inl v9_], S_)) rfl ?_
      refine sm_T_b0 (a := 0) (z := 7) rfl (fun cx3_ => ?_) (fun cx3_ => ?_)
      · have cx3_ : v9_ = 0 := of_decide_eq_true cx3_
        refine sm_T_go 1 (c1 := (145, [some (.inr (.inr (some (13, 0)))), some (.inl a1_), some (.inl a2_), some (.inl a3_), some (.inl a4_), some (.inl a5_), some (.inl v9_), some (.inl k_)], [.inl 0], S_)) rfl ?_
        refine sm_T_ri rfl ⟨_, _, rfl, _, rfl, hI_, hF_, ?_⟩
        exact ⟨⟨by omega, by omega⟩, jR_fr hJ_ hI_ hF_⟩
      · have cx3_ : ¬ (v9_ = 0) := of_decide_eq_false cx3_
        refine sm_T_go 2 (c1 := (145, [some (.inr (.inr (some (13, 0)))), some (.inl a1_), some (.inl a2_), some (.inl a3_), some (.inl a4_), some (.inl a5_), some (.inl v9_), some (.inl k_)], [.inl 1], S_)) rfl ?_
        refine sm_T_ri rfl ⟨_, _, rfl, _, rfl, hI_, hF_, ?_⟩
        exact ⟨⟨by omega, by omega⟩, jR_fr hJ_ hI_ hF_⟩
    · have cx2_ : ¬ ((S_.2.2.1 286 0 (a4_ + 1).toNat) ≤ k_) := of_decide_eq_false cx2_
      refine sm_T_go 3 (c1 := (106, [some (.inr (.inr (some (13, 0)))), some (.inl a1_), some (.inl a2_), some (.inl a3_), some (.inl a4_), some (.inl a5_), some (.inl v9_), some (.inl k_)], [.inl k_, .inr (.inr (some (285, 0)))], S_)) rfl ?_
      refine sm_T_iald (n := 20010) rfl rfl (by omega) (by omega) ?_
      have bx4_ : (-2147483648) ≤ S_.2.2.1 285 0 k_.toNat ∧ S_.2.2.1 285 0 k_.toNat ≤ 2147483647 := hI_.2 285 0 _
      refine sm_T_go 1 (c1 := (109, [some (.inr (.inr (some (13, 0)))), some (.inl a1_), some (.inl a2_), some (.inl a3_), some (.inl a4_), some (.inl a5_), some (.inl v9_), some (.inl k_)], [.inl a5_, .inl (S_.2.2.1 285 0 k_.toNat)], S_)) rfl ?_
      refine sm_T_br (a := 4) (z := 16) rfl (fun cx5_ => ?_) (fun cx5_ => ?_)
      · have cx5_ : a5_ < (S_.2.2.1 285 0 k_.toNat) := of_decide_eq_true cx5_
        refine sm_T_go 2 (c1 := (129, [some (.inr (.inr (some (13, 0)))), some (.inl a1_), some (.inl a2_), some (.inl a3_), some (.inl a4_), some (.inl a5_), some (.inl v9_), some (.inl k_)], [], S_)) rfl ?_
        refine sm_T_inc (a := 7) (z := 1) (v := k_) (w := k_ + 1) rfl rfl (by omega) (by omega) (by omega) ?_ -- pc_ 129
        refine sm_T_go 1 (c1 := (86, [some (.inr (.inr (some (13, 0)))), some (.inl a1_), some (.inl a2_), some (.inl a3_), some (.inl a4_), some (.inl a5_), some (.inl v9_), some (.inl (k_ + 1))], [], S_)) rfl ?_
        refine ih_ v9_ (k_ + 1) S_ hI_ hF_ ⟨?_, trivial⟩ ?_
        · omega
        · omega
      · have cx5_ : ¬ (a5_ < (S_.2.2.1 285 0 k_.toNat)) := of_decide_eq_false cx5_
        refine sm_T_go 1 (c1 := (114, [some (.inr (.inr (some (13, 0)))), some (.inl a1_), some (.inl a2_), some (.inl a3_), some (.inl a4_), some (.inl a5_), some (.inl v9_), some (.inl k_)], [.inl v9_], S_)) rfl ?_
        refine sm_T_b0 (a := 1) (z := 7) rfl (fun cx6_ => ?_) (fun cx6_ => ?_)
        · have cx6_ : v9_ ≠ 0 := of_decide_eq_true cx6_
          refine sm_T_go 3 (c1 := (129, [some (.inr (.inr (some (13, 0)))), some (.inl a1_), some (.inl a2_), some (.inl a3_), some (.inl a4_), some (.inl a5_), some (.inl 0), some (.inl k_)], [], S_)) rfl ?_
          refine sm_T_inc (a := 7) (z := 1) (v := k_) (w := k_ + 1) rfl rfl (by omega) (by omega) (by omega) ?_ -- pc_ 129
          refine sm_T_go 1 (c1 := (86, [some (.inr (.inr (some (13, 0)))), some (.inl a1_), some (.inl a2_), some (.inl a3_), some (.inl a4_), some (.inl a5_), some (.inl 0), some (.inl (k_ + 1))], [], S_)) rfl ?_
          refine ih_ 0 (k_ + 1) S_ hI_ hF_ ⟨?_, trivial⟩ ?_
          · omega
          · omega
        · have cx6_ : ¬ (v9_ ≠ 0) := of_decide_eq_false cx6_
          refine sm_T_go 3 (c1 := (129, [some (.inr (.inr (some (13, 0)))), some (.inl a1_), some (.inl a2_), some (.inl a3_), some (.inl a4_), some (.inl a5_), some (.inl 1), some (.inl k_)], [], S_)) rfl ?_
          refine sm_T_inc (a := 7) (z := 1) (v := k_) (w := k_ + 1) rfl rfl (by omega) (by omega) (by omega) ?_ -- pc_ 129
          refine sm_T_go 1 (c1 := (86, [some (.inr (.inr (some (13, 0)))), some (.inl a1_), some (.inl a2_), some (.inl a3_), some (.inl a4_), some (.inl a5_), some (.inl 1), some (.inl (k_ + 1))], [], S_)) rfl ?_
          refine ih_ 1 (k_ + 1) S_ hI_ hF_ ⟨?_, trivial⟩ ?_
          · omega
          · omega
set_option maxHeartbeats 400000 in
set_option maxRecDepth 20000 in
theorem vc_512 {sc_ : Nat × (Nat → Int)} (a1_ : Int) (a2_ : Int) (a3_ : Int) (a4_ : Int) (a5_ : Int) (S0_ : sm_S) (hI_ : gi S0_) (ha1_ : (-2147483648) ≤ a1_ ∧ a1_ ≤ 2147483647) (ha2_ : (-2147483648) ≤ a2_ ∧ a2_ ≤ 2147483647) (ha3_ : (-2147483648) ≤ a3_ ∧ a3_ ≤ 2147483647) (ha4_ : (-2147483648) ≤ a4_ ∧ a4_ ≤ 2147483647) (ha5_ : (-2147483648) ≤ a5_ ∧ a5_ ≤ 2147483647) (hJ_ : jR S0_) : sm_T (mt_P sc_) 6 512 (0, [some (.inr (.inr (some (13, 0)))), some (.inl a1_), some (.inl a2_), some (.inl a3_), some (.inl a4_), some (.inl a5_), none, none], [], S0_) (fun ro9_ => ∃ u_ S1_, ro9_ = (.inl u_, S1_, 0) ∧ vq_512 a1_ a2_ a3_ a4_ a5_ S0_ u_ S1_) := by
  have hF_ : ai_fr (sx_W vw_512) S0_ S0_ := ai_fr_rf
  refine sm_T_go 4 (c1 := (5, [some (.inr (.inr (some (13, 0)))), some (.inl a1_), some (.inl a2_), some (.inl a3_), some (.inl a4_), some (.inl a5_), none, none], [.inl a4_, .inl a1_, .inr (.inr (some (13, 0))), .inr (.inr (some (13, 0)))], S0_)) rfl ?_
  refine sm_T_cal (d1 := 1) (Q1 := vq_450 a1_ a4_ S0_) rfl rfl (by decide) (vc_450 a1_ a4_ S0_ hI_ (by omega) (by omega)) (fun u_ Sx1_ px4_ => ?_)
  obtain ⟨rfl, vx6_, rfl, px4_⟩ := px4_
  have e5_ := px4_
  refine sm_T_b0 (a := 1) (z := 7) rfl (fun cx7_ => ?_) (fun cx7_ => ?_)
  · have cx7_ : vx6_ ≠ 0 := of_decide_eq_true cx7_
    have K9_ : cRk a1_ S0_ := hJ_.2 a1_ (by omega) (by omega) (by omega)
    obtain ⟨K1_, K2_, K3_, K4_, K5_, K6_, K7_⟩ := K9_
    refine sm_T_go 4 (c1 := (19, [some (.inr (.inr (some (13, 0)))), some (.inl a1_), some (.inl a2_), some (.inl a3_), some (.inl a4_), some (.inl a5_), none, none], [.inl a3_, .inl a2_, .inl a1_, .inr (.inr (some (13, 0))), .inr (.inr (some (13, 0)))], S0_)) rfl ?_
    refine sm_T_cal (d1 := 1) (Q1 := vq_511 a1_ a2_ a3_ S0_) rfl rfl (by decide) (vc_511 a1_ a2_ a3_ S0_ hI_ (by omega) (by exact K1_) (by omega) (by omega)) (fun u_ Sx8_ px11_ => ?_)
    obtain ⟨rfl, vx13_, rfl, px11_⟩ := px11_
    have e19_ := px11_
    refine sm_T_b0 (a := 0) (z := 15) rfl (fun cx14_ => ?_) (fun cx14_ => ?_)
    · have cx14_ : vx13_ = 0 := of_decide_eq_true cx14_
      have hIx15_ : gi (sm_pI S0_ 13 0 0 2) := gi_pI hI_ (show 0 ≤ 2 ∧ 2 ≤ 4 from ⟨by omega, by omega⟩)
      have hFx16_ : ai_fr (sx_W vw_512) S0_ (sm_pI S0_ 13 0 0 2) := ai_fr_tr hF_ (ai_fr_pI rfl)
      refine sm_T_go 7 (c1 := (67, [some (.inr (.inr (some (13, 0)))), some (.inl a1_), some (.inl a2_), some (.inl a3_), some (.inl a4_), some (.inl a5_), none, none], [.inl 0], sm_pI S0_ 13 0 0 2)) rfl ?_
      refine sm_T_ri rfl ⟨_, _, rfl, _, rfl, hIx15_, hFx16_, ?_⟩
      exact ⟨⟨by omega, by omega⟩, jR_fr hJ_ hIx15_ hFx16_⟩
    · have cx14_ : ¬ (vx13_ = 0) := of_decide_eq_false cx14_
      refine sm_T_go 2 (c1 := (28, [some (.inr (.inr (some (13, 0)))), some (.inl a1_), some (.inl a2_), some (.inl a3_), some (.inl a4_), some (.inl a5_), none, none], [.inl (-1), .inl a5_, .inr (.inr (some (13, 0)))], S0_)) rfl ?_
      refine sm_T_nt (u := some (.inl 100000)) (S1 := S0_) rfl rfl rfl ?_
      refine sm_T_cal (d1 := 0) (Q1 := vq_278 a5_ (-1) 100000 S0_) rfl rfl (by decide) (vc_278 a5_ (-1) 100000 S0_ hI_ ) (fun u_ Sx17_ px20_ => ?_)
      obtain ⟨rfl, vx22_, rfl, px20_⟩ := px20_
      have e31_ := px20_
      refine sm_T_b0 (a := 1) (z := 7) rfl (fun cx23_ => ?_) (fun cx23_ => ?_)
      · have cx23_ : vx22_ ≠ 0 := of_decide_eq_true cx23_
        refine sm_T_go 4 (c1 := (45, [some (.inr (.inr (some (13, 0)))), some (.inl a1_), some (.inl a2_), some (.inl a3_), some (.inl a4_), some (.inl a5_), none, none], [.inl a3_, .inl a2_, .inl a1_, .inr (.inr (some (13, 0))), .inr (.inr (some (13, 0)))], S0_)) rfl ?_
        refine sm_T_cal (d1 := 5) (Q1 := vq_510 a1_ a2_ a3_ S0_) rfl rfl (by decide) (vc_510 a1_ a2_ a3_ S0_ hI_ (by omega) (by exact K1_) (by exact K4_) (by exact K5_) (by omega) (by omega)) (fun u_ Sx24_ px27_ => ?_)
        obtain ⟨vx29_, rfl, hIx25_, hFx26_, px27_⟩ := px27_
        have hFx28_ : ai_fr (sx_W vw_512) S0_ Sx24_ := ai_fr_tr hF_ (fr_le hFx26_ rfl)
        refine sm_T_b0 (a := 0) (z := 7) rfl (fun cx30_ => ?_) (fun cx30_ => ?_)
        · have cx30_ : vx29_ = 0 := of_decide_eq_true cx30_
          have hIx31_ : gi (sm_pI Sx24_ 13 0 0 0) := gi_pI hIx25_ (show 0 ≤ 0 ∧ 0 ≤ 4 from ⟨by omega, by omega⟩)
          have hFx32_ : ai_fr (sx_W vw_512) S0_ (sm_pI Sx24_ 13 0 0 0) := ai_fr_tr hFx28_ (ai_fr_pI rfl)
          refine sm_T_go 8 (c1 := (74, [some (.inr (.inr (some (13, 0)))), some (.inl a1_), some (.inl a2_), some (.inl a3_), some (.inl a4_), some (.inl a5_), none, none], [.inl a4_, .inr (.inr (some (284, 0)))], sm_pI Sx24_ 13 0 0 0)) rfl ?_
          refine sm_T_zald (n := 256) rfl rfl (by omega) (by omega) ?_
          have bx33_ : 0 ≤ Sx24_.2.2.1 284 0 a4_.toNat ∧ Sx24_.2.2.1 284 0 a4_.toNat ≤ 1 := hIx25_.2 284 0 _
          refine sm_T_go 4 (c1 := (83, [some (.inr (.inr (some (13, 0)))), some (.inl a1_), some (.inl a2_), some (.inl a3_), some (.inl a4_), some (.inl a5_), some (.inl (Sx24_.2.2.1 284 0 a4_.toNat)), none], [.inl a4_, .inr (.inr (some (286, 0)))], sm_pI Sx24_ 13 0 0 0)) rfl ?_
          refine sm_T_iald (n := 257) rfl rfl (by omega) (by omega) ?_
          have bx34_ : 0 ≤ Sx24_.2.2.1 286 0 a4_.toNat ∧ Sx24_.2.2.1 286 0 a4_.toNat ≤ 20010 := hIx25_.2 286 0 _
          refine sm_T_go 1 (c1 := (86, [some (.inr (.inr (some (13, 0)))), some (.inl a1_), some (.inl a2_), some (.inl a3_), some (.inl a4_), some (.inl a5_), some (.inl (Sx24_.2.2.1 284 0 a4_.toNat)), some (.inl (Sx24_.2.2.1 286 0 a4_.toNat))], [], sm_pI Sx24_ 13 0 0 0)) rfl ?_
          refine (vl_512 a1_ a2_ a3_ a4_ a5_ S0_ ha1_ ha2_ ha3_ ha4_ ha5_ hJ_ _) (Sx24_.2.2.1 284 0 a4_.toNat) (Sx24_.2.2.1 286 0 a4_.toNat) (sm_pI Sx24_ 13 0 0 0) hIx31_ hFx32_ ⟨?_, trivial⟩ (Nat.lt_succ_self _)
          · omega
        · have cx30_ : ¬ (vx29_ = 0) := of_decide_eq_false cx30_
          have hIx35_ : gi (sm_pI Sx24_ 13 0 0 3) := gi_pI hIx25_ (show 0 ≤ 3 ∧ 3 ≤ 4 from ⟨by omega, by omega⟩)
          have hFx36_ : ai_fr (sx_W vw_512) S0_ (sm_pI Sx24_ 13 0 0 3) := ai_fr_tr hFx28_ (ai_fr_pI rfl)
          refine sm_T_go 7 (c1 := (67, [some (.inr (.inr (some (13, 0)))), some (.inl a1_), some (.inl a2_), some (.inl a3_), some (.inl a4_), some (.inl a5_), none, none], [.inl 0], sm_pI Sx24_ 13 0 0 3)) rfl ?_
          refine sm_T_ri rfl ⟨_, _, rfl, _, rfl, hIx35_, hFx36_, ?_⟩
          exact ⟨⟨by omega, by omega⟩, jR_fr hJ_ hIx35_ hFx36_⟩
      · have cx23_ : ¬ (vx22_ ≠ 0) := of_decide_eq_false cx23_
        have hIx37_ : gi (sm_pI S0_ 13 0 0 2) := gi_pI hI_ (show 0 ≤ 2 ∧ 2 ≤ 4 from ⟨by omega, by omega⟩)
        have hFx38_ : ai_fr (sx_W vw_512) S0_ (sm_pI S0_ 13 0 0 2) := ai_fr_tr hF_ (ai_fr_pI rfl)
        refine sm_T_go 7 (c1 := (67, [some (.inr (.inr (some (13, 0)))), some (.inl a1_), some (.inl a2_), some (.inl a3_), some (.inl a4_), some (.inl a5_), none, none], [.inl 0], sm_pI S0_ 13 0 0 2)) rfl ?_
        refine sm_T_ri rfl ⟨_, _, rfl, _, rfl, hIx37_, hFx38_, ?_⟩
        exact ⟨⟨by omega, by omega⟩, jR_fr hJ_ hIx37_ hFx38_⟩
  · have cx7_ : ¬ (vx6_ ≠ 0) := of_decide_eq_false cx7_
    have hIx39_ : gi (sm_pI S0_ 13 0 0 1) := gi_pI hI_ (show 0 ≤ 1 ∧ 1 ≤ 4 from ⟨by omega, by omega⟩)
    have hFx40_ : ai_fr (sx_W vw_512) S0_ (sm_pI S0_ 13 0 0 1) := ai_fr_tr hF_ (ai_fr_pI rfl)
    refine sm_T_go 7 (c1 := (67, [some (.inr (.inr (some (13, 0)))), some (.inl a1_), some (.inl a2_), some (.inl a3_), some (.inl a4_), some (.inl a5_), none, none], [.inl 0], sm_pI S0_ 13 0 0 1)) rfl ?_
    refine sm_T_ri rfl ⟨_, _, rfl, _, rfl, hIx39_, hFx40_, ?_⟩
    exact ⟨⟨by omega, by omega⟩, jR_fr hJ_ hIx39_ hFx40_⟩
/-! M_.changes -/
def vw_513 : sx_Wl := ([(13, 0), (13, 159), (13, 214)], [238, 243, 244, 245, 246, 247, 248, 249, 250, 270, 284, 285, 286, 287, 288], [])
def vq_513 (a1_ : Int) (a2_ : Int) (a3_ : Int) (a4_ : Int) (S0_ : sm_S) (u_ : Option sm_V) (S1_ : sm_S) : Prop := ∃ v_ : Int, u_ = some (.inl v_) ∧ gi S1_ ∧ ai_fr (sx_W vw_513) S0_ S1_ ∧ ((-2147483648 ≤ v_ ∧ v_ ≤ 2147483647) ∧ jR S1_)
set_option maxHeartbeats 400000 in
set_option maxRecDepth 20000 in
theorem vl_513 {sc_ : Nat × (Nat → Int)} (a1_ : Int) (a2_ : Int) (a3_ : Int) (a4_ : Int) (S0_ : sm_S) (ha1_ : (-2147483648) ≤ a1_ ∧ a1_ ≤ 2147483647) (ha2_ : (-2147483648) ≤ a2_ ∧ a2_ ≤ 2147483647) (ha3_ : (-2147483648) ≤ a3_ ∧ a3_ ≤ 2147483647) (ha4_ : (-2147483648) ≤ a4_ ∧ a4_ ≤ 2147483647) (hJ_ : jR S0_) : ∀ nn_ : Nat, (∀ (la_ : Int) (k_ : Int) (S_ : sm_S), gi S_ → ai_fr (sx_W vw_513) S0_ S_ → ((-1 ≤ a4_ ∧ a4_ < 168 ∧ 0 ≤ k_ ∧ k_ ≤ 20010 ∧ -2147483648 ≤ la_ ∧ la_ ≤ 2147483647) ∧ True) → ((90000 - k_).toNat) < nn_ → sm_T (mt_P sc_) 6 513 (76, [some (.inr (.inr (some (13, 0)))), some (.inl a1_), some (.inl a2_), some (.inl a3_), some (.inl a4_), some (.inl la_), some (.inl k_)], [], S_) (fun ro9_ => ∃ u_ S1_, ro9_ = (.inl u_, S1_, 0) ∧ vq_513 a1_ a2_ a3_ a4_ S0_ u_ S1_)) := by
  intro nn_
  induction nn_ with
  | zero => exact fun _ _ _ _ _ _ h_ => absurd h_ (Nat.not_lt_zero _)
  | succ nn_ ih_ =>
    rintro la_ k_ S_ hI_ hF_ ⟨h0_, -⟩ hm_
    have bx1_ : 0 ≤ S_.1 13 0 214 ∧ S_.1 13 0 214 ≤ 20001 := hI_.1 13 0 214 rfl
    refine sm_T_go 3 (c1 := (82, [some (.inr (.inr (some (13, 0)))), some (.inl a1_), some (.inl a2_), some (.inl a3_), some (.inl a4_), some (.inl la_), some (.inl k_)], [.inl (S_.1 13 0 214), .inl k_], S_)) rfl ?_
    refine sm_T_br (a := 3) (z := 35) rfl (fun cx2_ => ?_) (fun cx2_ => ?_)
    · have cx2_ : (S_.1 13 0 214) ≤ k_ := of_decide_eq_true cx2_
      refine sm_T_go 2 (c1 := (120, [some (.inr (.inr (some (13, 0)))), some (.inl a1_), some (.inl a2_), some (.inl a3_), some (.inl a4_), some (.inl la_), some (.inl k_)], [.inl (-1), .inl a4_], S_)) rfl ?_
      refine sm_T_br (a := 1) (z := 8) rfl (fun cx3_ => ?_) (fun cx3_ => ?_)
      · have cx3_ : a4_ ≠ (-1) := of_decide_eq_true cx3_
        refine sm_T_go 4 (c1 := (135, [some (.inr (.inr (some (13, 0)))), some (.inl a1_), some (.inl a2_), some (.inl a3_), some (.inl a4_), some (.inl la_), some (.inl k_)], [.inl 1, .inl a4_, .inr (.inr (some (286, 0)))], S_)) rfl ?_
        refine sm_T_bin (w := a4_ + 1) rfl (bi_add (by omega) (by omega) (by omega)) ?_ -- pc_ 135
        refine sm_T_iald (n := 257) rfl rfl (by omega) (by omega) ?_
        have bx4_ : 0 ≤ S_.2.2.1 286 0 (a4_ + 1).toNat ∧ S_.2.2.1 286 0 (a4_ + 1).toNat ≤ 20010 := hI_.2 286 0 _
        refine sm_T_go 3 (c1 := (143, [some (.inr (.inr (some (13, 0)))), some (.inl a1_), some (.inl a2_), some (.inl a3_), some (.inl a4_), some (.inl la_), some (.inl k_)], [.inl a4_, .inr (.inr (some (286, 0))), .inl (S_.2.2.1 286 0 (a4_ + 1).toNat)], S_)) rfl ?_
        refine sm_T_iald (n := 257) rfl rfl (by omega) (by omega) ?_
        have bx5_ : 0 ≤ S_.2.2.1 286 0 a4_.toNat ∧ S_.2.2.1 286 0 a4_.toNat ≤ 20010 := hI_.2 286 0 _
        refine sm_T_bin (w := (S_.2.2.1 286 0 (a4_ + 1).toNat) - (S_.2.2.1 286 0 a4_.toNat)) rfl (bi_sub (by omega) (by omega) (by omega)) ?_ -- pc_ 144
        refine sm_T_ri rfl ⟨_, _, rfl, _, rfl, hI_, hF_, ?_⟩
        exact ⟨⟨by omega, by omega⟩, jR_fr hJ_ hI_ hF_⟩
      · have cx3_ : ¬ (a4_ ≠ (-1)) := of_decide_eq_false cx3_
        refine sm_T_go 2 (c1 := (145, [some (.inr (.inr (some (13, 0)))), some (.inl a1_), some (.inl a2_), some (.inl a3_), some (.inl a4_), some (.inl la_), some (.inl k_)], [.inl la_], S_)) rfl ?_
        refine sm_T_ri rfl ⟨_, _, rfl, _, rfl, hI_, hF_, ?_⟩
        exact ⟨⟨by omega, by omega⟩, jR_fr hJ_ hI_ hF_⟩
    · have cx2_ : ¬ ((S_.1 13 0 214) ≤ k_) := of_decide_eq_false cx2_
      refine sm_T_go 3 (c1 := (91, [some (.inr (.inr (some (13, 0)))), some (.inl a1_), some (.inl a2_), some (.inl a3_), some (.inl a4_), some (.inl la_), some (.inl k_)], [.inl k_, .inr (.inr (some (285, 0)))], S_)) rfl ?_
      refine sm_T_iald (n := 20010) rfl rfl (by omega) (by omega) ?_
      have bx6_ : (-2147483648) ≤ S_.2.2.1 285 0 k_.toNat ∧ S_.2.2.1 285 0 k_.toNat ≤ 2147483647 := hI_.2 285 0 _
      refine sm_T_go 1 (c1 := (94, [some (.inr (.inr (some (13, 0)))), some (.inl a1_), some (.inl a2_), some (.inl a3_), some (.inl a4_), some (.inl la_), some (.inl k_)], [.inl la_, .inl (S_.2.2.1 285 0 k_.toNat)], S_)) rfl ?_
      refine sm_T_br (a := 5) (z := 13) rfl (fun cx7_ => ?_) (fun cx7_ => ?_)
      · have cx7_ : (S_.2.2.1 285 0 k_.toNat) ≤ la_ := of_decide_eq_true cx7_
        refine sm_T_go 2 (c1 := (111, [some (.inr (.inr (some (13, 0)))), some (.inl a1_), some (.inl a2_), some (.inl a3_), some (.inl a4_), some (.inl la_), some (.inl k_)], [], S_)) rfl ?_
        refine sm_T_inc (a := 6) (z := 1) (v := k_) (w := k_ + 1) rfl rfl (by omega) (by omega) (by omega) ?_ -- pc_ 111
        refine sm_T_go 1 (c1 := (76, [some (.inr (.inr (some (13, 0)))), some (.inl a1_), some (.inl a2_), some (.inl a3_), some (.inl a4_), some (.inl la_), some (.inl (k_ + 1))], [], S_)) rfl ?_
        refine ih_ la_ (k_ + 1) S_ hI_ hF_ ⟨?_, trivial⟩ ?_
        · omega
        · omega
      · have cx7_ : ¬ ((S_.2.2.1 285 0 k_.toNat) ≤ la_) := of_decide_eq_false cx7_
        refine sm_T_go 3 (c1 := (103, [some (.inr (.inr (some (13, 0)))), some (.inl a1_), some (.inl a2_), some (.inl a3_), some (.inl a4_), some (.inl la_), some (.inl k_)], [.inl k_, .inr (.inr (some (285, 0)))], S_)) rfl ?_
        refine sm_T_iald (n := 20010) rfl rfl (by omega) (by omega) ?_
        refine sm_T_go 2 (c1 := (111, [some (.inr (.inr (some (13, 0)))), some (.inl a1_), some (.inl a2_), some (.inl a3_), some (.inl a4_), some (.inl (S_.2.2.1 285 0 k_.toNat)), some (.inl k_)], [], S_)) rfl ?_
        refine sm_T_inc (a := 6) (z := 1) (v := k_) (w := k_ + 1) rfl rfl (by omega) (by omega) (by omega) ?_ -- pc_ 111
        refine sm_T_go 1 (c1 := (76, [some (.inr (.inr (some (13, 0)))), some (.inl a1_), some (.inl a2_), some (.inl a3_), some (.inl a4_), some (.inl (S_.2.2.1 285 0 k_.toNat)), some (.inl (k_ + 1))], [], S_)) rfl ?_
        refine ih_ (S_.2.2.1 285 0 k_.toNat) (k_ + 1) S_ hI_ hF_ ⟨?_, trivial⟩ ?_
        · omega
        · omega
set_option maxHeartbeats 400000 in
set_option maxRecDepth 20000 in
theorem vc_513 {sc_ : Nat × (Nat → Int)} (a1_ : Int) (a2_ : Int) (a3_ : Int) (a4_ : Int) (S0_ : sm_S) (hI_ : gi S0_) (ha1_ : (-2147483648) ≤ a1_ ∧ a1_ ≤ 2147483647) (ha2_ : (-2147483648) ≤ a2_ ∧ a2_ ≤ 2147483647) (ha3_ : (-2147483648) ≤ a3_ ∧ a3_ ≤ 2147483647) (ha4_ : (-2147483648) ≤ a4_ ∧ a4_ ≤ 2147483647) (hJ_ : jR S0_) : sm_T (mt_P sc_) 6 513 (0, [some (.inr (.inr (some (13, 0)))), some (.inl a1_), some (.inl a2_), some (.inl a3_), some (.inl a4_), none, none], [], S0_) (fun ro9_ => ∃ u_ S1_, ro9_ = (.inl u_, S1_, 0) ∧ vq_513 a1_ a2_ a3_ a4_ S0_ u_ S1_) := by
  have hF_ : ai_fr (sx_W vw_513) S0_ S0_ := ai_fr_rf
  refine sm_T_go 3 (c1 := (3, [some (.inr (.inr (some (13, 0)))), some (.inl a1_), some (.inl a2_), some (.inl a3_), some (.inl a4_), none, none], [.inl a1_, .inr (.inr (some (13, 0))), .inr (.inr (some (13, 0)))], S0_)) rfl ?_
  refine sm_T_cal (d1 := 0) (Q1 := vq_371 a1_ S0_) rfl rfl (by decide) (vc_371 a1_ S0_ hI_ (by omega)) (fun u_ Sx1_ px4_ => ?_)
  obtain ⟨rfl, vx6_, rfl, px4_⟩ := px4_
  have d3_ := px4_
  refine sm_T_b0 (a := 0) (z := 19) rfl (fun cx7_ => ?_) (fun cx7_ => ?_)
  · have cx7_ : vx6_ = 0 := of_decide_eq_true cx7_
    have hIx8_ : gi (sm_pI S0_ 13 0 0 1) := gi_pI hI_ (show 0 ≤ 1 ∧ 1 ≤ 4 from ⟨by omega, by omega⟩)
    have hFx9_ : ai_fr (sx_W vw_513) S0_ (sm_pI S0_ 13 0 0 1) := ai_fr_tr hF_ (ai_fr_pI rfl)
    refine sm_T_go 7 (c1 := (69, [some (.inr (.inr (some (13, 0)))), some (.inl a1_), some (.inl a2_), some (.inl a3_), some (.inl a4_), none, none], [.inl 0], sm_pI S0_ 13 0 0 1)) rfl ?_
    refine sm_T_ri rfl ⟨_, _, rfl, _, rfl, hIx8_, hFx9_, ?_⟩
    exact ⟨⟨by omega, by omega⟩, jR_fr hJ_ hIx8_ hFx9_⟩
  · have cx7_ : ¬ (vx6_ = 0) := of_decide_eq_false cx7_
    have K9_ : cRk a1_ S0_ := hJ_.2 a1_ (by omega) (by omega) (by omega)
    obtain ⟨K1_, K2_, K3_, K4_, K5_, K6_, K7_⟩ := K9_
    refine sm_T_go 2 (c1 := (12, [some (.inr (.inr (some (13, 0)))), some (.inl a1_), some (.inl a2_), some (.inl a3_), some (.inl a4_), none, none], [.inl (-1), .inl a4_, .inr (.inr (some (13, 0)))], S0_)) rfl ?_
    refine sm_T_br (a := 0) (z := 17) rfl (fun cx10_ => ?_) (fun cx10_ => ?_)
    · have cx10_ : a4_ = (-1) := of_decide_eq_true cx10_
      refine sm_T_go 4 (c1 := (33, [some (.inr (.inr (some (13, 0)))), some (.inl a1_), some (.inl a2_), some (.inl a3_), some (.inl a4_), none, none], [.inl a3_, .inl a2_, .inl a1_, .inr (.inr (some (13, 0))), .inr (.inr (some (13, 0)))], S0_)) rfl ?_
      refine sm_T_cal (d1 := 1) (Q1 := vq_511 a1_ a2_ a3_ S0_) rfl rfl (by decide) (vc_511 a1_ a2_ a3_ S0_ hI_ (by omega) (by exact K1_) (by omega) (by omega)) (fun u_ Sx11_ px14_ => ?_)
      obtain ⟨rfl, vx16_, rfl, px14_⟩ := px14_
      have e33_ := px14_
      refine sm_T_b0 (a := 1) (z := 7) rfl (fun cx17_ => ?_) (fun cx17_ => ?_)
      · have cx17_ : vx16_ ≠ 0 := of_decide_eq_true cx17_
        refine sm_T_go 4 (c1 := (47, [some (.inr (.inr (some (13, 0)))), some (.inl a1_), some (.inl a2_), some (.inl a3_), some (.inl a4_), none, none], [.inl a3_, .inl a2_, .inl a1_, .inr (.inr (some (13, 0))), .inr (.inr (some (13, 0)))], S0_)) rfl ?_
        refine sm_T_cal (d1 := 5) (Q1 := vq_510 a1_ a2_ a3_ S0_) rfl rfl (by decide) (vc_510 a1_ a2_ a3_ S0_ hI_ (by omega) (by exact K1_) (by exact K4_) (by exact K5_) (by omega) (by omega)) (fun u_ Sx18_ px21_ => ?_)
        obtain ⟨vx23_, rfl, hIx19_, hFx20_, px21_⟩ := px21_
        have hFx22_ : ai_fr (sx_W vw_513) S0_ Sx18_ := ai_fr_tr hF_ (fr_le hFx20_ rfl)
        refine sm_T_b0 (a := 0) (z := 7) rfl (fun cx24_ => ?_) (fun cx24_ => ?_)
        · have cx24_ : vx23_ = 0 := of_decide_eq_true cx24_
          have hIx25_ : gi (sm_pI Sx18_ 13 0 0 0) := gi_pI hIx19_ (show 0 ≤ 0 ∧ 0 ≤ 4 from ⟨by omega, by omega⟩)
          have hFx26_ : ai_fr (sx_W vw_513) S0_ (sm_pI Sx18_ 13 0 0 0) := ai_fr_tr hFx22_ (ai_fr_pI rfl)
          refine sm_T_go 9 (c1 := (76, [some (.inr (.inr (some (13, 0)))), some (.inl a1_), some (.inl a2_), some (.inl a3_), some (.inl a4_), some (.inl 0), some (.inl 0)], [], sm_pI Sx18_ 13 0 0 0)) rfl ?_
          refine (vl_513 a1_ a2_ a3_ a4_ S0_ ha1_ ha2_ ha3_ ha4_ hJ_ _) 0 0 (sm_pI Sx18_ 13 0 0 0) hIx25_ hFx26_ ⟨?_, trivial⟩ (Nat.lt_succ_self _)
          · omega
        · have cx24_ : ¬ (vx23_ = 0) := of_decide_eq_false cx24_
          have hIx27_ : gi (sm_pI Sx18_ 13 0 0 3) := gi_pI hIx19_ (show 0 ≤ 3 ∧ 3 ≤ 4 from ⟨by omega, by omega⟩)
          have hFx28_ : ai_fr (sx_W vw_513) S0_ (sm_pI Sx18_ 13 0 0 3) := ai_fr_tr hFx22_ (ai_fr_pI rfl)
          refine sm_T_go 7 (c1 := (69, [some (.inr (.inr (some (13, 0)))), some (.inl a1_), some (.inl a2_), some (.inl a3_), some (.inl a4_), none, none], [.inl 0], sm_pI Sx18_ 13 0 0 3)) rfl ?_
          refine sm_T_ri rfl ⟨_, _, rfl, _, rfl, hIx27_, hFx28_, ?_⟩
          exact ⟨⟨by omega, by omega⟩, jR_fr hJ_ hIx27_ hFx28_⟩
      · have cx17_ : ¬ (vx16_ ≠ 0) := of_decide_eq_false cx17_
        have hIx29_ : gi (sm_pI S0_ 13 0 0 2) := gi_pI hI_ (show 0 ≤ 2 ∧ 2 ≤ 4 from ⟨by omega, by omega⟩)
        have hFx30_ : ai_fr (sx_W vw_513) S0_ (sm_pI S0_ 13 0 0 2) := ai_fr_tr hF_ (ai_fr_pI rfl)
        refine sm_T_go 7 (c1 := (69, [some (.inr (.inr (some (13, 0)))), some (.inl a1_), some (.inl a2_), some (.inl a3_), some (.inl a4_), none, none], [.inl 0], sm_pI S0_ 13 0 0 2)) rfl ?_
        refine sm_T_ri rfl ⟨_, _, rfl, _, rfl, hIx29_, hFx30_, ?_⟩
        exact ⟨⟨by omega, by omega⟩, jR_fr hJ_ hIx29_ hFx30_⟩
    · have cx10_ : ¬ (a4_ = (-1)) := of_decide_eq_false cx10_
      refine sm_T_go 3 (c1 := (19, [some (.inr (.inr (some (13, 0)))), some (.inl a1_), some (.inl a2_), some (.inl a3_), some (.inl a4_), none, none], [.inl a4_, .inl a1_, .inr (.inr (some (13, 0))), .inr (.inr (some (13, 0)))], S0_)) rfl ?_
      refine sm_T_cal (d1 := 1) (Q1 := vq_450 a1_ a4_ S0_) rfl rfl (by decide) (vc_450 a1_ a4_ S0_ hI_ (by omega) (by omega)) (fun u_ Sx31_ px34_ => ?_)
      obtain ⟨rfl, vx36_, rfl, px34_⟩ := px34_
      have e19_ := px34_
      refine sm_T_b0 (a := 1) (z := 7) rfl (fun cx37_ => ?_) (fun cx37_ => ?_)
      · have cx37_ : vx36_ ≠ 0 := of_decide_eq_true cx37_
        refine sm_T_go 4 (c1 := (33, [some (.inr (.inr (some (13, 0)))), some (.inl a1_), some (.inl a2_), some (.inl a3_), some (.inl a4_), none, none], [.inl a3_, .inl a2_, .inl a1_, .inr (.inr (some (13, 0))), .inr (.inr (some (13, 0)))], S0_)) rfl ?_
        refine sm_T_cal (d1 := 1) (Q1 := vq_511 a1_ a2_ a3_ S0_) rfl rfl (by decide) (vc_511 a1_ a2_ a3_ S0_ hI_ (by omega) (by exact K1_) (by omega) (by omega)) (fun u_ Sx38_ px41_ => ?_)
        obtain ⟨rfl, vx43_, rfl, px41_⟩ := px41_
        have e33_ := px41_
        refine sm_T_b0 (a := 1) (z := 7) rfl (fun cx44_ => ?_) (fun cx44_ => ?_)
        · have cx44_ : vx43_ ≠ 0 := of_decide_eq_true cx44_
          refine sm_T_go 4 (c1 := (47, [some (.inr (.inr (some (13, 0)))), some (.inl a1_), some (.inl a2_), some (.inl a3_), some (.inl a4_), none, none], [.inl a3_, .inl a2_, .inl a1_, .inr (.inr (some (13, 0))), .inr (.inr (some (13, 0)))], S0_)) rfl ?_
          refine sm_T_cal (d1 := 5) (Q1 := vq_510 a1_ a2_ a3_ S0_) rfl rfl (by decide) (vc_510 a1_ a2_ a3_ S0_ hI_ (by omega) (by exact K1_) (by exact K4_) (by exact K5_) (by omega) (by omega)) (fun u_ Sx45_ px48_ => ?_)
          obtain ⟨vx50_, rfl, hIx46_, hFx47_, px48_⟩ := px48_
          have hFx49_ : ai_fr (sx_W vw_513) S0_ Sx45_ := ai_fr_tr hF_ (fr_le hFx47_ rfl)
          refine sm_T_b0 (a := 0) (z := 7) rfl (fun cx51_ => ?_) (fun cx51_ => ?_)
          · have cx51_ : vx50_ = 0 := of_decide_eq_true cx51_
            have hIx52_ : gi (sm_pI Sx45_ 13 0 0 0) := gi_pI hIx46_ (show 0 ≤ 0 ∧ 0 ≤ 4 from ⟨by omega, by omega⟩)
            have hFx53_ : ai_fr (sx_W vw_513) S0_ (sm_pI Sx45_ 13 0 0 0) := ai_fr_tr hFx49_ (ai_fr_pI rfl)
            refine sm_T_go 9 (c1 := (76, [some (.inr (.inr (some (13, 0)))), some (.inl a1_), some (.inl a2_), some (.inl a3_), some (.inl a4_), some (.inl 0), some (.inl 0)], [], sm_pI Sx45_ 13 0 0 0)) rfl ?_
            refine (vl_513 a1_ a2_ a3_ a4_ S0_ ha1_ ha2_ ha3_ ha4_ hJ_ _) 0 0 (sm_pI Sx45_ 13 0 0 0) hIx52_ hFx53_ ⟨?_, trivial⟩ (Nat.lt_succ_self _)
            · omega
          · have cx51_ : ¬ (vx50_ = 0) := of_decide_eq_false cx51_
            have hIx54_ : gi (sm_pI Sx45_ 13 0 0 3) := gi_pI hIx46_ (show 0 ≤ 3 ∧ 3 ≤ 4 from ⟨by omega, by omega⟩)
            have hFx55_ : ai_fr (sx_W vw_513) S0_ (sm_pI Sx45_ 13 0 0 3) := ai_fr_tr hFx49_ (ai_fr_pI rfl)
            refine sm_T_go 7 (c1 := (69, [some (.inr (.inr (some (13, 0)))), some (.inl a1_), some (.inl a2_), some (.inl a3_), some (.inl a4_), none, none], [.inl 0], sm_pI Sx45_ 13 0 0 3)) rfl ?_
            refine sm_T_ri rfl ⟨_, _, rfl, _, rfl, hIx54_, hFx55_, ?_⟩
            exact ⟨⟨by omega, by omega⟩, jR_fr hJ_ hIx54_ hFx55_⟩
        · have cx44_ : ¬ (vx43_ ≠ 0) := of_decide_eq_false cx44_
          have hIx56_ : gi (sm_pI S0_ 13 0 0 2) := gi_pI hI_ (show 0 ≤ 2 ∧ 2 ≤ 4 from ⟨by omega, by omega⟩)
          have hFx57_ : ai_fr (sx_W vw_513) S0_ (sm_pI S0_ 13 0 0 2) := ai_fr_tr hF_ (ai_fr_pI rfl)
          refine sm_T_go 7 (c1 := (69, [some (.inr (.inr (some (13, 0)))), some (.inl a1_), some (.inl a2_), some (.inl a3_), some (.inl a4_), none, none], [.inl 0], sm_pI S0_ 13 0 0 2)) rfl ?_
          refine sm_T_ri rfl ⟨_, _, rfl, _, rfl, hIx56_, hFx57_, ?_⟩
          exact ⟨⟨by omega, by omega⟩, jR_fr hJ_ hIx56_ hFx57_⟩
      · have cx37_ : ¬ (vx36_ ≠ 0) := of_decide_eq_false cx37_
        have hIx58_ : gi (sm_pI S0_ 13 0 0 1) := gi_pI hI_ (show 0 ≤ 1 ∧ 1 ≤ 4 from ⟨by omega, by omega⟩)
        have hFx59_ : ai_fr (sx_W vw_513) S0_ (sm_pI S0_ 13 0 0 1) := ai_fr_tr hF_ (ai_fr_pI rfl)
        refine sm_T_go 7 (c1 := (69, [some (.inr (.inr (some (13, 0)))), some (.inl a1_), some (.inl a2_), some (.inl a3_), some (.inl a4_), none, none], [.inl 0], sm_pI S0_ 13 0 0 1)) rfl ?_
        refine sm_T_ri rfl ⟨_, _, rfl, _, rfl, hIx58_, hFx59_, ?_⟩
        exact ⟨⟨by omega, by omega⟩, jR_fr hJ_ hIx58_ hFx59_⟩
end
/-! 99.zs4 -/
section
/-! the reference: tests; written by wip/p55/gen/vg -/

/-! the_ reference: tests -/
theorem lbz {x_ : Int} (h_ : lcn x_) (z_ : ∀ j_ : Nat, j_ < 64 → l_3 (l_s2 x_ (j_ : Int)) 1 = 0) : x_ = 0 := by
  have p_ : ∀ j_, j_ < 64 → (Int64.ofInt x_).toBitVec.getLsbD j_ = false := by
    intro j_ hj_
    have q_ := z_ j_ hj_
    unfold l_3 l_s2 at q_
    rw [Int64.ofInt_toInt] at q_
    generalize Int64.ofInt x_ = a_ at q_ ⊢
    have m_ : ((Int32.ofInt ((j_ : Nat) : Int)).toInt64.toUInt64 &&& Int64.toUInt64 63).toNat = j_ := by
      have c_ : ∀ i_ : Fin 64, ((Int32.ofInt ((i_.val : Nat) : Int)).toInt64.toUInt64 &&& Int64.toUInt64 63).toNat = i_.val := by decide +kernel
      exact c_ ⟨j_, hj_⟩
    generalize (Int32.ofInt ((j_ : Nat) : Int)).toInt64.toUInt64 &&& Int64.toUInt64 63 = s_ at q_ m_
    have r_ : ((a_.toUInt64 >>> s_).toInt64 &&& Int64.ofInt 1) = 0 := Int64.toInt_inj.mp q_
    have r2_ : (a_.toUInt64 >>> s_).toBitVec &&& 1#64 = 0#64 := by
      have e_ : ((a_.toUInt64 >>> s_).toInt64 &&& Int64.ofInt 1).toBitVec = 0#64 := by rw [r_]; rfl
      exact e_
    have t_ := congrArg (fun b_ => b_.getLsbD 0) r2_
    simp only [BitVec.getLsbD_and] at t_
    have u_ : (a_.toUInt64 >>> s_).toBitVec.getLsbD 0 = false := by simpa using t_
    have v_ : (a_.toUInt64 >>> s_).toBitVec.getLsbD 0 = (a_.toUInt64 >>> s_).toNat.testBit 0 := rfl
    rw [v_, UInt64.toNat_shiftRight, m_, Nat.mod_eq_of_lt hj_, Nat.testBit_shiftRight, Nat.add_zero] at u_
    exact u_
  have p3_ : (Int64.ofInt x_).toBitVec = 0 := by
    apply BitVec.eq_of_getLsbD_eq
    intro i_ hi_
    rw [p_ i_ hi_]
    simp
  have p4_ : Int64.ofInt x_ = 0 := Int64.toBitVec_inj.mp p3_
  have h2_ : (Int64.ofInt x_).toInt = x_ := h_
  rw [← h2_, p4_]
  rfl
theorem lcn_i (X_ : Int64) : lcn X_.toInt := by
  unfold lcn
  rw [Int64.ofInt_toInt]
theorem lcmp_0 {x_ : Int} : sm_lcmp x_ 0 = 0 ↔ x_ = 0 := by
  unfold sm_lcmp
  split
  · rename_i h_
    exact ⟨fun z_ => absurd z_ (by decide), fun z_ => by omega⟩
  · split
    · rename_i h_
      exact ⟨fun _ => h_, fun _ => rfl⟩
    · rename_i h_
      exact ⟨fun z_ => absurd z_ (by decide), fun z_ => absurd z_ h_⟩
/-- how_ many inputs the_ gates have; how_ many faults there are_ -/
def gis (c_ : Int) (S_ : sm_S) (g_ : Nat) : Nat := (S_.2.2.1 234 0 (12 * c_ + S_.2.2.1 229 0 (150 * c_ + (g_ : Int)).toNat).toNat).toNat
def fco (c_ : Int) (S_ : sm_S) : Int := 2 * (S_.2.2.1 223 0 c_.toNat + S_.2.2.1 224 0 c_.toNat + S_.2.2.1 228 0 c_.toNat) + 2 * (sn9 (gis c_ S_) (S_.2.2.1 228 0 c_.toNat).toNat : Int)
theorem gis_fr {w_ : sx_Wl} {c_ : Int} {S_ S'_ : sm_S} (g_ : ai_fr (sx_W w_) S_ S'_) (r_ : rwf w_ = true := by rfl) : gis c_ S'_ = gis c_ S_ := by
  funext k_
  unfold gis
  rw [fr_arr g_ (rwf_0 r_ (t_ := 234) rfl), fr_arr g_ (rwf_0 r_ (t_ := 229) rfl)]
theorem fco_fr {w_ : sx_Wl} {c_ : Int} {S_ S'_ : sm_S} (g_ : ai_fr (sx_W w_) S_ S'_) (r_ : rwf w_ = true := by rfl) : fco c_ S'_ = fco c_ S_ := by
  unfold fco
  rw [gis_fr g_ r_, fr_arr g_ (rwf_0 r_ (t_ := 223) rfl), fr_arr g_ (rwf_0 r_ (t_ := 224) rfl), fr_arr g_ (rwf_0 r_ (t_ := 228) rfl)]
theorem fco_b {c_ : Int} {S_ : sm_S} (hI_ : gi S_) (h_ : S_.2.2.1 223 0 c_.toNat + S_.2.2.1 224 0 c_.toNat ≤ 12) : 0 ≤ fco c_ S_ ∧ fco c_ S_ ≤ 1224 := by
  have a_ : 0 ≤ S_.2.2.1 223 0 c_.toNat := (hI_.2 223 0 _).1
  have b_ : 0 ≤ S_.2.2.1 224 0 c_.toNat := (hI_.2 224 0 _).1
  have d_ : 0 ≤ S_.2.2.1 228 0 c_.toNat ∧ S_.2.2.1 228 0 c_.toNat ≤ 150 := hI_.2 228 0 _
  have e_ := sn9_b (g_ := gis c_ S_) (M_ := 3) (fun k_ => by
    unfold gis
    have q_ : S_.2.2.1 234 0 (12 * c_ + S_.2.2.1 229 0 (150 * c_ + (k_ : Int)).toNat).toNat ≤ 3 := (hI_.2 234 0 _).2
    omega) (S_.2.2.1 228 0 c_.toNat).toNat
  unfold fco
  omega
/-! M_.faultCount -/
def vw_514 : sx_Wl := ([], [], [])
def vq_514 (c_ : Int) (S0_ : sm_S) (u_ : Option sm_V) (S1_ : sm_S) : Prop := S0_ = S1_ ∧ ∃ v_ : Int, u_ = some (.inl v_) ∧ (v_ = fco c_ S0_ ∧ 0 ≤ v_ ∧ v_ ≤ 1224)
set_option maxHeartbeats 400000 in
set_option maxRecDepth 20000 in
theorem vl_514 {sc_ : Nat × (Nat → Int)} (c_ : Int) (S0_ : sm_S) (hc_ : 0 ≤ c_ ∧ c_ ≤ 3) (hx_ : S0_.2.2.1 223 0 c_.toNat + S0_.2.2.1 224 0 c_.toNat ≤ 12) : ∀ nn_ : Nat, (∀ (n_ : Int) (g_ : Int) (S_ : sm_S), gi S_ → ai_fr (sx_W vw_514) S0_ S_ → ((0 ≤ g_ ∧ g_ ≤ S0_.2.2.1 228 0 c_.toNat) ∧ (n_ = 2 * (S0_.2.2.1 223 0 c_.toNat + S0_.2.2.1 224 0 c_.toNat + S0_.2.2.1 228 0 c_.toNat) + 2 * (sn9 (gis c_ S0_) g_.toNat : Int)) ∧ (S_ = S0_) ∧ True) → ((500 - g_).toNat) < nn_ → sm_T (mt_P sc_) 1 514 (10, [some (.inr (.inr (some (13, 0)))), some (.inl c_), some (.inl n_), some (.inl g_)], [], S_) (fun ro9_ => ∃ u_ S1_, ro9_ = (.inl u_, S1_, 0) ∧ vq_514 c_ S0_ u_ S1_)) := by
  intro nn_
  induction nn_ with
  | zero => exact fun _ _ _ _ _ _ h_ => absurd h_ (Nat.not_lt_zero _)
  | succ nn_ ih_ =>
    rintro n_ g_ S_ hI_ hF_ ⟨h0_, h1_, hS_, -⟩ hm_
    subst hS_
    have cA_ : 0 ≤ S_.2.2.1 223 0 c_.toNat ∧ S_.2.2.1 223 0 c_.toNat ≤ 12 := hI_.2 223 0 _
    have cB_ : 0 ≤ S_.2.2.1 224 0 c_.toNat ∧ S_.2.2.1 224 0 c_.toNat ≤ 6 := hI_.2 224 0 _
    have cG_ : 0 ≤ S_.2.2.1 228 0 c_.toNat ∧ S_.2.2.1 228 0 c_.toNat ≤ 150 := hI_.2 228 0 _
    have fb9_ := fco_b hI_ hx_
    have m9_ := sn9_m (gis c_ S_) (n_ := g_.toNat) (m_ := (S_.2.2.1 228 0 c_.toNat).toNat) (by omega)
    have u9_ : fco c_ S_ = 2 * (S_.2.2.1 223 0 c_.toNat + S_.2.2.1 224 0 c_.toNat + S_.2.2.1 228 0 c_.toNat) + 2 * (sn9 (gis c_ S_) (S_.2.2.1 228 0 c_.toNat).toNat : Int) := rfl
    refine sm_T_go 4 (c1 := (16, [some (.inr (.inr (some (13, 0)))), some (.inl c_), some (.inl n_), some (.inl g_)], [.inl c_, .inr (.inr (some (228, 0))), .inl g_], S_)) rfl ?_
    refine sm_T_iald (n := 4) rfl rfl (by omega) (by omega) ?_
    have bx1_ : 0 ≤ S_.2.2.1 228 0 c_.toNat ∧ S_.2.2.1 228 0 c_.toNat ≤ 150 := hI_.2 228 0 _
    refine sm_T_br (a := 3) (z := 25) rfl (fun cx2_ => ?_) (fun cx2_ => ?_)
    · have cx2_ : (S_.2.2.1 228 0 c_.toNat) ≤ g_ := of_decide_eq_true cx2_
      refine sm_T_go 1 (c1 := (43, [some (.inr (.inr (some (13, 0)))), some (.inl c_), some (.inl n_), some (.inl g_)], [.inl n_], S_)) rfl ?_
      refine sm_T_ri rfl ⟨_, _, rfl, (by first | rfl | exact hS_.symm), _, rfl, ?_⟩
      have z9_ : g_ = S_.2.2.1 228 0 c_.toNat := by omega
      rw [← z9_] at u9_
      exact ⟨by omega, by omega, by omega⟩
    · have cx2_ : ¬ ((S_.2.2.1 228 0 c_.toNat) ≤ g_) := of_decide_eq_false cx2_
      have q9_ : (gis c_ S_ g_.toNat : Int) = S_.2.2.1 234 0 (12 * c_ + S_.2.2.1 229 0 (150 * c_ + g_).toNat).toNat := by (unfold gis; rw [show ((g_.toNat : Nat) : Int) = g_ by omega]; have w9_ : 0 ≤ S_.2.2.1 234 0 (12 * c_ + S_.2.2.1 229 0 (150 * c_ + g_).toNat).toNat := (hI_.2 234 0 _).1; omega)
      have s9_ := sn9_s (gis c_ S_) g_.toNat
      have T9_ : (g_ + 1).toNat = g_.toNat + 1 := by omega
      have m8_ := sn9_m (gis c_ S_) (n_ := g_.toNat + 1) (m_ := (S_.2.2.1 228 0 c_.toNat).toNat) (by omega)
      refine sm_T_go 7 (c1 := (29, [some (.inr (.inr (some (13, 0)))), some (.inl c_), some (.inl n_), some (.inl g_)], [.inl g_, .inl c_, .inr (.inr (some (13, 0))), .inr (.inr (some (234, 0))), .inl 2, .inl n_], S_)) rfl ?_
      refine sm_T_cal (d1 := 0) (Q1 := vq_421 c_ g_ S_) rfl rfl (by decide) (vc_421 c_ g_ S_ hI_ (by omega) (by omega)) (fun u_ Sx3_ px6_ => ?_)
      obtain ⟨rfl, vx8_, rfl, px6_⟩ := px6_
      have e29_ := px6_
      refine sm_T_iald (n := 48) rfl rfl (by omega) (by omega) ?_
      have bx9_ : 0 ≤ S_.2.2.1 234 0 vx8_.toNat ∧ S_.2.2.1 234 0 vx8_.toNat ≤ 3 := hI_.2 234 0 _
      refine sm_T_bin (w := 2 * (S_.2.2.1 234 0 vx8_.toNat)) rfl (bi_mul (by omega) (by omega) (by omega)) ?_ -- pc_ 33
      refine sm_T_bin (w := n_ + 2 * (S_.2.2.1 234 0 vx8_.toNat)) rfl (bi_add (by omega) (by omega) (by omega)) ?_ -- pc_ 34
      refine sm_T_go 1 (c1 := (36, [some (.inr (.inr (some (13, 0)))), some (.inl c_), some (.inl (n_ + 2 * (S_.2.2.1 234 0 vx8_.toNat))), some (.inl g_)], [], S_)) rfl ?_
      refine sm_T_inc (a := 3) (z := 1) (v := g_) (w := g_ + 1) rfl rfl (by omega) (by omega) (by omega) ?_ -- pc_ 36
      refine sm_T_go 1 (c1 := (10, [some (.inr (.inr (some (13, 0)))), some (.inl c_), some (.inl (n_ + 2 * (S_.2.2.1 234 0 vx8_.toNat))), some (.inl (g_ + 1))], [], S_)) rfl ?_
      refine ih_ (n_ + 2 * (S_.2.2.1 234 0 vx8_.toNat)) (g_ + 1) S_ hI_ hF_ ⟨?_, ?_, ?_, trivial⟩ ?_
      · omega
      · (rw [T9_, s9_]; rw [← e29_.2] at q9_; push_cast; omega)
      · rfl
      · omega
set_option maxHeartbeats 400000 in
set_option maxRecDepth 20000 in
theorem vc_514 {sc_ : Nat × (Nat → Int)} (c_ : Int) (S0_ : sm_S) (hI_ : gi S0_) (hc_ : 0 ≤ c_ ∧ c_ ≤ 3) (hx_ : S0_.2.2.1 223 0 c_.toNat + S0_.2.2.1 224 0 c_.toNat ≤ 12) : sm_T (mt_P sc_) 1 514 (0, [some (.inr (.inr (some (13, 0)))), some (.inl c_), none, none], [], S0_) (fun ro9_ => ∃ u_ S1_, ro9_ = (.inl u_, S1_, 0) ∧ vq_514 c_ S0_ u_ S1_) := by
  have hF_ : ai_fr (sx_W vw_514) S0_ S0_ := ai_fr_rf
  refine sm_T_go 3 (c1 := (3, [some (.inr (.inr (some (13, 0)))), some (.inl c_), none, none], [.inl c_, .inr (.inr (some (13, 0))), .inl 2], S0_)) rfl ?_
  refine sm_T_cal (d1 := 0) (Q1 := vq_422 c_ S0_) rfl rfl (by decide) (vc_422 c_ S0_ hI_ (by omega)) (fun u_ Sx1_ px4_ => ?_)
  obtain ⟨rfl, vx6_, rfl, px4_⟩ := px4_
  have e3_ := px4_
  refine sm_T_bin (w := 2 * vx6_) rfl (bi_mul (by omega) (by omega) (by omega)) ?_ -- pc_ 6
  refine sm_T_go 3 (c1 := (10, [some (.inr (.inr (some (13, 0)))), some (.inl c_), some (.inl (2 * vx6_)), some (.inl 0)], [], S0_)) rfl ?_
  refine (vl_514 c_ S0_ hc_ hx_ _) (2 * vx6_) 0 S0_ hI_ hF_ ⟨?_, ?_, ?_, trivial⟩ (Nat.lt_succ_self _)
  · (have q3_ : 0 ≤ S0_.2.2.1 228 0 c_.toNat := (hI_.2 228 0 _).1; omega)
  · (rw [show (0 : Int).toNat = 0 from rfl]; show _ = _ + 2 * ((0 : Nat) : Int); omega)
  · rfl
/-! M_.findFault -/
/-! M_.wordOfEnd -/
/-! M_.layRight -/
/-! M_.shownWord -/
/-! M_.searchPattern -/
/-! M_.leastPattern -/
/-! M_.test -/
/-! M_.shows -/
/-! M_.isShown -/
/-! M_.manyShow -/
/-! M_.addPattern -/
/-! M_.dropPattern -/
/-! M_.tests -/
/-! M_.patternCode -/
def vw_529 : sx_Wl := ([], [], [])
def vq_529 (c_ : Int) (k_ : Int) (S0_ : sm_S) (u_ : Option sm_V) (S1_ : sm_S) : Prop := S0_ = S1_ ∧ ∃ v_ : Int, u_ = some (.inl v_) ∧ (((-2147483648) ≤ v_ ∧ v_ ≤ 2147483647) ∧ ((v_ = 0 ∧ 0 ≤ c_ ∧ c_ < 4 ∧ 0 ≤ k_ ∧ k_ < 1224) ∨ v_ = 1 ∨ v_ = 2))
set_option maxHeartbeats 400000 in
set_option maxRecDepth 20000 in
theorem vc_529 {sc_ : Nat × (Nat → Int)} (c_ : Int) (k_ : Int) (S0_ : sm_S) (hI_ : gi S0_) (hc_ : (-2147483648) ≤ c_ ∧ c_ ≤ 2147483647) (hk_ : (-2147483648) ≤ k_ ∧ k_ ≤ 2147483647) : sm_T (mt_P sc_) 1 529 (0, [some (.inr (.inr (some (13, 0)))), some (.inl c_), some (.inl k_)], [], S0_) (fun ro9_ => ∃ u_ S1_, ro9_ = (.inl u_, S1_, 0) ∧ vq_529 c_ k_ S0_ u_ S1_) := by
  have hF_ : ai_fr (sx_W vw_529) S0_ S0_ := ai_fr_rf
  refine sm_T_go 2 (c1 := (2, [some (.inr (.inr (some (13, 0)))), some (.inl c_), some (.inl k_)], [.inl c_, .inr (.inr (some (13, 0)))], S0_)) rfl ?_
  refine sm_T_cal (d1 := 0) (Q1 := vq_371 c_ S0_) rfl rfl (by decide) (vc_371 c_ S0_ hI_ (by omega)) (fun u_ Sx1_ px4_ => ?_)
  obtain ⟨rfl, vx6_, rfl, px4_⟩ := px4_
  refine sm_T_b0 (a := 0) (z := 7) rfl (fun cx7_ => ?_) (fun cx7_ => ?_)
  · have cx7_ : vx6_ = 0 := of_decide_eq_true cx7_
    refine sm_T_go 2 (c1 := (45, [some (.inr (.inr (some (13, 0)))), some (.inl c_), some (.inl k_)], [.inl 1], S0_)) rfl ?_
    refine sm_T_ri rfl ⟨_, _, rfl, rfl, _, rfl, ?_⟩
    refine ⟨⟨by omega, by omega⟩, ?_⟩
    omega
  · have cx7_ : ¬ (vx6_ = 0) := of_decide_eq_false cx7_
    refine sm_T_go 1 (c1 := (9, [some (.inr (.inr (some (13, 0)))), some (.inl c_), some (.inl k_)], [.inl k_], S0_)) rfl ?_
    refine sm_T_b0 (a := 3) (z := 7) rfl (fun cx8_ => ?_) (fun cx8_ => ?_)
    · have cx8_ : 0 ≤ k_ := of_decide_eq_true cx8_
      refine sm_T_go 3 (c1 := (21, [some (.inr (.inr (some (13, 0)))), some (.inl c_), some (.inl k_)], [.inl c_, .inr (.inr (some (289, 0)))], S0_)) rfl ?_
      refine sm_T_iald (n := 4) rfl rfl (by omega) (by omega) ?_
      have bx9_ : (-1) ≤ S0_.2.2.1 289 0 c_.toNat ∧ S0_.2.2.1 289 0 c_.toNat ≤ 1224 := hI_.2 289 0 _
      refine sm_T_go 1 (c1 := (23, [some (.inr (.inr (some (13, 0)))), some (.inl c_), some (.inl k_)], [.inl (-1), .inl (S0_.2.2.1 289 0 c_.toNat)], S0_)) rfl ?_
      refine sm_T_br (a := 1) (z := 7) rfl (fun cx10_ => ?_) (fun cx10_ => ?_)
      · have cx10_ : (S0_.2.2.1 289 0 c_.toNat) ≠ (-1) := of_decide_eq_true cx10_
        refine sm_T_go 4 (c1 := (36, [some (.inr (.inr (some (13, 0)))), some (.inl c_), some (.inl k_)], [.inl c_, .inr (.inr (some (289, 0))), .inl k_], S0_)) rfl ?_
        refine sm_T_iald (n := 4) rfl rfl (by omega) (by omega) ?_
        refine sm_T_br (a := 2) (z := 7) rfl (fun cx11_ => ?_) (fun cx11_ => ?_)
        · have cx11_ : k_ < (S0_.2.2.1 289 0 c_.toNat) := of_decide_eq_true cx11_
          refine sm_T_go 1 (c1 := (45, [some (.inr (.inr (some (13, 0)))), some (.inl c_), some (.inl k_)], [.inl 0], S0_)) rfl ?_
          refine sm_T_ri rfl ⟨_, _, rfl, rfl, _, rfl, ?_⟩
          refine ⟨⟨by omega, by omega⟩, ?_⟩
          omega
        · have cx11_ : ¬ (k_ < (S0_.2.2.1 289 0 c_.toNat)) := of_decide_eq_false cx11_
          refine sm_T_go 2 (c1 := (45, [some (.inr (.inr (some (13, 0)))), some (.inl c_), some (.inl k_)], [.inl 1], S0_)) rfl ?_
          refine sm_T_ri rfl ⟨_, _, rfl, rfl, _, rfl, ?_⟩
          refine ⟨⟨by omega, by omega⟩, ?_⟩
          omega
      · have cx10_ : ¬ ((S0_.2.2.1 289 0 c_.toNat) ≠ (-1)) := of_decide_eq_false cx10_
        refine sm_T_go 2 (c1 := (45, [some (.inr (.inr (some (13, 0)))), some (.inl c_), some (.inl k_)], [.inl 2], S0_)) rfl ?_
        refine sm_T_ri rfl ⟨_, _, rfl, rfl, _, rfl, ?_⟩
        refine ⟨⟨by omega, by omega⟩, ?_⟩
        omega
    · have cx8_ : ¬ (0 ≤ k_) := of_decide_eq_false cx8_
      refine sm_T_go 2 (c1 := (45, [some (.inr (.inr (some (13, 0)))), some (.inl c_), some (.inl k_)], [.inl 1], S0_)) rfl ?_
      refine sm_T_ri rfl ⟨_, _, rfl, rfl, _, rfl, ?_⟩
      refine ⟨⟨by omega, by omega⟩, ?_⟩
      omega
/-! M_.pattern -/
def vw_530 : sx_Wl := ([(13, 0)], [], [])
def vq_530 (a1_ : Int) (a2_ : Int) (S0_ : sm_S) (u_ : Option sm_V) (S1_ : sm_S) : Prop := ∃ v_ : Int, u_ = some (.inl v_) ∧ gi S1_ ∧ ai_fr (sx_W vw_530) S0_ S1_ ∧ (((-2147483648) ≤ v_ ∧ v_ ≤ 2147483647) ∧ (jR S1_))
set_option maxHeartbeats 400000 in
set_option maxRecDepth 20000 in
theorem vc_530 {sc_ : Nat × (Nat → Int)} (a1_ : Int) (a2_ : Int) (S0_ : sm_S) (hI_ : gi S0_) (ha1_ : (-2147483648) ≤ a1_ ∧ a1_ ≤ 2147483647) (ha2_ : (-2147483648) ≤ a2_ ∧ a2_ ≤ 2147483647) (hJ_ : jR S0_) : sm_T (mt_P sc_) 2 530 (0, [some (.inr (.inr (some (13, 0)))), some (.inl a1_), some (.inl a2_)], [], S0_) (fun ro9_ => ∃ u_ S1_, ro9_ = (.inl u_, S1_, 0) ∧ vq_530 a1_ a2_ S0_ u_ S1_) := by
  have hF_ : ai_fr (sx_W vw_530) S0_ S0_ := ai_fr_rf
  refine sm_T_go 4 (c1 := (4, [some (.inr (.inr (some (13, 0)))), some (.inl a1_), some (.inl a2_)], [.inl a2_, .inl a1_, .inr (.inr (some (13, 0))), .inr (.inr (some (13, 0)))], S0_)) rfl ?_
  refine sm_T_cal (d1 := 1) (Q1 := vq_529 a1_ a2_ S0_) rfl rfl (by decide) (vc_529 a1_ a2_ S0_ hI_ (by omega) (by omega)) (fun u_ Sx1_ px4_ => ?_)
  obtain ⟨rfl, vx6_, rfl, px4_⟩ := px4_
  have e4_ := px4_
  have hIx7_ : gi (sm_pI S0_ 13 0 0 vx6_) := gi_pI hI_ (show 0 ≤ vx6_ ∧ vx6_ ≤ 4 from ⟨by omega, by omega⟩)
  have hFx8_ : ai_fr (sx_W vw_530) S0_ (sm_pI S0_ 13 0 0 vx6_) := ai_fr_tr hF_ (ai_fr_pI rfl)
  refine sm_T_go 3 (c1 := (14, [some (.inr (.inr (some (13, 0)))), some (.inl a1_), some (.inl a2_)], [.inl vx6_], sm_pI S0_ 13 0 0 vx6_)) rfl ?_
  refine sm_T_b0 (a := 5) (z := 7) rfl (fun cx9_ => ?_) (fun cx9_ => ?_)
  · have cx9_ : vx6_ ≤ 0 := of_decide_eq_true cx9_
    refine sm_T_go 4 (c1 := (29, [some (.inr (.inr (some (13, 0)))), some (.inl a1_), some (.inl a2_)], [.inl a1_, .inl 1280, .inr (.inr (some (290, 0)))], sm_pI S0_ 13 0 0 vx6_)) rfl ?_
    refine sm_T_bin (w := 1280 * a1_) rfl (bi_mul (by omega) (by omega) (by omega)) ?_ -- pc_ 29
    refine sm_T_go 1 (c1 := (31, [some (.inr (.inr (some (13, 0)))), some (.inl a1_), some (.inl a2_)], [.inl a2_, .inl (1280 * a1_), .inr (.inr (some (290, 0)))], sm_pI S0_ 13 0 0 vx6_)) rfl ?_
    refine sm_T_bin (w := 1280 * a1_ + a2_) rfl (bi_add (by omega) (by omega) (by omega)) ?_ -- pc_ 31
    refine sm_T_iald (n := 5120) rfl rfl (by omega) (by omega) ?_
    have bx10_ : 0 ≤ S0_.2.2.1 290 0 (1280 * a1_ + a2_).toNat ∧ S0_.2.2.1 290 0 (1280 * a1_ + a2_).toNat ≤ 4095 := hI_.2 290 0 _
    refine sm_T_go 0 (c1 := (33, [some (.inr (.inr (some (13, 0)))), some (.inl a1_), some (.inl a2_)], [.inl (S0_.2.2.1 290 0 (1280 * a1_ + a2_).toNat)], sm_pI S0_ 13 0 0 vx6_)) rfl ?_
    refine sm_T_ri rfl ⟨_, _, rfl, _, rfl, hIx7_, hFx8_, ?_⟩
    refine ⟨⟨by omega, by omega⟩, jR_fr hJ_ hIx7_ hFx8_⟩
  · have cx9_ : ¬ (vx6_ ≤ 0) := of_decide_eq_false cx9_
    refine sm_T_go 2 (c1 := (33, [some (.inr (.inr (some (13, 0)))), some (.inl a1_), some (.inl a2_)], [.inl 0], sm_pI S0_ 13 0 0 vx6_)) rfl ?_
    refine sm_T_ri rfl ⟨_, _, rfl, _, rfl, hIx7_, hFx8_, ?_⟩
    refine ⟨⟨by omega, by omega⟩, jR_fr hJ_ hIx7_ hFx8_⟩
/-! M_.fails -/
/-! M_.isSuspect -/
/-! M_.suspect -/
/-! M_.faults -/
end
/-! 99.zs5 -/
section
/-! the reference: a graph laid; written by wip/p55/gen/vg -/

/-! the_ reference: a_ graph laid for_ mapping -/
/-- the_ node that stands for_ a_ literal -/
def nod (d_ : Int) (S_ : sm_S) (l_ : Int) : Int := S_.2.2.1 166 0 (2048 * d_ + l_ / 2).toNat / 2
/-- what is_ known of_ the_ design that is_ mapped -/
def dmp (F_ N_ d_ : Int) (S_ : sm_S) : Prop := (0 ≤ d_ ∧ d_ ≤ 5 ∧ S_.1 13 0 105 = d_ ∧ S_.2.2.1 160 0 d_.toNat = F_ ∧ S_.2.2.1 159 0 d_.toNat = N_ ∧ 1 ≤ F_ ∧ F_ ≤ 13 ∧ F_ ≤ N_ ∧ N_ ≤ 1013) ∧ dRk d_.toNat S_
theorem nod_b {F_ N_ d_ l_ : Int} {S_ : sm_S} (h_ : dmp F_ N_ d_ S_) (h0_ : 0 ≤ l_) (h1_ : l_ < 2 * N_) : 0 ≤ nod d_ S_ l_ ∧ nod d_ S_ l_ ≤ l_ / 2 ∧ S_.2.2.1 166 0 (2048 * d_ + nod d_ S_ l_).toNat = 2 * nod d_ S_ l_ ∧ ∀ b_ : Int, 0 ≤ b_ ∧ b_ ≤ 1 → i_xor (S_.2.2.1 166 0 (2048 * d_ + l_ / 2).toNat) b_ / 2 = nod d_ S_ l_ := by
  obtain ⟨⟨a1_, a2_, a3_, a4_, a5_, a6_, a7_, a8_, a9_⟩, F1_, I_, R_, N1_, k1_, k2_, k3_, k4_⟩ := h_
  have q_ := k3_.2 (l_ / 2).toNat (by omega)
  obtain ⟨q1_, q2_, -⟩ := q_
  have e_ : 2048 * d_.toNat + (l_ / 2).toNat = (2048 * d_ + l_ / 2).toNat := by omega
  simp only [e_] at q1_ q2_
  unfold nod
  have x_ := q2_
  rw [show 2048 * d_.toNat + (S_.2.2.1 166 0 (2048 * d_ + l_ / 2).toNat / 2).toNat = (2048 * d_ + S_.2.2.1 166 0 (2048 * d_ + l_ / 2).toNat / 2).toNat by omega] at x_
  refine ⟨by omega, by omega, x_, fun b_ hb_ => ?_⟩
  have y_ := i_xb (x_ := S_.2.2.1 166 0 (2048 * d_ + l_ / 2).toNat) (b_ := b_) (by omega) hb_
  omega
theorem nod_p {F_ N_ d_ k_ : Int} {S_ : sm_S} (h_ : dmp F_ N_ d_ S_) (h0_ : F_ ≤ k_) (h1_ : k_ < N_) (hs_ : S_.2.2.1 166 0 (2048 * d_ + k_).toNat = 2 * k_) : (2 ≤ S_.2.2.1 164 0 (2048 * d_ + k_).toNat ∧ S_.2.2.1 164 0 (2048 * d_ + k_).toNat < 2 * k_ ∧ 1 ≤ nod d_ S_ (S_.2.2.1 164 0 (2048 * d_ + k_).toNat) ∧ nod d_ S_ (S_.2.2.1 164 0 (2048 * d_ + k_).toNat) < k_) ∧ (2 ≤ S_.2.2.1 165 0 (2048 * d_ + k_).toNat ∧ S_.2.2.1 165 0 (2048 * d_ + k_).toNat < 2 * k_ ∧ 1 ≤ nod d_ S_ (S_.2.2.1 165 0 (2048 * d_ + k_).toNat) ∧ nod d_ S_ (S_.2.2.1 165 0 (2048 * d_ + k_).toNat) < k_) := by
  have hh_ := h_
  obtain ⟨⟨a1_, a2_, a3_, a4_, a5_, a6_, a7_, a8_, a9_⟩, F1_, I_, R_, N1_, k1_, k2_, k3_, k4_⟩ := h_
  have g_ := k2_ k_.toNat (by omega) (by omega)
  have q_ := (k3_.2 k_.toNat (by omega)).2.2 (by omega)
  have e_ : 2048 * d_.toNat + k_.toNat = (2048 * d_ + k_).toNat := by omega
  simp only [e_] at g_ q_
  have m_ := q_ (by omega)
  unfold m3 at m_
  simp only [e_] at m_
  rw [show 2048 * d_.toNat + (S_.2.2.1 164 0 (2048 * d_ + k_).toNat / 2).toNat = (2048 * d_ + S_.2.2.1 164 0 (2048 * d_ + k_).toNat / 2).toNat by omega, show 2048 * d_.toNat + (S_.2.2.1 165 0 (2048 * d_ + k_).toNat / 2).toNat = (2048 * d_ + S_.2.2.1 165 0 (2048 * d_ + k_).toNat / 2).toNat by omega] at m_
  have b1_ := nod_b hh_ (l_ := S_.2.2.1 164 0 (2048 * d_ + k_).toNat) (by omega) (by omega)
  have b2_ := nod_b hh_ (l_ := S_.2.2.1 165 0 (2048 * d_ + k_).toNat) (by omega) (by omega)
  have c1_ : 1 ≤ nod d_ S_ (S_.2.2.1 164 0 (2048 * d_ + k_).toNat) := m_.1
  have c2_ : 1 ≤ nod d_ S_ (S_.2.2.1 165 0 (2048 * d_ + k_).toNat) := m_.2.1
  omega
theorem dmp_fr {w_ : sx_Wl} {F_ N_ d_ : Int} {S_ S'_ : sm_S} (h_ : dmp F_ N_ d_ S_) (g_ : ai_fr (sx_W w_) S_ S'_) (h1_ : (sx_W w_).1 13 105 = false := by rfl) (q_ : dwf w_ = true := by rfl) : dmp F_ N_ d_ S'_ := by
  refine ⟨?_, dRk_fr h_.2 g_ (fun t_ a_ b_ => dwf_0 q_ (by omega) a_)⟩
  rw [g_.1 13 0 105 h1_, fr_arr (t := 160) g_ (dwf_0 q_ (by decide) (by decide)), fr_arr (t := 159) g_ (dwf_0 q_ (by decide) (by decide))]
  exact h_.1
theorem nod_fr {w_ : sx_Wl} {d_ : Int} {S_ S'_ : sm_S} (g_ : ai_fr (sx_W w_) S_ S'_) (q_ : dwf w_ = true := by rfl) : nod d_ S'_ = nod d_ S_ := by
  funext l_
  unfold nod
  rw [fr_arr (t := 166) g_ (dwf_0 q_ (by decide) (by decide))]
theorem dmp_l {F_ N_ d_ k_ : Int} {S_ : sm_S} (h_ : dmp F_ N_ d_ S_) : (0 ≤ k_ → k_ < S_.2.2.1 156 0 d_.toNat → 0 ≤ S_.2.2.1 167 0 (16 * d_ + k_).toNat ∧ S_.2.2.1 167 0 (16 * d_ + k_).toNat < 2 * N_) ∧ (0 ≤ k_ → k_ < S_.2.2.1 155 0 d_.toNat → 0 ≤ S_.2.2.1 168 0 (6 * d_ + k_).toNat ∧ S_.2.2.1 168 0 (6 * d_ + k_).toNat < 2 * N_) := by
  obtain ⟨⟨a1_, a2_, a3_, a4_, a5_, a6_, a7_, a8_, a9_⟩, F1_, I_, R_, N1_, k1_, k2_, k3_, k4_, k5_, -⟩ := h_
  refine ⟨fun h0_ h1_ => ?_, fun h0_ h1_ => ?_⟩
  · have q_ := k4_ k_.toNat (by omega)
    rw [show 16 * d_.toNat + k_.toNat = (16 * d_ + k_).toNat by omega] at q_
    omega
  · have q_ := k5_ k_.toNat (by omega)
    rw [show 6 * d_.toNat + k_.toNat = (6 * d_ + k_).toNat by omega] at q_
    omega
/-- nodes that are_ wanted stand for_ themselves -/
def gwn (N_ d_ : Int) (S_ : sm_S) : Prop := ∀ k_ : Int, 0 ≤ k_ → k_ < N_ → S_.2.2.1 202 0 k_.toNat = 1 → S_.2.2.1 166 0 (2048 * d_ + k_).toNat = 2 * k_
/-- the_ parts of_ wanted nodes are_ wanted -/
def lgp (S_ : sm_S) (k_ : Int) : Prop := (1 ≤ S_.2.2.1 199 0 k_.toNat / 2 ∧ S_.2.2.1 199 0 k_.toNat / 2 < k_ ∧ S_.2.2.1 202 0 (S_.2.2.1 199 0 k_.toNat / 2).toNat = 1) ∧ (1 ≤ S_.2.2.1 200 0 k_.toNat / 2 ∧ S_.2.2.1 200 0 k_.toNat / 2 < k_ ∧ S_.2.2.1 202 0 (S_.2.2.1 200 0 k_.toNat / 2).toNat = 1)
def lgn (F_ N_ : Int) (S_ : sm_S) : Prop := ∀ k_ : Int, F_ ≤ k_ → k_ < N_ → S_.2.2.1 202 0 k_.toNat = 1 → lgp S_ k_
/-- roots are_ marked -/
def mrk (F_ : Int) (S_ : sm_S) (q_ : Int) : Prop := S_.2.2.1 202 0 q_.toNat = 1 ∧ (q_ < F_ ∨ S_.2.2.1 203 0 q_.toNat = 1)
def rtd (F_ d_ o_ n_ : Int) (S_ : sm_S) : Prop := (∀ k_ : Int, 0 ≤ k_ → k_ < o_ → mrk F_ S_ (nod d_ S_ (S_.2.2.1 167 0 (16 * d_ + k_).toNat))) ∧ ∀ k_ : Int, 0 ≤ k_ → k_ < n_ → mrk F_ S_ (nod d_ S_ (S_.2.2.1 168 0 (6 * d_ + k_).toNat))
theorem mrk_up {F_ q_ x_ : Int} {S_ S'_ : sm_S} (h_ : mrk F_ S_ q_) (hx_ : 0 ≤ x_) (hq_ : 0 ≤ q_) (e1_ : ∀ j_, S'_.2.2.1 202 0 j_ = if j_ = x_.toNat then 1 else S_.2.2.1 202 0 j_) (e2_ : ∀ j_, S'_.2.2.1 203 0 j_ = if j_ = x_.toNat then (if x_ < F_ then 0 else 1) else S_.2.2.1 203 0 j_) : mrk F_ S'_ q_ := by
  unfold mrk at *
  rw [e1_, e2_]
  by_cases c_ : q_.toNat = x_.toNat
  · rw [if_pos c_, if_pos c_]
    refine ⟨rfl, ?_⟩
    by_cases y_ : q_ < F_
    · exact Or.inl y_
    · right
      rw [if_neg (by omega)]
  · rw [if_neg c_, if_neg c_]
    exact h_
theorem mrk_mo {F_ q_ : Int} {S_ S'_ : sm_S} (h_ : mrk F_ S_ q_) (e1_ : ∀ j_, S_.2.2.1 202 0 j_ = 1 → S'_.2.2.1 202 0 j_ = 1) (e2_ : ∀ j_, S_.2.2.1 203 0 j_ = 1 → S'_.2.2.1 203 0 j_ = 1) : mrk F_ S'_ q_ := by
  refine ⟨e1_ _ h_.1, ?_⟩
  rcases h_.2 with y_ | y_
  · exact Or.inl y_
  · exact Or.inr (e2_ _ y_)
theorem rtd_mo {F_ d_ o_ n_ : Int} {S_ S'_ : sm_S} (h_ : rtd F_ d_ o_ n_ S_) (a1_ : S'_.2.2.1 166 0 = S_.2.2.1 166 0) (a2_ : S'_.2.2.1 167 0 = S_.2.2.1 167 0) (a3_ : S'_.2.2.1 168 0 = S_.2.2.1 168 0) (e1_ : ∀ j_, S_.2.2.1 202 0 j_ = 1 → S'_.2.2.1 202 0 j_ = 1) (e2_ : ∀ j_, S_.2.2.1 203 0 j_ = 1 → S'_.2.2.1 203 0 j_ = 1) : rtd F_ d_ o_ n_ S'_ := by
  have nn9_ : nod d_ S'_ = nod d_ S_ := by
    funext l_
    unfold nod
    rw [a1_]
  unfold rtd
  rw [a2_, a3_, nn9_]
  exact ⟨fun k_ u0_ u1_ => mrk_mo (h_.1 k_ u0_ u1_) e1_ e2_, fun k_ u0_ u1_ => mrk_mo (h_.2 k_ u0_ u1_) e1_ e2_⟩
theorem lgp_mo {k_ : Int} {S_ S'_ : sm_S} (h_ : lgp S_ k_) (a_ : S'_.2.2.1 199 0 k_.toNat = S_.2.2.1 199 0 k_.toNat) (b_ : S'_.2.2.1 200 0 k_.toNat = S_.2.2.1 200 0 k_.toNat) (e1_ : ∀ j_, S_.2.2.1 202 0 j_ = 1 → S'_.2.2.1 202 0 j_ = 1) : lgp S'_ k_ := by
  unfold lgp
  rw [a_, b_]
  exact ⟨⟨h_.1.1, h_.1.2.1, e1_ _ h_.1.2.2⟩, h_.2.1, h_.2.2.1, e1_ _ h_.2.2.2⟩
theorem mrk_nw {F_ x_ : Int} {S_ S'_ : sm_S} (e1_ : ∀ j_, S'_.2.2.1 202 0 j_ = if j_ = x_.toNat then 1 else S_.2.2.1 202 0 j_) (e2_ : ∀ j_, S'_.2.2.1 203 0 j_ = if j_ = x_.toNat then (if x_ < F_ then 0 else 1) else S_.2.2.1 203 0 j_) : mrk F_ S'_ x_ := by
  unfold mrk
  rw [e1_, e2_, if_pos rfl, if_pos rfl]
  refine ⟨rfl, ?_⟩
  by_cases y_ : x_ < F_
  · exact Or.inl y_
  · right
    rw [if_neg y_]
/-! M_.keptLiteral -/
def vw_392 : sx_Wl := ([], [], [])
def vq_392 (l_ : Int) (F_ : Int) (N_ : Int) (d_ : Int) (S0_ : sm_S) (u_ : Option sm_V) (S1_ : sm_S) : Prop := S0_ = S1_ ∧ ∃ v_ : Int, u_ = some (.inl v_) ∧ (v_ / 2 = nod d_ S0_ l_ ∧ 0 ≤ v_ ∧ v_ ≤ 2025 ∧ (v_ = i_xor (S0_.2.2.1 166 0 (2048 * d_ + l_ / 2).toNat) (l_ % 2)))
set_option maxHeartbeats 400000 in
set_option maxRecDepth 20000 in
theorem vc_392 {sc_ : Nat × (Nat → Int)} (l_ : Int) (F_ : Int) (N_ : Int) (d_ : Int) (S0_ : sm_S) (hI_ : gi S0_) (hd_ : dmp F_ N_ d_ S0_) (hl_ : 0 ≤ l_ ∧ l_ < 2 * N_) : sm_T (mt_P sc_) 0 392 (0, [some (.inr (.inr (some (13, 0)))), some (.inl l_)], [], S0_) (fun ro9_ => ∃ u_ S1_, ro9_ = (.inl u_, S1_, 0) ∧ vq_392 l_ F_ N_ d_ S0_ u_ S1_) := by
  have hF_ : ai_fr (sx_W vw_392) S0_ S0_ := ai_fr_rf
  have d1_ := hd_.1
  have bx1_ : 0 ≤ S0_.1 13 0 105 ∧ S0_.1 13 0 105 ≤ 5 := hI_.1 13 0 105 rfl
  refine sm_T_go 5 (c1 := (11, [some (.inr (.inr (some (13, 0)))), some (.inl l_)], [.inl (S0_.1 13 0 105), .inl 2048, .inr (.inr (some (166, 0)))], S0_)) rfl ?_
  refine sm_T_bin (w := 2048 * (S0_.1 13 0 105)) rfl (bi_mul (by omega) (by omega) (by omega)) ?_ -- pc_ 11
  refine sm_T_go 2 (c1 := (14, [some (.inr (.inr (some (13, 0)))), some (.inl l_)], [.inl 1, .inl l_, .inl (2048 * (S0_.1 13 0 105)), .inr (.inr (some (166, 0)))], S0_)) rfl ?_
  refine sm_T_bin (w := (l_ / 2)) rfl (bi_shr (k := 1) (by decide) (by omega) (by omega)) ?_ -- pc_ 14
  refine sm_T_bin (w := 2048 * (S0_.1 13 0 105) + (l_ / 2)) rfl (bi_add (by omega) (by omega) (by omega)) ?_ -- pc_ 15
  refine sm_T_iald (n := 12288) rfl rfl (by omega) (by omega) ?_
  have bx2_ : 0 ≤ S0_.2.2.1 166 0 (2048 * (S0_.1 13 0 105) + (l_ / 2)).toNat ∧ S0_.2.2.1 166 0 (2048 * (S0_.1 13 0 105) + (l_ / 2)).toNat ≤ 2025 := hI_.2 166 0 _
  refine sm_T_go 2 (c1 := (19, [some (.inr (.inr (some (13, 0)))), some (.inl l_)], [.inl 1, .inl l_, .inl (S0_.2.2.1 166 0 (2048 * (S0_.1 13 0 105) + (l_ / 2)).toNat)], S0_)) rfl ?_
  refine sm_T_bin (w := (l_ % 2)) rfl (bi_msk (k := 1) (by decide)) ?_ -- pc_ 19
  refine sm_T_bin (w := (i_xor (S0_.2.2.1 166 0 (2048 * (S0_.1 13 0 105) + (l_ / 2)).toNat) (l_ % 2))) rfl rfl ?_ -- pc_ 20
  have bx3_ := swx (x_ := (S0_.2.2.1 166 0 (2048 * (S0_.1 13 0 105) + (l_ / 2)).toNat)) (b_ := (l_ % 2)) (by omega) (by omega)
  refine sm_T_ri rfl ⟨_, _, rfl, rfl, _, rfl, ?_⟩
  have q9_ := (nod_b hd_ hl_.1 hl_.2).2.2.2 (l_ % 2) (by omega)
  have e9_ : (2048 * S0_.1 13 0 105 + l_ / 2).toNat = (2048 * d_ + l_ / 2).toNat := by (rw [hd_.1.2.2.1])
  rw [← e9_] at q9_ ⊢
  exact ⟨q9_, by omega, by omega, rfl⟩
/-! M_.want -/
/-! M_.layGraph -/
end
/-! 99.zs6 -/
section
/-! the reference: cuts; written by wip/p55/gen/vg -/

/-! the_ reference: cuts -/
def ctp (P_ : Int → Prop) (S_ : sm_S) : Prop := ∀ c_ : Int, 0 ≤ c_ → c_ < S_.1 13 0 114 → 1 ≤ S_.2.2.1 204 0 c_.toNat ∧ ∀ k_ : Int, 0 ≤ k_ → k_ < S_.2.2.1 204 0 c_.toNat → P_ (S_.2.2.1 205 0 (3 * c_ + k_).toNat)
def trp (P_ : Int → Prop) (S_ : sm_S) : Prop := ∀ k_ : Int, 0 ≤ k_ → k_ < S_.1 13 0 123 → P_ (S_.2.2.1 212 0 k_.toNat)
theorem ctp_fr {w_ : sx_Wl} {P_ : Int → Prop} {S_ S'_ : sm_S} (h_ : ctp P_ S_) (g_ : ai_fr (sx_W w_) S_ S'_) (h1_ : (sx_W w_).1 13 114 = false := by rfl) (h2_ : (sx_W w_).2.1 204 = false := by rfl) (h3_ : (sx_W w_).2.1 205 = false := by rfl) : ctp P_ S'_ := by
  unfold ctp
  rw [g_.1 13 0 114 h1_, fr_arr g_ h2_, fr_arr g_ h3_]
  exact h_
theorem trp_fr {w_ : sx_Wl} {P_ : Int → Prop} {S_ S'_ : sm_S} (h_ : trp P_ S_) (g_ : ai_fr (sx_W w_) S_ S'_) (h1_ : (sx_W w_).1 13 123 = false := by rfl) (h2_ : (sx_W w_).2.1 212 = false := by rfl) : trp P_ S'_ := by
  unfold trp
  rw [g_.1 13 0 123 h1_, fr_arr g_ h2_]
  exact h_
/-- a_ leaf that may_ stand in a_ cut_ of_ n_ -/
def cnd9 (n_ : Int) (u_ : Nat → Int) (x_ : Int) : Prop := 1 ≤ x_ ∧ x_ < n_ ∧ u_ x_.toNat = 1
def iat (sz_ o_ k_ : Int) : Int := if sz_ < 3 then (if o_ = 0 then k_ else sz_ - 1 - k_) else if k_ = 0 then o_ / 2 else if (k_ = 1 ∧ o_ % 2 = 0) ∨ (k_ ≠ 1 ∧ o_ % 2 ≠ 0) then (if o_ / 2 = 0 then 1 else 0) else (if o_ / 2 = 2 then 1 else 2)
def cst (F_ : Int) (S_ : sm_S) (x_ t_ : Int) : Int := if F_ ≤ x_ ∧ S_.2.2.1 203 0 x_.toNat = 0 then S_.2.2.1 210 0 (2 * x_ + t_).toNat else if t_ = 0 then 0 else S_.1 13 0 108
/-! M_.isInner -/
def vw_395 : sx_Wl := ([], [], [])
def vq_395 (n_ : Int) (F_ : Int) (S0_ : sm_S) (u_ : Option sm_V) (S1_ : sm_S) : Prop := S0_ = S1_ ∧ ∃ v_ : Int, u_ = some (.inl v_) ∧ ((v_ = 1 ∧ F_ ≤ n_ ∧ S0_.2.2.1 203 0 n_.toNat = 0) ∨ (v_ = 0 ∧ (n_ < F_ ∨ S0_.2.2.1 203 0 n_.toNat = 1)))
set_option maxHeartbeats 400000 in
set_option maxRecDepth 20000 in
theorem vc_395 {sc_ : Nat × (Nat → Int)} (n_ : Int) (F_ : Int) (S0_ : sm_S) (hI_ : gi S0_) (hf_ : S0_.2.2.1 160 0 (S0_.1 13 0 105).toNat = F_) (hn_ : 0 ≤ n_ ∧ n_ ≤ 2047) : sm_T (mt_P sc_) 0 395 (0, [some (.inr (.inr (some (13, 0)))), some (.inl n_)], [], S0_) (fun ro9_ => ∃ u_ S1_, ro9_ = (.inl u_, S1_, 0) ∧ vq_395 n_ F_ S0_ u_ S1_) := by
  have hF_ : ai_fr (sx_W vw_395) S0_ S0_ := ai_fr_rf
  have bx1_ : 0 ≤ S0_.1 13 0 105 ∧ S0_.1 13 0 105 ≤ 5 := hI_.1 13 0 105 rfl
  refine sm_T_go 5 (c1 := (9, [some (.inr (.inr (some (13, 0)))), some (.inl n_)], [.inl (S0_.1 13 0 105), .inr (.inr (some (160, 0))), .inl n_], S0_)) rfl ?_
  refine sm_T_iald (n := 6) rfl rfl (by omega) (by omega) ?_
  have bx2_ : 0 ≤ S0_.2.2.1 160 0 (S0_.1 13 0 105).toNat ∧ S0_.2.2.1 160 0 (S0_.1 13 0 105).toNat ≤ 19 := hI_.2 160 0 _
  refine sm_T_br (a := 2) (z := 16) rfl (fun cx3_ => ?_) (fun cx3_ => ?_)
  · have cx3_ : n_ < (S0_.2.2.1 160 0 (S0_.1 13 0 105).toNat) := of_decide_eq_true cx3_
    refine sm_T_go 1 (c1 := (27, [some (.inr (.inr (some (13, 0)))), some (.inl n_)], [.inl 0], S0_)) rfl ?_
    refine sm_T_rz rfl (by omega) ⟨_, _, rfl, rfl, _, rfl, ?_⟩
    omega
  · have cx3_ : ¬ (n_ < (S0_.2.2.1 160 0 (S0_.1 13 0 105).toNat)) := of_decide_eq_false cx3_
    refine sm_T_go 3 (c1 := (18, [some (.inr (.inr (some (13, 0)))), some (.inl n_)], [.inl n_, .inr (.inr (some (203, 0)))], S0_)) rfl ?_
    refine sm_T_zald (n := 2048) rfl rfl (by omega) (by omega) ?_
    have bx4_ : 0 ≤ S0_.2.2.1 203 0 n_.toNat ∧ S0_.2.2.1 203 0 n_.toNat ≤ 1 := hI_.2 203 0 _
    refine sm_T_b0 (a := 1) (z := 7) rfl (fun cx5_ => ?_) (fun cx5_ => ?_)
    · have cx5_ : (S0_.2.2.1 203 0 n_.toNat) ≠ 0 := of_decide_eq_true cx5_
      refine sm_T_go 1 (c1 := (27, [some (.inr (.inr (some (13, 0)))), some (.inl n_)], [.inl 0], S0_)) rfl ?_
      refine sm_T_rz rfl (by omega) ⟨_, _, rfl, rfl, _, rfl, ?_⟩
      omega
    · have cx5_ : ¬ ((S0_.2.2.1 203 0 n_.toNat) ≠ 0) := of_decide_eq_false cx5_
      refine sm_T_go 2 (c1 := (27, [some (.inr (.inr (some (13, 0)))), some (.inl n_)], [.inl 1], S0_)) rfl ?_
      refine sm_T_rz rfl (by omega) ⟨_, _, rfl, rfl, _, rfl, ?_⟩
      omega
/-! M_.put -/
/-! M_.keepCut -/
/-! M_.isCutBefore -/
/-! M_.swapCuts -/
/-! M_.findCuts -/
/-! M_.tableOf -/
/-! M_.functionOver -/
/-! M_.inputAt -/
def vw_403 : sx_Wl := ([], [], [])
def vq_403 (sz_ : Int) (or9_ : Int) (k_ : Int) (S0_ : sm_S) (u_ : Option sm_V) (S1_ : sm_S) : Prop := S0_ = S1_ ∧ ∃ v_ : Int, u_ = some (.inl v_) ∧ (v_ = iat sz_ or9_ k_ ∧ 0 ≤ v_ ∧ v_ < sz_)
set_option maxHeartbeats 400000 in
set_option maxRecDepth 20000 in
theorem vc_403 {sc_ : Nat × (Nat → Int)} (sz_ : Int) (or9_ : Int) (k_ : Int) (S0_ : sm_S) (hI_ : gi S0_) (hs_ : 1 ≤ sz_ ∧ sz_ ≤ 3 ∧ 0 ≤ or9_ ∧ or9_ ≤ 5 ∧ 0 ≤ k_ ∧ k_ < sz_) : sm_T (mt_P sc_) 0 403 (0, [some (.inl sz_), some (.inl or9_), some (.inl k_), none, none, none], [], S0_) (fun ro9_ => ∃ u_ S1_, ro9_ = (.inl u_, S1_, 0) ∧ vq_403 sz_ or9_ k_ S0_ u_ S1_) := by
  have hF_ : ai_fr (sx_W vw_403) S0_ S0_ := ai_fr_rf
  refine sm_T_go 2 (c1 := (2, [some (.inl sz_), some (.inl or9_), some (.inl k_), none, none, none], [.inl 3, .inl sz_], S0_)) rfl ?_
  refine sm_T_br (a := 3) (z := 17) rfl (fun cx1_ => ?_) (fun cx1_ => ?_)
  · have cx1_ : 3 ≤ sz_ := of_decide_eq_true cx1_
    refine sm_T_go 2 (c1 := (21, [some (.inl sz_), some (.inl or9_), some (.inl k_), none, none, none], [.inl 2, .inl or9_], S0_)) rfl ?_
    refine sm_T_bin (w := (or9_ / 2)) rfl (bi_div (by omega) (by omega) (by omega) (by omega)) ?_ -- pc_ 21
    refine sm_T_go 2 (c1 := (24, [some (.inl sz_), some (.inl or9_), some (.inl k_), some (.inl (or9_ / 2)), none, none], [.inl (or9_ / 2)], S0_)) rfl ?_
    refine sm_T_b0 (a := 1) (z := 7) rfl (fun cx2_ => ?_) (fun cx2_ => ?_)
    · have cx2_ : (or9_ / 2) ≠ 0 := of_decide_eq_true cx2_
      refine sm_T_go 4 (c1 := (36, [some (.inl sz_), some (.inl or9_), some (.inl k_), some (.inl (or9_ / 2)), some (.inl 0), none], [.inl 2, .inl (or9_ / 2)], S0_)) rfl ?_
      refine sm_T_br (a := 1) (z := 7) rfl (fun cx3_ => ?_) (fun cx3_ => ?_)
      · have cx3_ : (or9_ / 2) ≠ 2 := of_decide_eq_true cx3_
        refine sm_T_go 3 (c1 := (47, [some (.inl sz_), some (.inl or9_), some (.inl k_), some (.inl (or9_ / 2)), some (.inl 0), some (.inl 2)], [.inl k_], S0_)) rfl ?_
        refine sm_T_b0 (a := 1) (z := 7) rfl (fun cx4_ => ?_) (fun cx4_ => ?_)
        · have cx4_ : k_ ≠ 0 := of_decide_eq_true cx4_
          refine sm_T_go 2 (c1 := (56, [some (.inl sz_), some (.inl or9_), some (.inl k_), some (.inl (or9_ / 2)), some (.inl 0), some (.inl 2)], [.inl 1, .inl k_], S0_)) rfl ?_
          refine sm_T_br (a := 1) (z := 7) rfl (fun cx5_ => ?_) (fun cx5_ => ?_)
          · have cx5_ : k_ ≠ 1 := of_decide_eq_true cx5_
            refine sm_T_go 3 (c1 := (66, [some (.inl sz_), some (.inl or9_), some (.inl k_), some (.inl (or9_ / 2)), some (.inl 0), some (.inl 2)], [.inl 2, .inl or9_, .inl 0], S0_)) rfl ?_
            refine sm_T_bin (w := (or9_ % 2)) rfl (bi_rem (by omega) (by omega) (by omega) (by omega)) ?_ -- pc_ 66
            refine sm_T_b0 (a := 1) (z := 7) rfl (fun cx6_ => ?_) (fun cx6_ => ?_)
            · have cx6_ : (or9_ % 2) ≠ 0 := of_decide_eq_true cx6_
              refine sm_T_go 4 (c1 := (85, [some (.inl sz_), some (.inl or9_), some (.inl k_), some (.inl (or9_ / 2)), some (.inl 0), some (.inl 2)], [.inl 0], S0_)) rfl ?_
              refine sm_T_ri rfl ⟨_, _, rfl, rfl, _, rfl, ?_⟩
              refine ⟨?_, by omega, by omega⟩
              unfold iat
              first | (rw [if_pos (by omega)]; first | rw [if_pos (by omega)] | (rw [if_neg (by omega)]; omega)) | (rw [if_neg (by omega)]; first | rw [if_pos (by omega)] | (rw [if_neg (by omega)]; first | (rw [if_pos (by omega)]; first | rw [if_pos (by omega)] | rw [if_neg (by omega)]) | (rw [if_neg (by omega)]; first | rw [if_pos (by omega)] | rw [if_neg (by omega)])))
            · have cx6_ : ¬ ((or9_ % 2) ≠ 0) := of_decide_eq_false cx6_
              refine sm_T_go 4 (c1 := (85, [some (.inl sz_), some (.inl or9_), some (.inl k_), some (.inl (or9_ / 2)), some (.inl 0), some (.inl 2)], [.inl 2], S0_)) rfl ?_
              refine sm_T_ri rfl ⟨_, _, rfl, rfl, _, rfl, ?_⟩
              refine ⟨?_, by omega, by omega⟩
              unfold iat
              first | (rw [if_pos (by omega)]; first | rw [if_pos (by omega)] | (rw [if_neg (by omega)]; omega)) | (rw [if_neg (by omega)]; first | rw [if_pos (by omega)] | (rw [if_neg (by omega)]; first | (rw [if_pos (by omega)]; first | rw [if_pos (by omega)] | rw [if_neg (by omega)]) | (rw [if_neg (by omega)]; first | rw [if_pos (by omega)] | rw [if_neg (by omega)])))
          · have cx5_ : ¬ (k_ ≠ 1) := of_decide_eq_false cx5_
            refine sm_T_go 4 (c1 := (66, [some (.inl sz_), some (.inl or9_), some (.inl k_), some (.inl (or9_ / 2)), some (.inl 0), some (.inl 2)], [.inl 2, .inl or9_, .inl 1], S0_)) rfl ?_
            refine sm_T_bin (w := (or9_ % 2)) rfl (bi_rem (by omega) (by omega) (by omega) (by omega)) ?_ -- pc_ 66
            refine sm_T_b0 (a := 1) (z := 7) rfl (fun cx7_ => ?_) (fun cx7_ => ?_)
            · have cx7_ : (or9_ % 2) ≠ 0 := of_decide_eq_true cx7_
              refine sm_T_go 3 (c1 := (85, [some (.inl sz_), some (.inl or9_), some (.inl k_), some (.inl (or9_ / 2)), some (.inl 0), some (.inl 2)], [.inl 2], S0_)) rfl ?_
              refine sm_T_ri rfl ⟨_, _, rfl, rfl, _, rfl, ?_⟩
              refine ⟨?_, by omega, by omega⟩
              unfold iat
              first | (rw [if_pos (by omega)]; first | rw [if_pos (by omega)] | (rw [if_neg (by omega)]; omega)) | (rw [if_neg (by omega)]; first | rw [if_pos (by omega)] | (rw [if_neg (by omega)]; first | (rw [if_pos (by omega)]; first | rw [if_pos (by omega)] | rw [if_neg (by omega)]) | (rw [if_neg (by omega)]; first | rw [if_pos (by omega)] | rw [if_neg (by omega)])))
            · have cx7_ : ¬ ((or9_ % 2) ≠ 0) := of_decide_eq_false cx7_
              refine sm_T_go 5 (c1 := (85, [some (.inl sz_), some (.inl or9_), some (.inl k_), some (.inl (or9_ / 2)), some (.inl 0), some (.inl 2)], [.inl 0], S0_)) rfl ?_
              refine sm_T_ri rfl ⟨_, _, rfl, rfl, _, rfl, ?_⟩
              refine ⟨?_, by omega, by omega⟩
              unfold iat
              first | (rw [if_pos (by omega)]; first | rw [if_pos (by omega)] | (rw [if_neg (by omega)]; omega)) | (rw [if_neg (by omega)]; first | rw [if_pos (by omega)] | (rw [if_neg (by omega)]; first | (rw [if_pos (by omega)]; first | rw [if_pos (by omega)] | rw [if_neg (by omega)]) | (rw [if_neg (by omega)]; first | rw [if_pos (by omega)] | rw [if_neg (by omega)])))
        · have cx4_ : ¬ (k_ ≠ 0) := of_decide_eq_false cx4_
          refine sm_T_go 2 (c1 := (85, [some (.inl sz_), some (.inl or9_), some (.inl k_), some (.inl (or9_ / 2)), some (.inl 0), some (.inl 2)], [.inl (or9_ / 2)], S0_)) rfl ?_
          refine sm_T_ri rfl ⟨_, _, rfl, rfl, _, rfl, ?_⟩
          refine ⟨?_, by omega, by omega⟩
          unfold iat
          first | (rw [if_pos (by omega)]; first | rw [if_pos (by omega)] | (rw [if_neg (by omega)]; omega)) | (rw [if_neg (by omega)]; first | rw [if_pos (by omega)] | (rw [if_neg (by omega)]; first | (rw [if_pos (by omega)]; first | rw [if_pos (by omega)] | rw [if_neg (by omega)]) | (rw [if_neg (by omega)]; first | rw [if_pos (by omega)] | rw [if_neg (by omega)])))
      · have cx3_ : ¬ ((or9_ / 2) ≠ 2) := of_decide_eq_false cx3_
        refine sm_T_go 4 (c1 := (47, [some (.inl sz_), some (.inl or9_), some (.inl k_), some (.inl (or9_ / 2)), some (.inl 0), some (.inl 1)], [.inl k_], S0_)) rfl ?_
        refine sm_T_b0 (a := 1) (z := 7) rfl (fun cx8_ => ?_) (fun cx8_ => ?_)
        · have cx8_ : k_ ≠ 0 := of_decide_eq_true cx8_
          refine sm_T_go 2 (c1 := (56, [some (.inl sz_), some (.inl or9_), some (.inl k_), some (.inl (or9_ / 2)), some (.inl 0), some (.inl 1)], [.inl 1, .inl k_], S0_)) rfl ?_
          refine sm_T_br (a := 1) (z := 7) rfl (fun cx9_ => ?_) (fun cx9_ => ?_)
          · have cx9_ : k_ ≠ 1 := of_decide_eq_true cx9_
            refine sm_T_go 3 (c1 := (66, [some (.inl sz_), some (.inl or9_), some (.inl k_), some (.inl (or9_ / 2)), some (.inl 0), some (.inl 1)], [.inl 2, .inl or9_, .inl 0], S0_)) rfl ?_
            refine sm_T_bin (w := (or9_ % 2)) rfl (bi_rem (by omega) (by omega) (by omega) (by omega)) ?_ -- pc_ 66
            refine sm_T_b0 (a := 1) (z := 7) rfl (fun cx10_ => ?_) (fun cx10_ => ?_)
            · have cx10_ : (or9_ % 2) ≠ 0 := of_decide_eq_true cx10_
              refine sm_T_go 4 (c1 := (85, [some (.inl sz_), some (.inl or9_), some (.inl k_), some (.inl (or9_ / 2)), some (.inl 0), some (.inl 1)], [.inl 0], S0_)) rfl ?_
              refine sm_T_ri rfl ⟨_, _, rfl, rfl, _, rfl, ?_⟩
              refine ⟨?_, by omega, by omega⟩
              unfold iat
              first | (rw [if_pos (by omega)]; first | rw [if_pos (by omega)] | (rw [if_neg (by omega)]; omega)) | (rw [if_neg (by omega)]; first | rw [if_pos (by omega)] | (rw [if_neg (by omega)]; first | (rw [if_pos (by omega)]; first | rw [if_pos (by omega)] | rw [if_neg (by omega)]) | (rw [if_neg (by omega)]; first | rw [if_pos (by omega)] | rw [if_neg (by omega)])))
            · have cx10_ : ¬ ((or9_ % 2) ≠ 0) := of_decide_eq_false cx10_
              refine sm_T_go 4 (c1 := (85, [some (.inl sz_), some (.inl or9_), some (.inl k_), some (.inl (or9_ / 2)), some (.inl 0), some (.inl 1)], [.inl 1], S0_)) rfl ?_
              refine sm_T_ri rfl ⟨_, _, rfl, rfl, _, rfl, ?_⟩
              refine ⟨?_, by omega, by omega⟩
              unfold iat
              first | (rw [if_pos (by omega)]; first | rw [if_pos (by omega)] | (rw [if_neg (by omega)]; omega)) | (rw [if_neg (by omega)]; first | rw [if_pos (by omega)] | (rw [if_neg (by omega)]; first | (rw [if_pos (by omega)]; first | rw [if_pos (by omega)] | rw [if_neg (by omega)]) | (rw [if_neg (by omega)]; first | rw [if_pos (by omega)] | rw [if_neg (by omega)])))
          · have cx9_ : ¬ (k_ ≠ 1) := of_decide_eq_false cx9_
            refine sm_T_go 4 (c1 := (66, [some (.inl sz_), some (.inl or9_), some (.inl k_), some (.inl (or9_ / 2)), some (.inl 0), some (.inl 1)], [.inl 2, .inl or9_, .inl 1], S0_)) rfl ?_
            refine sm_T_bin (w := (or9_ % 2)) rfl (bi_rem (by omega) (by omega) (by omega) (by omega)) ?_ -- pc_ 66
            refine sm_T_b0 (a := 1) (z := 7) rfl (fun cx11_ => ?_) (fun cx11_ => ?_)
            · have cx11_ : (or9_ % 2) ≠ 0 := of_decide_eq_true cx11_
              refine sm_T_go 3 (c1 := (85, [some (.inl sz_), some (.inl or9_), some (.inl k_), some (.inl (or9_ / 2)), some (.inl 0), some (.inl 1)], [.inl 1], S0_)) rfl ?_
              refine sm_T_ri rfl ⟨_, _, rfl, rfl, _, rfl, ?_⟩
              refine ⟨?_, by omega, by omega⟩
              unfold iat
              first | (rw [if_pos (by omega)]; first | rw [if_pos (by omega)] | (rw [if_neg (by omega)]; omega)) | (rw [if_neg (by omega)]; first | rw [if_pos (by omega)] | (rw [if_neg (by omega)]; first | (rw [if_pos (by omega)]; first | rw [if_pos (by omega)] | rw [if_neg (by omega)]) | (rw [if_neg (by omega)]; first | rw [if_pos (by omega)] | rw [if_neg (by omega)])))
            · have cx11_ : ¬ ((or9_ % 2) ≠ 0) := of_decide_eq_false cx11_
              refine sm_T_go 5 (c1 := (85, [some (.inl sz_), some (.inl or9_), some (.inl k_), some (.inl (or9_ / 2)), some (.inl 0), some (.inl 1)], [.inl 0], S0_)) rfl ?_
              refine sm_T_ri rfl ⟨_, _, rfl, rfl, _, rfl, ?_⟩
              refine ⟨?_, by omega, by omega⟩
              unfold iat
              first | (rw [if_pos (by omega)]; first | rw [if_pos (by omega)] | (rw [if_neg (by omega)]; omega)) | (rw [if_neg (by omega)]; first | rw [if_pos (by omega)] | (rw [if_neg (by omega)]; first | (rw [if_pos (by omega)]; first | rw [if_pos (by omega)] | rw [if_neg (by omega)]) | (rw [if_neg (by omega)]; first | rw [if_pos (by omega)] | rw [if_neg (by omega)])))
        · have cx8_ : ¬ (k_ ≠ 0) := of_decide_eq_false cx8_
          refine sm_T_go 2 (c1 := (85, [some (.inl sz_), some (.inl or9_), some (.inl k_), some (.inl (or9_ / 2)), some (.inl 0), some (.inl 1)], [.inl (or9_ / 2)], S0_)) rfl ?_
          refine sm_T_ri rfl ⟨_, _, rfl, rfl, _, rfl, ?_⟩
          refine ⟨?_, by omega, by omega⟩
          unfold iat
          first | (rw [if_pos (by omega)]; first | rw [if_pos (by omega)] | (rw [if_neg (by omega)]; omega)) | (rw [if_neg (by omega)]; first | rw [if_pos (by omega)] | (rw [if_neg (by omega)]; first | (rw [if_pos (by omega)]; first | rw [if_pos (by omega)] | rw [if_neg (by omega)]) | (rw [if_neg (by omega)]; first | rw [if_pos (by omega)] | rw [if_neg (by omega)])))
    · have cx2_ : ¬ ((or9_ / 2) ≠ 0) := of_decide_eq_false cx2_
      refine sm_T_go 5 (c1 := (36, [some (.inl sz_), some (.inl or9_), some (.inl k_), some (.inl (or9_ / 2)), some (.inl 1), none], [.inl 2, .inl (or9_ / 2)], S0_)) rfl ?_
      refine sm_T_br (a := 1) (z := 7) rfl (fun cx12_ => ?_) (fun cx12_ => ?_)
      · have cx12_ : (or9_ / 2) ≠ 2 := of_decide_eq_true cx12_
        refine sm_T_go 3 (c1 := (47, [some (.inl sz_), some (.inl or9_), some (.inl k_), some (.inl (or9_ / 2)), some (.inl 1), some (.inl 2)], [.inl k_], S0_)) rfl ?_
        refine sm_T_b0 (a := 1) (z := 7) rfl (fun cx13_ => ?_) (fun cx13_ => ?_)
        · have cx13_ : k_ ≠ 0 := of_decide_eq_true cx13_
          refine sm_T_go 2 (c1 := (56, [some (.inl sz_), some (.inl or9_), some (.inl k_), some (.inl (or9_ / 2)), some (.inl 1), some (.inl 2)], [.inl 1, .inl k_], S0_)) rfl ?_
          refine sm_T_br (a := 1) (z := 7) rfl (fun cx14_ => ?_) (fun cx14_ => ?_)
          · have cx14_ : k_ ≠ 1 := of_decide_eq_true cx14_
            refine sm_T_go 3 (c1 := (66, [some (.inl sz_), some (.inl or9_), some (.inl k_), some (.inl (or9_ / 2)), some (.inl 1), some (.inl 2)], [.inl 2, .inl or9_, .inl 0], S0_)) rfl ?_
            refine sm_T_bin (w := (or9_ % 2)) rfl (bi_rem (by omega) (by omega) (by omega) (by omega)) ?_ -- pc_ 66
            refine sm_T_b0 (a := 1) (z := 7) rfl (fun cx15_ => ?_) (fun cx15_ => ?_)
            · have cx15_ : (or9_ % 2) ≠ 0 := of_decide_eq_true cx15_
              refine sm_T_go 4 (c1 := (85, [some (.inl sz_), some (.inl or9_), some (.inl k_), some (.inl (or9_ / 2)), some (.inl 1), some (.inl 2)], [.inl 1], S0_)) rfl ?_
              refine sm_T_ri rfl ⟨_, _, rfl, rfl, _, rfl, ?_⟩
              refine ⟨?_, by omega, by omega⟩
              unfold iat
              first | (rw [if_pos (by omega)]; first | rw [if_pos (by omega)] | (rw [if_neg (by omega)]; omega)) | (rw [if_neg (by omega)]; first | rw [if_pos (by omega)] | (rw [if_neg (by omega)]; first | (rw [if_pos (by omega)]; first | rw [if_pos (by omega)] | rw [if_neg (by omega)]) | (rw [if_neg (by omega)]; first | rw [if_pos (by omega)] | rw [if_neg (by omega)])))
            · have cx15_ : ¬ ((or9_ % 2) ≠ 0) := of_decide_eq_false cx15_
              refine sm_T_go 4 (c1 := (85, [some (.inl sz_), some (.inl or9_), some (.inl k_), some (.inl (or9_ / 2)), some (.inl 1), some (.inl 2)], [.inl 2], S0_)) rfl ?_
              refine sm_T_ri rfl ⟨_, _, rfl, rfl, _, rfl, ?_⟩
              refine ⟨?_, by omega, by omega⟩
              unfold iat
              first | (rw [if_pos (by omega)]; first | rw [if_pos (by omega)] | (rw [if_neg (by omega)]; omega)) | (rw [if_neg (by omega)]; first | rw [if_pos (by omega)] | (rw [if_neg (by omega)]; first | (rw [if_pos (by omega)]; first | rw [if_pos (by omega)] | rw [if_neg (by omega)]) | (rw [if_neg (by omega)]; first | rw [if_pos (by omega)] | rw [if_neg (by omega)])))
          · have cx14_ : ¬ (k_ ≠ 1) := of_decide_eq_false cx14_
            refine sm_T_go 4 (c1 := (66, [some (.inl sz_), some (.inl or9_), some (.inl k_), some (.inl (or9_ / 2)), some (.inl 1), some (.inl 2)], [.inl 2, .inl or9_, .inl 1], S0_)) rfl ?_
            refine sm_T_bin (w := (or9_ % 2)) rfl (bi_rem (by omega) (by omega) (by omega) (by omega)) ?_ -- pc_ 66
            refine sm_T_b0 (a := 1) (z := 7) rfl (fun cx16_ => ?_) (fun cx16_ => ?_)
            · have cx16_ : (or9_ % 2) ≠ 0 := of_decide_eq_true cx16_
              refine sm_T_go 3 (c1 := (85, [some (.inl sz_), some (.inl or9_), some (.inl k_), some (.inl (or9_ / 2)), some (.inl 1), some (.inl 2)], [.inl 2], S0_)) rfl ?_
              refine sm_T_ri rfl ⟨_, _, rfl, rfl, _, rfl, ?_⟩
              refine ⟨?_, by omega, by omega⟩
              unfold iat
              first | (rw [if_pos (by omega)]; first | rw [if_pos (by omega)] | (rw [if_neg (by omega)]; omega)) | (rw [if_neg (by omega)]; first | rw [if_pos (by omega)] | (rw [if_neg (by omega)]; first | (rw [if_pos (by omega)]; first | rw [if_pos (by omega)] | rw [if_neg (by omega)]) | (rw [if_neg (by omega)]; first | rw [if_pos (by omega)] | rw [if_neg (by omega)])))
            · have cx16_ : ¬ ((or9_ % 2) ≠ 0) := of_decide_eq_false cx16_
              refine sm_T_go 5 (c1 := (85, [some (.inl sz_), some (.inl or9_), some (.inl k_), some (.inl (or9_ / 2)), some (.inl 1), some (.inl 2)], [.inl 1], S0_)) rfl ?_
              refine sm_T_ri rfl ⟨_, _, rfl, rfl, _, rfl, ?_⟩
              refine ⟨?_, by omega, by omega⟩
              unfold iat
              first | (rw [if_pos (by omega)]; first | rw [if_pos (by omega)] | (rw [if_neg (by omega)]; omega)) | (rw [if_neg (by omega)]; first | rw [if_pos (by omega)] | (rw [if_neg (by omega)]; first | (rw [if_pos (by omega)]; first | rw [if_pos (by omega)] | rw [if_neg (by omega)]) | (rw [if_neg (by omega)]; first | rw [if_pos (by omega)] | rw [if_neg (by omega)])))
        · have cx13_ : ¬ (k_ ≠ 0) := of_decide_eq_false cx13_
          refine sm_T_go 2 (c1 := (85, [some (.inl sz_), some (.inl or9_), some (.inl k_), some (.inl (or9_ / 2)), some (.inl 1), some (.inl 2)], [.inl (or9_ / 2)], S0_)) rfl ?_
          refine sm_T_ri rfl ⟨_, _, rfl, rfl, _, rfl, ?_⟩
          refine ⟨?_, by omega, by omega⟩
          unfold iat
          first | (rw [if_pos (by omega)]; first | rw [if_pos (by omega)] | (rw [if_neg (by omega)]; omega)) | (rw [if_neg (by omega)]; first | rw [if_pos (by omega)] | (rw [if_neg (by omega)]; first | (rw [if_pos (by omega)]; first | rw [if_pos (by omega)] | rw [if_neg (by omega)]) | (rw [if_neg (by omega)]; first | rw [if_pos (by omega)] | rw [if_neg (by omega)])))
      · have cx12_ : ¬ ((or9_ / 2) ≠ 2) := of_decide_eq_false cx12_
        exfalso; omega
  · have cx1_ : ¬ (3 ≤ sz_) := of_decide_eq_false cx1_
    refine sm_T_go 1 (c1 := (6, [some (.inl sz_), some (.inl or9_), some (.inl k_), none, none, none], [.inl or9_], S0_)) rfl ?_
    refine sm_T_b0 (a := 1) (z := 7) rfl (fun cx17_ => ?_) (fun cx17_ => ?_)
    · have cx17_ : or9_ ≠ 0 := of_decide_eq_true cx17_
      refine sm_T_go 2 (c1 := (15, [some (.inl sz_), some (.inl or9_), some (.inl k_), none, none, none], [.inl 1, .inl sz_], S0_)) rfl ?_
      refine sm_T_bin (w := sz_ - 1) rfl (bi_sub (by omega) (by omega) (by omega)) ?_ -- pc_ 15
      refine sm_T_go 1 (c1 := (17, [some (.inl sz_), some (.inl or9_), some (.inl k_), none, none, none], [.inl k_, .inl (sz_ - 1)], S0_)) rfl ?_
      refine sm_T_bin (w := sz_ - k_ - 1) rfl (bi_sub (by omega) (by omega) (by omega)) ?_ -- pc_ 17
      refine sm_T_ri rfl ⟨_, _, rfl, rfl, _, rfl, ?_⟩
      refine ⟨?_, by omega, by omega⟩
      unfold iat
      first | (rw [if_pos (by omega)]; first | rw [if_pos (by omega)] | (rw [if_neg (by omega)]; omega)) | (rw [if_neg (by omega)]; first | rw [if_pos (by omega)] | (rw [if_neg (by omega)]; first | (rw [if_pos (by omega)]; first | rw [if_pos (by omega)] | rw [if_neg (by omega)]) | (rw [if_neg (by omega)]; first | rw [if_pos (by omega)] | rw [if_neg (by omega)])))
    · have cx17_ : ¬ (or9_ ≠ 0) := of_decide_eq_false cx17_
      refine sm_T_go 2 (c1 := (18, [some (.inl sz_), some (.inl or9_), some (.inl k_), none, none, none], [.inl k_], S0_)) rfl ?_
      refine sm_T_ri rfl ⟨_, _, rfl, rfl, _, rfl, ?_⟩
      refine ⟨?_, by omega, by omega⟩
      unfold iat
      first | (rw [if_pos (by omega)]; first | rw [if_pos (by omega)] | (rw [if_neg (by omega)]; omega)) | (rw [if_neg (by omega)]; first | rw [if_pos (by omega)] | (rw [if_neg (by omega)]; first | (rw [if_pos (by omega)]; first | rw [if_pos (by omega)] | rw [if_neg (by omega)]) | (rw [if_neg (by omega)]; first | rw [if_pos (by omega)] | rw [if_neg (by omega)])))
end
/-! 99.zs7 -/
section
/-! the reference: ways; written by wip/p55/gen/vg -/

/-! the_ reference: ways of_ making a_ literal -/
theorem l_0_s {x_ y_ : Int} (hx_ : -1000000000000 ≤ x_ ∧ x_ ≤ 1000000000000) (hy_ : -2147483648 ≤ y_ ∧ y_ ≤ 2147483647) : l_0 x_ (l_i2l y_) = x_ + y_ := by
  rw [l_i2l_s hy_.1 hy_.2]
  unfold l_0
  rw [Int64.toInt_add, Int64.toInt_ofInt_of_le (by omega) (by omega), Int64.toInt_ofInt_of_le (by omega) (by omega)]
  exact Int.bmod_eq_of_le (by omega) (by omega)
theorem l2i_s {x_ : Int} (h_ : -2147483648 ≤ x_ ∧ x_ ≤ 2147483647) : l_l2i x_ = x_ := by
  unfold l_l2i
  rw [Int64.toInt_toInt32, Int64.toInt_ofInt_of_le (by omega) (by omega)]
  exact Int.bmod_eq_of_le (by omega) (by omega)
theorem lcmp_lt {x_ y_ : Int} : sm_lcmp x_ y_ < 0 ↔ x_ < y_ := by
  unfold sm_lcmp
  split
  · rename_i h_
    exact ⟨fun z_ => absurd z_ (by decide), fun z_ => by omega⟩
  · split
    · rename_i h_
      exact ⟨fun z_ => absurd z_ (by decide), fun z_ => by omega⟩
    · exact ⟨fun _ => by omega, fun _ => by decide⟩
theorem iat_b {sz_ o_ k_ : Int} (hs_ : 1 ≤ sz_ ∧ sz_ ≤ 3) (ho_ : 0 ≤ o_ ∧ o_ ≤ 5) (hk_ : 0 ≤ k_ ∧ k_ < sz_) : 0 ≤ iat sz_ o_ k_ ∧ iat sz_ o_ k_ < sz_ := by
  unfold iat
  split
  · split <;> omega
  · split
    · omega
    · split
      · split <;> omega
      · split <;> omega
def inp (F_ n_ : Int) (S_ : sm_S) (x_ t_ : Int) : Prop := cnd9 n_ (S_.2.2.1 202 0) x_ ∧ cst F_ S_ x_ t_ < 1000000000
/-- the_ way_ of_ a_ literal can_ be_ gone -/
def wyc (F_ n_ : Int) (S_ : sm_S) (w_ : Int) : Prop := imq (S_.2.2.1 206 0 w_.toNat < 1000000000) (0 ≤ S_.2.2.1 207 0 w_.toNat ∧ 1 ≤ S_.2.2.1 185 0 (12 * S_.1 13 0 106 + S_.2.2.1 207 0 w_.toNat).toNat ∧ ∀ k_ : Int, 0 ≤ k_ → k_ < S_.2.2.1 185 0 (12 * S_.1 13 0 106 + S_.2.2.1 207 0 w_.toNat).toNat → inp F_ n_ S_ (S_.2.2.1 208 0 (3 * w_ + k_).toNat) (i_shr (S_.2.2.1 209 0 w_.toNat) k_ % 2))
/-- only the_ way_ of_ one_ literal changes -/
def wfr (w_ : Int) (S_ S'_ : sm_S) : Prop := (∀ j_, j_ ≠ w_.toNat → S'_.2.2.1 206 0 j_ = S_.2.2.1 206 0 j_ ∧ S'_.2.2.1 207 0 j_ = S_.2.2.1 207 0 j_ ∧ S'_.2.2.1 209 0 j_ = S_.2.2.1 209 0 j_) ∧ ∀ j_, (j_ < 3 * w_.toNat ∨ 3 * w_.toNat + 3 ≤ j_) → S'_.2.2.1 208 0 j_ = S_.2.2.1 208 0 j_
def wf2 (n_ : Int) (S_ S'_ : sm_S) : Prop := (∀ j_, (j_ < 2 * n_.toNat ∨ 2 * n_.toNat + 2 ≤ j_) → S'_.2.2.1 206 0 j_ = S_.2.2.1 206 0 j_ ∧ S'_.2.2.1 207 0 j_ = S_.2.2.1 207 0 j_ ∧ S'_.2.2.1 209 0 j_ = S_.2.2.1 209 0 j_) ∧ ∀ j_, (j_ < 6 * n_.toNat ∨ 6 * n_.toNat + 6 ≤ j_) → S'_.2.2.1 208 0 j_ = S_.2.2.1 208 0 j_
theorem wf2_rf {n_ : Int} {S_ : sm_S} : wf2 n_ S_ S_ := ⟨fun _ _ => ⟨rfl, rfl, rfl⟩, fun _ _ => rfl⟩
theorem wf2_tr {n_ : Int} {S_ S'_ S2_ : sm_S} (h_ : wf2 n_ S_ S'_) (g_ : wf2 n_ S'_ S2_) : wf2 n_ S_ S2_ := ⟨fun j_ hj_ => ⟨(g_.1 j_ hj_).1.trans (h_.1 j_ hj_).1, (g_.1 j_ hj_).2.1.trans (h_.1 j_ hj_).2.1, (g_.1 j_ hj_).2.2.trans (h_.1 j_ hj_).2.2⟩, fun j_ hj_ => (g_.2 j_ hj_).trans (h_.2 j_ hj_)⟩
theorem wf2_fr {w_ : sx_Wl} {n_ : Int} {S_ S'_ : sm_S} (g_ : ai_fr (sx_W w_) S_ S'_) (h1_ : (sx_W w_).2.1 206 = false := by rfl) (h2_ : (sx_W w_).2.1 207 = false := by rfl) (h3_ : (sx_W w_).2.1 208 = false := by rfl) (h4_ : (sx_W w_).2.1 209 = false := by rfl) : wf2 n_ S_ S'_ := ⟨fun j_ _ => ⟨congrFun (fr_arr g_ h1_) j_, congrFun (fr_arr g_ h2_) j_, congrFun (fr_arr g_ h4_) j_⟩, fun j_ _ => congrFun (fr_arr g_ h3_) j_⟩
theorem wf2_w {n_ w_ : Int} {S_ S'_ : sm_S} (h_ : wfr w_ S_ S'_) (hn_ : 0 ≤ n_) (hw_ : w_ = 2 * n_ ∨ w_ = 2 * n_ + 1) : wf2 n_ S_ S'_ := ⟨fun j_ hj_ => h_.1 j_ (by omega), fun j_ hj_ => h_.2 j_ (by omega)⟩
/-- a_ way_ stays, where its_ rows and what it_ stands on_ stay -/
theorem wyc_cg {F_ n_ w_ : Int} {S_ S'_ : sm_S} (hI_ : gi S'_) (h_ : wyc F_ n_ S_ w_) (hw_ : 0 ≤ w_) (e6_ : S'_.2.2.1 206 0 w_.toNat = S_.2.2.1 206 0 w_.toNat) (e7_ : S'_.2.2.1 207 0 w_.toNat = S_.2.2.1 207 0 w_.toNat) (e9_ : S'_.2.2.1 209 0 w_.toNat = S_.2.2.1 209 0 w_.toNat) (e8_ : ∀ k_ : Int, 0 ≤ k_ → k_ < 3 → S'_.2.2.1 208 0 (3 * w_ + k_).toNat = S_.2.2.1 208 0 (3 * w_ + k_).toNat) (e5_ : S'_.2.2.1 185 0 = S_.2.2.1 185 0) (e106_ : S'_.1 13 0 106 = S_.1 13 0 106) (e2_ : S'_.2.2.1 202 0 = S_.2.2.1 202 0) (ec : ∀ x_ t_ : Int, 1 ≤ x_ → x_ < n_ → 0 ≤ t_ → t_ ≤ 1 → cst F_ S'_ x_ t_ = cst F_ S_ x_ t_) : wyc F_ n_ S'_ w_ := by
  unfold wyc
  rw [e6_, e7_, e9_, e5_, e106_]
  intro p_
  have q_ := h_ p_
  refine ⟨q_.1, q_.2.1, fun k_ k0_ k1_ => ?_⟩
  have b_ : S'_.2.2.1 185 0 (12 * S_.1 13 0 106 + S_.2.2.1 207 0 w_.toNat).toNat ≤ 3 := (hI_.2 185 0 _).2
  rw [e5_] at b_
  have z_ := q_.2.2 k_ k0_ k1_
  rw [e8_ k_ k0_ (by omega)]
  refine ⟨by rw [e2_]; exact z_.1, ?_⟩
  rw [ec _ _ z_.1.1 z_.1.2.1 (by omega) (by omega)]
  exact z_.2
theorem cst_fr {w_ : sx_Wl} {F_ : Int} {S_ S'_ : sm_S} (g_ : ai_fr (sx_W w_) S_ S'_) (h1_ : (sx_W w_).2.1 203 = false := by rfl) (h2_ : (sx_W w_).2.1 210 = false := by rfl) (h3_ : (sx_W w_).1 13 108 = false := by rfl) : cst F_ S'_ = cst F_ S_ := by
  funext x_ t_
  unfold cst
  rw [fr_arr g_ h1_, fr_arr g_ h2_, g_.1 13 0 108 h3_]
theorem wyc_fr {w_ : sx_Wl} {F_ n_ l_ : Int} {S_ S'_ : sm_S} (hI_ : gi S'_) (h_ : wyc F_ n_ S_ l_) (hl_ : 0 ≤ l_) (g_ : ai_fr (sx_W w_) S_ S'_) (f_ : (sx_W w_).2.1 206 = false := by rfl) (f7_ : (sx_W w_).2.1 207 = false := by rfl) (f8 : (sx_W w_).2.1 208 = false := by rfl) (f9_ : (sx_W w_).2.1 209 = false := by rfl) (f5_ : (sx_W w_).2.1 185 = false := by rfl) (f1_ : (sx_W w_).1 13 106 = false := by rfl) (f2_ : (sx_W w_).2.1 202 = false := by rfl) (h1_ : (sx_W w_).2.1 203 = false := by rfl) (h2_ : (sx_W w_).2.1 210 = false := by rfl) (h3_ : (sx_W w_).1 13 108 = false := by rfl) : wyc F_ n_ S'_ l_ :=
  wyc_cg hI_ h_ hl_ (congrFun (fr_arr g_ f_) _) (congrFun (fr_arr g_ f7_) _) (congrFun (fr_arr g_ f9_) _) (fun k_ _ _ => congrFun (fr_arr g_ f8) _) (fr_arr g_ f5_) (g_.1 13 0 106 f1_) (fr_arr g_ f2_) (fun x_ t_ _ _ _ _ => by rw [cst_fr g_ h1_ h2_ h3_])
/-! M_.cellOver -/
/-! M_.costOf -/
def vw_404 : sx_Wl := ([], [], [])
def vq_404 (x_ : Int) (t_ : Int) (F_ : Int) (S0_ : sm_S) (u_ : Option sm_V) (S1_ : sm_S) : Prop := S0_ = S1_ ∧ ∃ v_ : Int, u_ = some (.inl v_) ∧ (v_ = cst F_ S0_ x_ t_ ∧ 0 ≤ v_ ∧ v_ ≤ 1000000000)
set_option maxHeartbeats 400000 in
set_option maxRecDepth 20000 in
theorem vc_404 {sc_ : Nat × (Nat → Int)} (x_ : Int) (t_ : Int) (F_ : Int) (S0_ : sm_S) (hI_ : gi S0_) (hf_ : S0_.2.2.1 160 0 (S0_.1 13 0 105).toNat = F_) (hx_ : 0 ≤ x_ ∧ x_ ≤ 1012 ∧ 0 ≤ t_ ∧ t_ ≤ 1) : sm_T (mt_P sc_) 1 404 (0, [some (.inr (.inr (some (13, 0)))), some (.inl x_), some (.inl t_)], [], S0_) (fun ro9_ => ∃ u_ S1_, ro9_ = (.inl u_, S1_, 0) ∧ vq_404 x_ t_ F_ S0_ u_ S1_) := by
  have hF_ : ai_fr (sx_W vw_404) S0_ S0_ := ai_fr_rf
  refine sm_T_go 2 (c1 := (2, [some (.inr (.inr (some (13, 0)))), some (.inl x_), some (.inl t_)], [.inl x_, .inr (.inr (some (13, 0)))], S0_)) rfl ?_
  refine sm_T_cal (d1 := 0) (Q1 := vq_395 x_ F_ S0_) rfl rfl (by decide) (vc_395 x_ F_ S0_ hI_ (by exact hf_) (by omega)) (fun u_ Sx1_ px4_ => ?_)
  obtain ⟨rfl, vx6_, rfl, px4_⟩ := px4_
  have e2_ := px4_
  refine sm_T_b0 (a := 0) (z := 16) rfl (fun cx7_ => ?_) (fun cx7_ => ?_)
  · have cx7_ : vx6_ = 0 := of_decide_eq_true cx7_
    refine sm_T_go 1 (c1 := (22, [some (.inr (.inr (some (13, 0)))), some (.inl x_), some (.inl t_)], [.inl t_], S0_)) rfl ?_
    refine sm_T_b0 (a := 1) (z := 7) rfl (fun cx8_ => ?_) (fun cx8_ => ?_)
    · have cx8_ : t_ ≠ 0 := of_decide_eq_true cx8_
      have bx9_ : 0 ≤ S0_.1 13 0 108 ∧ S0_.1 13 0 108 ≤ 1000000000 := hI_.1 13 0 108 rfl
      refine sm_T_go 2 (c1 := (33, [some (.inr (.inr (some (13, 0)))), some (.inl x_), some (.inl t_)], [.inl (S0_.1 13 0 108)], S0_)) rfl ?_
      refine sm_T_ri rfl ⟨_, _, rfl, rfl, _, rfl, ?_⟩
      refine ⟨?_, by omega, by omega⟩
      unfold cst
      first | rw [if_pos ⟨by omega, by omega⟩] | (rw [if_neg (by omega)]; first | rw [if_pos (by omega)] | rw [if_neg (by omega)])
    · have cx8_ : ¬ (t_ ≠ 0) := of_decide_eq_false cx8_
      refine sm_T_go 2 (c1 := (33, [some (.inr (.inr (some (13, 0)))), some (.inl x_), some (.inl t_)], [.inl 0], S0_)) rfl ?_
      refine sm_T_ri rfl ⟨_, _, rfl, rfl, _, rfl, ?_⟩
      refine ⟨?_, by omega, by omega⟩
      unfold cst
      first | rw [if_pos ⟨by omega, by omega⟩] | (rw [if_neg (by omega)]; first | rw [if_pos (by omega)] | rw [if_neg (by omega)])
  · have cx7_ : ¬ (vx6_ = 0) := of_decide_eq_false cx7_
    refine sm_T_go 4 (c1 := (14, [some (.inr (.inr (some (13, 0)))), some (.inl x_), some (.inl t_)], [.inl x_, .inl 2, .inr (.inr (some (210, 0)))], S0_)) rfl ?_
    refine sm_T_bin (w := 2 * x_) rfl (bi_mul (by omega) (by omega) (by omega)) ?_ -- pc_ 14
    refine sm_T_go 1 (c1 := (16, [some (.inr (.inr (some (13, 0)))), some (.inl x_), some (.inl t_)], [.inl t_, .inl (2 * x_), .inr (.inr (some (210, 0)))], S0_)) rfl ?_
    refine sm_T_bin (w := 2 * x_ + t_) rfl (bi_add (by omega) (by omega) (by omega)) ?_ -- pc_ 16
    refine sm_T_iald (n := 4096) rfl rfl (by omega) (by omega) ?_
    have bx10_ : 0 ≤ S0_.2.2.1 210 0 (2 * x_ + t_).toNat ∧ S0_.2.2.1 210 0 (2 * x_ + t_).toNat ≤ 1000000000 := hI_.2 210 0 _
    refine sm_T_go 1 (c1 := (33, [some (.inr (.inr (some (13, 0)))), some (.inl x_), some (.inl t_)], [.inl (S0_.2.2.1 210 0 (2 * x_ + t_).toNat)], S0_)) rfl ?_
    refine sm_T_ri rfl ⟨_, _, rfl, rfl, _, rfl, ?_⟩
    refine ⟨?_, by omega, by omega⟩
    unfold cst
    first | rw [if_pos ⟨by omega, by omega⟩] | (rw [if_neg (by omega)]; first | rw [if_pos (by omega)] | rw [if_neg (by omega)])
/-! M_.tryWay -/
/-! M_.tryCell -/
/-- what making a_ literal costs, and how_ -/
def ned (S_ : sm_S) (w_ o_ : Int) : Prop := (S_.2.2.1 211 0 w_.toNat = 1 ∧ S_.2.2.1 206 0 o_.toNat + S_.1 13 0 108 < S_.2.2.1 206 0 w_.toNat ∧ S_.2.2.1 210 0 w_.toNat = S_.2.2.1 206 0 o_.toNat + S_.1 13 0 108) ∨ (S_.2.2.1 211 0 w_.toNat = 0 ∧ S_.2.2.1 210 0 w_.toNat = S_.2.2.1 206 0 w_.toNat)
def wok2 (F_ n_ : Int) (S_ : sm_S) : Prop := wyc F_ n_ S_ (2 * n_) ∧ wyc F_ n_ S_ (2 * n_ + 1) ∧ ned S_ (2 * n_) (2 * n_ + 1) ∧ ned S_ (2 * n_ + 1) (2 * n_)
def wf3 (n_ : Int) (S_ S'_ : sm_S) : Prop := wf2 n_ S_ S'_ ∧ ∀ j_, (j_ < 2 * n_.toNat ∨ 2 * n_.toNat + 2 ≤ j_) → S'_.2.2.1 210 0 j_ = S_.2.2.1 210 0 j_ ∧ S'_.2.2.1 211 0 j_ = S_.2.2.1 211 0 j_
def wal9 (F_ N_ : Int) (S_ : sm_S) : Prop := ∀ n_ : Int, F_ ≤ n_ → n_ < N_ → S_.2.2.1 202 0 n_.toNat = 1 → wok2 F_ n_ S_
theorem wok2_cg {F_ n_ m_ : Int} {S_ S'_ : sm_S} (hI_ : gi S'_) (h_ : wok2 F_ m_ S_) (g_ : wf3 n_ S_ S'_) (hm_ : 0 ≤ m_) (hn_ : m_ < n_) (e5_ : S'_.2.2.1 185 0 = S_.2.2.1 185 0) (e106_ : S'_.1 13 0 106 = S_.1 13 0 106) (e108_ : S'_.1 13 0 108 = S_.1 13 0 108) (e2_ : S'_.2.2.1 202 0 = S_.2.2.1 202 0) (e3_ : S'_.2.2.1 203 0 = S_.2.2.1 203 0) : wok2 F_ m_ S'_ := by
  have ec : ∀ x_ t_ : Int, 1 ≤ x_ → x_ < m_ → 0 ≤ t_ → t_ ≤ 1 → cst F_ S'_ x_ t_ = cst F_ S_ x_ t_ := fun x_ t_ a_ b_ c_ d_ => by
    unfold cst
    rw [e3_, e108_, (g_.2 (2 * x_ + t_).toNat (by omega)).1]
  have q_ : ∀ l_ : Int, l_ = 2 * m_ ∨ l_ = 2 * m_ + 1 → wyc F_ m_ S_ l_ → wyc F_ m_ S'_ l_ := fun l_ hl_ k_ => by
    have w_ := g_.1.1 l_.toNat (by omega)
    exact wyc_cg hI_ k_ (by omega) w_.1 w_.2.1 w_.2.2 (fun k_ k0_ k1_ => g_.1.2 _ (by omega)) e5_ e106_ e2_ ec
  have r_ : ∀ l_ o_ : Int, (l_ = 2 * m_ ∨ l_ = 2 * m_ + 1) → (o_ = 2 * m_ ∨ o_ = 2 * m_ + 1) → ned S_ l_ o_ → ned S'_ l_ o_ := fun l_ o_ hl_ ho_ k_ => by
    unfold ned
    rw [(g_.2 l_.toNat (by omega)).1, (g_.2 l_.toNat (by omega)).2, (g_.1.1 l_.toNat (by omega)).1, (g_.1.1 o_.toNat (by omega)).1, e108_]
    exact k_
  exact ⟨q_ _ (Or.inl rfl) h_.1, q_ _ (Or.inr rfl) h_.2.1, r_ _ _ (Or.inl rfl) (Or.inr rfl) h_.2.2.1, r_ _ _ (Or.inr rfl) (Or.inl rfl) h_.2.2.2⟩
/-! M_.findWays -/
def vw_407 : sx_Wl := ([(13, 114), (13, 123), (13, 127)], [204, 205, 206, 207, 208, 209, 210, 211, 212, 213, 214, 215], [])
end
/-! 99.zs8 -/
section
/-! the reference: gates made; written by wip/p55/gen/vg -/

/-! the_ reference: gates made -/
def isn (f_ : Nat → Int) (k_ : Nat) : Int := if f_ k_ = -1 then 1 else 0
theorem isn_1 {f_ : Nat → Int} {k_ : Nat} : isn f_ k_ = 1 ↔ f_ k_ = -1 := by
  unfold isn
  split
  · rename_i h_
    exact ⟨fun _ => h_, fun _ => rfl⟩
  · rename_i h_
    exact ⟨fun z_ => absurd z_ (by decide), fun z_ => absurd z_ h_⟩
/-- how_ much is_ still to_ be_ made -/
def inc (N_ : Int) (S_ : sm_S) : Nat := cn1 (isn (S_.2.2.1 218 0)) (2 * N_).toNat + cn1 (isn (S_.2.2.1 219 0)) N_.toNat
/-- gates take nets from below -/
def mad (F_ : Int) (S_ : sm_S) : Prop := ∀ g_ : Int, 0 ≤ g_ → g_ < S_.1 13 0 129 → (0 ≤ S_.2.2.1 216 0 g_.toNat ∨ S_.1 13 0 134 = 1) ∧ ∀ k_ : Int, 0 ≤ k_ → k_ < 3 → (-1 ≤ S_.2.2.1 217 0 (3 * g_ + k_).toNat ∧ S_.2.2.1 217 0 (3 * g_ + k_).toNat < F_ - 1 + g_) ∧ ((k_ = 0 ∨ (0 ≤ S_.2.2.1 216 0 g_.toNat ∧ k_ < S_.2.2.1 185 0 (12 * S_.1 13 0 106 + S_.2.2.1 216 0 g_.toNat).toNat)) → 0 ≤ S_.2.2.1 217 0 (3 * g_ + k_).toNat)
def nok (F_ g_ v_ : Int) : Prop := v_ = -1 ∨ (0 ≤ v_ ∧ v_ < F_ - 1 + g_)
def gst (F_ N_ : Int) (S_ : sm_S) : Prop := (0 ≤ S_.1 13 0 129 ∧ S_.1 13 0 129 + (inc N_ S_ : Int) ≤ 3 * N_) ∧ (∀ w_ : Int, 2 * F_ ≤ w_ → w_ < 2 * N_ → nok F_ (S_.1 13 0 129) (S_.2.2.1 218 0 w_.toNat)) ∧ (∀ n_ : Int, 1 ≤ n_ → n_ < N_ → nok F_ (S_.1 13 0 129) (S_.2.2.1 219 0 n_.toNat)) ∧ mad F_ S_
def lnf (F_ : Int) (S_ : sm_S) (x_ : Int) : Int := if x_ < F_ then x_ - 1 else S_.2.2.1 218 0 (2 * x_).toNat
def noi (F_ : Int) (S_ : sm_S) (x_ t_ : Int) : Int := if F_ ≤ x_ ∧ S_.2.2.1 203 0 x_.toNat = 0 then S_.2.2.1 218 0 (2 * x_ + t_).toNat else if t_ = 0 then lnf F_ S_ x_ else S_.2.2.1 219 0 x_.toNat
theorem lnf_b {F_ N_ x_ : Int} {S_ : sm_S} (h_ : gst F_ N_ S_) (hx_ : 1 ≤ x_ ∧ x_ < N_) : nok F_ (S_.1 13 0 129) (lnf F_ S_ x_) := by
  unfold lnf
  have a_ := h_.1.1
  split
  · right
    omega
  · exact h_.2.1 (2 * x_) (by omega) (by omega)
theorem noi_b {F_ N_ x_ t_ : Int} {S_ : sm_S} (h_ : gst F_ N_ S_) (hx_ : 1 ≤ x_ ∧ x_ < N_) (ht_ : 0 ≤ t_ ∧ t_ ≤ 1) : nok F_ (S_.1 13 0 129) (noi F_ S_ x_ t_) := by
  unfold noi
  split
  · exact h_.2.1 (2 * x_ + t_) (by omega) (by omega)
  · split
    · exact lnf_b h_ hx_
    · exact h_.2.2.1 x_ hx_.1 hx_.2
/-- a_ task more -/
def jap (s_ w_ : Int) (S_ S'_ : sm_S) : Prop := S'_.1 13 0 137 = S_.1 13 0 137 + 1 ∧ (∀ j_, S'_.2.2.1 220 0 j_ = if j_ = (S_.1 13 0 137).toNat then w_ else S_.2.2.1 220 0 j_) ∧ ∀ j_, S'_.2.2.1 221 0 j_ = if j_ = (S_.1 13 0 137).toNat then s_ else S_.2.2.1 221 0 j_
def jgd (F_ N_ : Int) (S_ : sm_S) (s_ w_ : Int) : Prop := (s_ = 1 ∧ 1 ≤ w_ ∧ w_ < N_ ∧ S_.2.2.1 202 0 w_.toNat = 1 ∧ (w_ < F_ ∨ (S_.2.2.1 203 0 w_.toNat = 1 ∧ S_.2.2.1 210 0 (2 * w_).toNat < 1000000000))) ∨ (s_ = 0 ∧ 2 * F_ ≤ w_ ∧ w_ < 2 * N_ ∧ S_.2.2.1 202 0 (w_ / 2).toNat = 1 ∧ S_.2.2.1 210 0 w_.toNat < 1000000000)
def jrk (S_ : sm_S) (s_ w_ : Int) : Int := if s_ = 1 then 3 * w_ + 2 else 3 * (w_ / 2) + S_.2.2.1 211 0 w_.toNat
def jdn (S_ : sm_S) (s_ w_ : Int) : Prop := (s_ = 1 ∧ S_.2.2.1 219 0 w_.toNat ≠ -1) ∨ (s_ ≠ 1 ∧ S_.2.2.1 218 0 w_.toNat ≠ -1)
def jsk (F_ N_ : Int) (S_ : sm_S) : Prop := ∀ i_ : Int, 0 ≤ i_ → i_ < S_.1 13 0 137 → jgd F_ N_ S_ (S_.2.2.1 221 0 i_.toNat) (S_.2.2.1 220 0 i_.toNat) ∧ jrk S_ (S_.2.2.1 221 0 i_.toNat) (S_.2.2.1 220 0 i_.toNat) + i_ ≤ 3042
noncomputable def tpv_ (S_ : sm_S) : Int := if S_.1 13 0 137 = 0 then 0 else if (S_.2.2.1 221 0 (S_.1 13 0 137 - 1).toNat = 1 ∧ S_.2.2.1 219 0 (S_.2.2.1 220 0 (S_.1 13 0 137 - 1).toNat).toNat ≠ -1) ∨ (S_.2.2.1 221 0 (S_.1 13 0 137 - 1).toNat ≠ 1 ∧ S_.2.2.1 218 0 (S_.2.2.1 220 0 (S_.1 13 0 137 - 1).toNat).toNat ≠ -1) then 4000 + S_.1 13 0 137 else jrk S_ (S_.2.2.1 221 0 (S_.1 13 0 137 - 1).toNat) (S_.2.2.1 220 0 (S_.1 13 0 137 - 1).toNat)
noncomputable def mea_ (N_ : Int) (S_ : sm_S) : Nat := 20000 * inc N_ S_ + (tpv_ S_).toNat
theorem jrk_b {F_ N_ s_ w_ : Int} {S_ : sm_S} (hI_ : gi S_) (h_ : jgd F_ N_ S_ s_ w_) (hF_ : 1 ≤ F_) : 0 ≤ jrk S_ s_ w_ := by
  unfold jrk
  have c_ : 0 ≤ S_.2.2.1 211 0 w_.toNat := (hI_.2 211 0 _).1
  rcases h_ with h_ | h_
  · rw [if_pos h_.1]; omega
  · rw [if_neg (by omega)]; omega
theorem jsk_c {F_ N_ : Int} {S_ : sm_S} (hI_ : gi S_) (h_ : jsk F_ N_ S_) (hF_ : 1 ≤ F_) : S_.1 13 0 137 ≤ 3043 := by
  by_cases z_ : S_.1 13 0 137 ≤ 3043
  · exact z_
  · have q_ := h_ 3043 (by omega) (by omega)
    have r_ := jrk_b hI_ q_.1 hF_
    omega
theorem tpv_b {F_ N_ : Int} {S_ : sm_S} (hI_ : gi S_) (h_ : jsk F_ N_ S_) (hF_ : 1 ≤ F_) (hc_ : 0 ≤ S_.1 13 0 137) : 0 ≤ tpv_ S_ ∧ tpv_ S_ ≤ 7043 := by
  have c_ := jsk_c hI_ h_ hF_
  unfold tpv_
  split
  · omega
  · split
    · omega
    · have q_ := h_ (S_.1 13 0 137 - 1) (by omega) (by omega)
      have r_ := jrk_b hI_ q_.1 hF_
      omega
/-- the_ same rows for_ tasks: only the_ rows of_ gates change -/
theorem jgd_cg {F_ N_ s_ w_ : Int} {S_ S'_ : sm_S} (h_ : jgd F_ N_ S_ s_ w_) (e2_ : S'_.2.2.1 202 0 = S_.2.2.1 202 0) (e3_ : S'_.2.2.1 203 0 = S_.2.2.1 203 0) (e10 : S'_.2.2.1 210 0 = S_.2.2.1 210 0) : jgd F_ N_ S'_ s_ w_ := by
  unfold jgd
  rw [e2_, e3_, e10]
  exact h_
theorem jrk_cg {s_ w_ : Int} {S_ S'_ : sm_S} (e11 : S'_.2.2.1 211 0 = S_.2.2.1 211 0) : jrk S'_ s_ w_ = jrk S_ s_ w_ := by
  unfold jrk
  rw [e11]
theorem jsk_cg {F_ N_ : Int} {S_ S'_ : sm_S} (h_ : jsk F_ N_ S_) (ej_ : S'_.1 13 0 137 = S_.1 13 0 137) (e20_ : S'_.2.2.1 220 0 = S_.2.2.1 220 0) (e21_ : S'_.2.2.1 221 0 = S_.2.2.1 221 0) (e2_ : S'_.2.2.1 202 0 = S_.2.2.1 202 0) (e3_ : S'_.2.2.1 203 0 = S_.2.2.1 203 0) (e10 : S'_.2.2.1 210 0 = S_.2.2.1 210 0) (e11 : S'_.2.2.1 211 0 = S_.2.2.1 211 0) : jsk F_ N_ S'_ := fun i_ a_ b_ => by
  rw [ej_] at b_
  rw [e20_, e21_, jrk_cg e11]
  exact ⟨jgd_cg (h_ i_ a_ b_).1 e2_ e3_ e10, (h_ i_ a_ b_).2⟩
theorem jsk_ap {F_ N_ s_ w_ : Int} {S_ S'_ : sm_S} (h_ : jsk F_ N_ S_) (a_ : jap s_ w_ S_ S'_) (hc_ : 0 ≤ S_.1 13 0 137) (g_ : jgd F_ N_ S_ s_ w_) (r_ : jrk S_ s_ w_ + S_.1 13 0 137 ≤ 3042) (e2_ : S'_.2.2.1 202 0 = S_.2.2.1 202 0) (e3_ : S'_.2.2.1 203 0 = S_.2.2.1 203 0) (e10 : S'_.2.2.1 210 0 = S_.2.2.1 210 0) (e11 : S'_.2.2.1 211 0 = S_.2.2.1 211 0) : jsk F_ N_ S'_ := fun i_ i0_ i1_ => by
  rw [a_.1] at i1_
  rw [a_.2.1, a_.2.2, jrk_cg e11]
  by_cases z_ : i_.toNat = (S_.1 13 0 137).toNat
  · rw [if_pos z_, if_pos z_]
    exact ⟨jgd_cg g_ e2_ e3_ e10, by omega⟩
  · rw [if_neg z_, if_neg z_]
    exact ⟨jgd_cg (h_ i_ i0_ (by omega)).1 e2_ e3_ e10, (h_ i_ i0_ (by omega)).2⟩
theorem inc_cg {N_ : Int} {S_ S'_ : sm_S} (e1_ : S'_.2.2.1 218 0 = S_.2.2.1 218 0) (e2_ : S'_.2.2.1 219 0 = S_.2.2.1 219 0) : inc N_ S'_ = inc N_ S_ := by
  unfold inc
  rw [e1_, e2_]
theorem inc_g {N_ w_ v_ : Int} {S_ S'_ : sm_S} (hw_ : 0 ≤ w_ ∧ w_ < 2 * N_) (h0_ : S_.2.2.1 218 0 w_.toNat = -1) (hv_ : v_ ≠ -1) (e1_ : ∀ j_, S'_.2.2.1 218 0 j_ = if j_ = w_.toNat then v_ else S_.2.2.1 218 0 j_) (e2_ : S'_.2.2.1 219 0 = S_.2.2.1 219 0) : inc N_ S'_ + 1 = inc N_ S_ := by
  have u_ := cn1_up (f := isn (S'_.2.2.1 218 0)) (g := isn (S_.2.2.1 218 0)) (j := w_.toNat) (fun z_ => by have := isn_1.mp z_; rw [e1_, if_pos rfl] at this; exact hv_ this) (isn_1.mpr h0_) (fun k_ hk_ => by unfold isn; rw [e1_, if_neg hk_]) (n := (2 * N_).toNat) (by omega)
  unfold inc
  rw [e2_]
  omega
theorem inc_t {N_ w_ v_ : Int} {S_ S'_ : sm_S} (hw_ : 0 ≤ w_ ∧ w_ < N_) (h0_ : S_.2.2.1 219 0 w_.toNat = -1) (hv_ : v_ ≠ -1) (e1_ : ∀ j_, S'_.2.2.1 219 0 j_ = if j_ = w_.toNat then v_ else S_.2.2.1 219 0 j_) (e2_ : S'_.2.2.1 218 0 = S_.2.2.1 218 0) : inc N_ S'_ + 1 = inc N_ S_ := by
  have u_ := cn1_up (f := isn (S'_.2.2.1 219 0)) (g := isn (S_.2.2.1 219 0)) (j := w_.toNat) (fun z_ => by have := isn_1.mp z_; rw [e1_, if_pos rfl] at this; exact hv_ this) (isn_1.mpr h0_) (fun k_ hk_ => by unfold isn; rw [e1_, if_neg hk_]) (n := N_.toNat) (by omega)
  unfold inc
  rw [e2_]
  omega
theorem nok_up {F_ g_ g'_ v_ : Int} (h_ : nok F_ g_ v_) (hg_ : g_ ≤ g'_) : nok F_ g'_ v_ := by
  rcases h_ with h_ | h_
  · exact Or.inl h_
  · exact Or.inr ⟨h_.1, by omega⟩
/-- a_ gate is_ made: fewer things are_ left -/
theorem gst_g {F_ N_ w_ v_ : Int} {S_ S1_ S'_ : sm_S} (h_ : gst F_ N_ S_) (hw_ : 2 * F_ ≤ w_ ∧ w_ < 2 * N_) (hF_ : 0 ≤ F_) (h0_ : S_.2.2.1 218 0 w_.toNat = -1) (hv_ : v_ = F_ - 1 + S_.1 13 0 129 ∧ 0 ≤ v_) (eg_ : S'_.1 13 0 129 = S_.1 13 0 129 + 1) (e1_ : ∀ j_, S'_.2.2.1 218 0 j_ = if j_ = w_.toNat then v_ else S_.2.2.1 218 0 j_) (e2_ : S'_.2.2.1 219 0 = S_.2.2.1 219 0) (m_ : mad F_ S'_) : gst F_ N_ S'_ ∧ inc N_ S'_ + 1 = inc N_ S_ := by
  have u_ := inc_g (N_ := N_) ⟨by omega, hw_.2⟩ h0_ (by omega) e1_ e2_
  refine ⟨⟨by have := h_.1; omega, fun x_ x0_ x1_ => ?_, fun x_ x0_ x1_ => ?_, m_⟩, u_⟩
  · rw [e1_, eg_]
    split
    · right
      omega
    · exact nok_up (h_.2.1 x_ x0_ x1_) (by omega)
  · rw [e2_, eg_]
    exact nok_up (h_.2.2.1 x_ x0_ x1_) (by omega)
theorem gst_t {F_ N_ w_ v_ : Int} {S_ S1_ S'_ : sm_S} (h_ : gst F_ N_ S_) (hw_ : 1 ≤ w_ ∧ w_ < N_) (h0_ : S_.2.2.1 219 0 w_.toNat = -1) (hv_ : v_ = F_ - 1 + S_.1 13 0 129 ∧ 0 ≤ v_) (eg_ : S'_.1 13 0 129 = S_.1 13 0 129 + 1) (e1_ : ∀ j_, S'_.2.2.1 219 0 j_ = if j_ = w_.toNat then v_ else S_.2.2.1 219 0 j_) (e2_ : S'_.2.2.1 218 0 = S_.2.2.1 218 0) (m_ : mad F_ S'_) : gst F_ N_ S'_ ∧ inc N_ S'_ + 1 = inc N_ S_ := by
  have u_ := inc_t (N_ := N_) ⟨by omega, hw_.2⟩ h0_ (by omega) e1_ e2_
  refine ⟨⟨by have := h_.1; omega, fun x_ x0_ x1_ => ?_, fun x_ x0_ x1_ => ?_, m_⟩, u_⟩
  · rw [e2_, eg_]
    exact nok_up (h_.2.1 x_ x0_ x1_) (by omega)
  · rw [e1_, eg_]
    split
    · right
      omega
    · exact nok_up (h_.2.2.1 x_ x0_ x1_) (by omega)
theorem gst_cg {F_ N_ : Int} {S_ S'_ : sm_S} (h_ : gst F_ N_ S_) (e_ : S'_.1 13 0 129 = S_.1 13 0 129) (e1_ : S'_.2.2.1 218 0 = S_.2.2.1 218 0) (e2_ : S'_.2.2.1 219 0 = S_.2.2.1 219 0) (e6_ : S'_.2.2.1 216 0 = S_.2.2.1 216 0) (e7_ : S'_.2.2.1 217 0 = S_.2.2.1 217 0) (e5_ : S'_.2.2.1 185 0 = S_.2.2.1 185 0) (e106_ : S'_.1 13 0 106 = S_.1 13 0 106) (e134_ : S'_.1 13 0 134 = S_.1 13 0 134) : gst F_ N_ S'_ := by
  unfold gst mad
  rw [inc_cg e1_ e2_, e_, e1_, e2_, e6_, e7_, e5_, e106_, e134_]
  exact h_
theorem mea_c {F_ N_ : Int} {S_ S'_ : sm_S} (hI_ : gi S'_) (h_ : jsk F_ N_ S'_) (hF_ : 1 ≤ F_) (hc_ : 0 ≤ S'_.1 13 0 137) (u_ : inc N_ S'_ + 1 = inc N_ S_) : mea_ N_ S'_ < mea_ N_ S_ := by
  have q_ := tpv_b hI_ h_ hF_ hc_
  unfold mea_
  omega
/-! M_.sources -/
def vw_409 : sx_Wl := ([], [], [])
def vq_409 (F_ : Int) (N_ : Int) (d_ : Int) (S0_ : sm_S) (u_ : Option sm_V) (S1_ : sm_S) : Prop := S0_ = S1_ ∧ ∃ v_ : Int, u_ = some (.inl v_) ∧ (v_ = F_ - 1)
set_option maxHeartbeats 400000 in
set_option maxRecDepth 20000 in
theorem vc_409 {sc_ : Nat × (Nat → Int)} (F_ : Int) (N_ : Int) (d_ : Int) (S0_ : sm_S) (hI_ : gi S0_) (hd_ : dmp F_ N_ d_ S0_) : sm_T (mt_P sc_) 0 409 (0, [some (.inr (.inr (some (13, 0))))], [], S0_) (fun ro9_ => ∃ u_ S1_, ro9_ = (.inl u_, S1_, 0) ∧ vq_409 F_ N_ d_ S0_ u_ S1_) := by
  have hF_ : ai_fr (sx_W vw_409) S0_ S0_ := ai_fr_rf
  have d1_ := hd_.1
  have q9_ : S0_.2.2.1 154 0 d_.toNat + S0_.2.2.1 155 0 d_.toNat = F_ - 1 := by (obtain ⟨F1_, I9_, R9_, N1_, k1_, -⟩ := hd_.2; omega)
  have e1_ : S0_.2.2.1 154 0 (S0_.1 13 0 105).toNat = S0_.2.2.1 154 0 d_.toNat := by rw [d1_.2.2.1]
  have e2_ : S0_.2.2.1 155 0 (S0_.1 13 0 105).toNat = S0_.2.2.1 155 0 d_.toNat := by rw [d1_.2.2.1]
  have bx1_ : 0 ≤ S0_.1 13 0 105 ∧ S0_.1 13 0 105 ≤ 5 := hI_.1 13 0 105 rfl
  refine sm_T_go 4 (c1 := (8, [some (.inr (.inr (some (13, 0))))], [.inl (S0_.1 13 0 105), .inr (.inr (some (154, 0)))], S0_)) rfl ?_
  refine sm_T_iald (n := 6) rfl rfl (by omega) (by omega) ?_
  have bx2_ : 0 ≤ S0_.2.2.1 154 0 (S0_.1 13 0 105).toNat ∧ S0_.2.2.1 154 0 (S0_.1 13 0 105).toNat ≤ 12 := hI_.2 154 0 _
  refine sm_T_go 4 (c1 := (17, [some (.inr (.inr (some (13, 0))))], [.inl (S0_.1 13 0 105), .inr (.inr (some (155, 0))), .inl (S0_.2.2.1 154 0 (S0_.1 13 0 105).toNat)], S0_)) rfl ?_
  refine sm_T_iald (n := 6) rfl rfl (by omega) (by omega) ?_
  have bx3_ : 0 ≤ S0_.2.2.1 155 0 (S0_.1 13 0 105).toNat ∧ S0_.2.2.1 155 0 (S0_.1 13 0 105).toNat ≤ 6 := hI_.2 155 0 _
  refine sm_T_bin (w := (S0_.2.2.1 154 0 (S0_.1 13 0 105).toNat) + (S0_.2.2.1 155 0 (S0_.1 13 0 105).toNat)) rfl (bi_add (by omega) (by omega) (by omega)) ?_ -- pc_ 18
  refine sm_T_ri rfl ⟨_, _, rfl, rfl, _, rfl, ?_⟩
  omega
/-! M_.make -/
/-! M_.turned -/
/-! M_.job -/
def vw_412 : sx_Wl := ([(13, 137)], [220, 221], [])
def vq_412 (s_ : Int) (w_ : Int) (S0_ : sm_S) (u_ : Option sm_V) (S1_ : sm_S) : Prop := u_ = none ∧ gi S1_ ∧ ai_fr (sx_W vw_412) S0_ S1_ ∧ (jap s_ w_ S0_ S1_)
set_option maxHeartbeats 400000 in
set_option maxRecDepth 20000 in
theorem vc_412 {sc_ : Nat × (Nat → Int)} (s_ : Int) (w_ : Int) (S0_ : sm_S) (hI_ : gi S0_) (hj_ : (S0_.1 13 0 137) ≤ 8190) (hs_ : 0 ≤ s_ ∧ s_ ≤ 1 ∧ 0 ≤ w_ ∧ w_ ≤ 4095) : sm_T (mt_P sc_) 0 412 (0, [some (.inr (.inr (some (13, 0)))), some (.inl s_), some (.inl w_)], [], S0_) (fun ro9_ => ∃ u_ S1_, ro9_ = (.inl u_, S1_, 0) ∧ vq_412 s_ w_ S0_ u_ S1_) := by
  have hF_ : ai_fr (sx_W vw_412) S0_ S0_ := ai_fr_rf
  have bx1_ : 0 ≤ S0_.1 13 0 137 ∧ S0_.1 13 0 137 ≤ 8191 := hI_.1 13 0 137 rfl
  refine sm_T_go 5 (c1 := (9, [some (.inr (.inr (some (13, 0)))), some (.inl s_), some (.inl w_)], [.inl w_, .inl (S0_.1 13 0 137), .inr (.inr (some (220, 0)))], S0_)) rfl ?_
  refine sm_T_iast (n := 8192) rfl rfl (by omega) (by omega) ?_
  have hIx2_ : gi (sm_aI S0_ 220 0 (S0_.1 13 0 137).toNat w_) := gi_aI hI_ (show 0 ≤ w_ ∧ w_ ≤ 4095 from ⟨by omega, by omega⟩)
  have hFx3_ : ai_fr (sx_W vw_412) S0_ (sm_aI S0_ 220 0 (S0_.1 13 0 137).toNat w_) := ai_fr_tr hF_ (ai_fr_aI rfl)
  refine sm_T_go 5 (c1 := (19, [some (.inr (.inr (some (13, 0)))), some (.inl s_), some (.inl w_)], [.inl s_, .inl (S0_.1 13 0 137), .inr (.inr (some (221, 0)))], sm_aI S0_ 220 0 (S0_.1 13 0 137).toNat w_)) rfl ?_
  refine sm_T_iast (n := 8192) rfl rfl (by omega) (by omega) ?_
  have hIx4_ : gi (sm_aI (sm_aI S0_ 220 0 (S0_.1 13 0 137).toNat w_) 221 0 (S0_.1 13 0 137).toNat s_) := gi_aI hIx2_ (show 0 ≤ s_ ∧ s_ ≤ 1 from ⟨by omega, by omega⟩)
  have hFx5_ : ai_fr (sx_W vw_412) S0_ (sm_aI (sm_aI S0_ 220 0 (S0_.1 13 0 137).toNat w_) 221 0 (S0_.1 13 0 137).toNat s_) := ai_fr_tr hFx3_ (ai_fr_aI rfl)
  refine sm_T_go 4 (c1 := (26, [some (.inr (.inr (some (13, 0)))), some (.inl s_), some (.inl w_)], [.inl 1, .inl (S0_.1 13 0 137), .inr (.inr (some (13, 0)))], sm_aI (sm_aI S0_ 220 0 (S0_.1 13 0 137).toNat w_) 221 0 (S0_.1 13 0 137).toNat s_)) rfl ?_
  refine sm_T_bin (w := (S0_.1 13 0 137) + 1) rfl (bi_add (by omega) (by omega) (by omega)) ?_ -- pc_ 26
  have hIx6_ : gi (sm_pI (sm_aI (sm_aI S0_ 220 0 (S0_.1 13 0 137).toNat w_) 221 0 (S0_.1 13 0 137).toNat s_) 13 0 137 ((S0_.1 13 0 137) + 1)) := gi_pI hIx4_ (show 0 ≤ (S0_.1 13 0 137) + 1 ∧ (S0_.1 13 0 137) + 1 ≤ 8191 from ⟨by omega, by omega⟩)
  have hFx7_ : ai_fr (sx_W vw_412) S0_ (sm_pI (sm_aI (sm_aI S0_ 220 0 (S0_.1 13 0 137).toNat w_) 221 0 (S0_.1 13 0 137).toNat s_) 13 0 137 ((S0_.1 13 0 137) + 1)) := ai_fr_tr hFx5_ (ai_fr_pI rfl)
  refine sm_T_go 1 (c1 := (30, [some (.inr (.inr (some (13, 0)))), some (.inl s_), some (.inl w_)], [], sm_pI (sm_aI (sm_aI S0_ 220 0 (S0_.1 13 0 137).toNat w_) 221 0 (S0_.1 13 0 137).toNat s_) 13 0 137 ((S0_.1 13 0 137) + 1))) rfl ?_
  refine sm_T_rv rfl ⟨_, _, rfl, rfl, hIx6_, hFx7_, ?_⟩
  refine ⟨?_, fun j9_ => ?_, fun j9_ => ?_⟩ <;> (try simp only [rd_eq, rd_ne, rf_eq, rf_nk, rf_nt, rd_fa, rd_af, rd_fl, rd_al, rd_lf, rd_la, rd_leq, rd_lne, rd_fr, rd_ar, ne_eq, Nat.reduceEqDiff, not_false_eq_true])
/-! M_.isLeaf -/
def vw_413 : sx_Wl := ([], [], [])
def vq_413 (n_ : Int) (F_ : Int) (S0_ : sm_S) (u_ : Option sm_V) (S1_ : sm_S) : Prop := S0_ = S1_ ∧ ∃ v_ : Int, u_ = some (.inl v_) ∧ ((v_ = 0 ∧ F_ ≤ n_ ∧ S0_.2.2.1 203 0 n_.toNat = 0) ∨ (v_ = 1 ∧ (n_ < F_ ∨ S0_.2.2.1 203 0 n_.toNat = 1)))
set_option maxHeartbeats 400000 in
set_option maxRecDepth 20000 in
theorem vc_413 {sc_ : Nat × (Nat → Int)} (n_ : Int) (F_ : Int) (S0_ : sm_S) (hI_ : gi S0_) (hf_ : S0_.2.2.1 160 0 (S0_.1 13 0 105).toNat = F_) (hn_ : 0 ≤ n_ ∧ n_ ≤ 2047) : sm_T (mt_P sc_) 1 413 (0, [some (.inr (.inr (some (13, 0)))), some (.inl n_)], [], S0_) (fun ro9_ => ∃ u_ S1_, ro9_ = (.inl u_, S1_, 0) ∧ vq_413 n_ F_ S0_ u_ S1_) := by
  have hF_ : ai_fr (sx_W vw_413) S0_ S0_ := ai_fr_rf
  refine sm_T_go 2 (c1 := (2, [some (.inr (.inr (some (13, 0)))), some (.inl n_)], [.inl n_, .inr (.inr (some (13, 0)))], S0_)) rfl ?_
  refine sm_T_cal (d1 := 0) (Q1 := vq_395 n_ F_ S0_) rfl rfl (by decide) (vc_395 n_ F_ S0_ hI_ (by exact hf_) (by exact hn_)) (fun u_ Sx1_ px4_ => ?_)
  obtain ⟨rfl, vx6_, rfl, px4_⟩ := px4_
  have e2_ := px4_
  refine sm_T_b0 (a := 1) (z := 7) rfl (fun cx7_ => ?_) (fun cx7_ => ?_)
  · have cx7_ : vx6_ ≠ 0 := of_decide_eq_true cx7_
    refine sm_T_go 1 (c1 := (13, [some (.inr (.inr (some (13, 0)))), some (.inl n_)], [.inl 0], S0_)) rfl ?_
    refine sm_T_rz rfl (by omega) ⟨_, _, rfl, rfl, _, rfl, ?_⟩
    omega
  · have cx7_ : ¬ (vx6_ ≠ 0) := of_decide_eq_false cx7_
    refine sm_T_go 2 (c1 := (13, [some (.inr (.inr (some (13, 0)))), some (.inl n_)], [.inl 1], S0_)) rfl ?_
    refine sm_T_rz rfl (by omega) ⟨_, _, rfl, rfl, _, rfl, ?_⟩
    omega
/-! M_.leafNet -/
def vw_414 : sx_Wl := ([], [], [])
def vq_414 (n_ : Int) (F_ : Int) (S0_ : sm_S) (u_ : Option sm_V) (S1_ : sm_S) : Prop := S0_ = S1_ ∧ ∃ v_ : Int, u_ = some (.inl v_) ∧ (v_ = lnf F_ S0_ n_ ∧ -2 ≤ v_ ∧ v_ ≤ 9000)
set_option maxHeartbeats 400000 in
set_option maxRecDepth 20000 in
theorem vc_414 {sc_ : Nat × (Nat → Int)} (n_ : Int) (F_ : Int) (S0_ : sm_S) (hI_ : gi S0_) (hf_ : S0_.2.2.1 160 0 (S0_.1 13 0 105).toNat = F_) (hn_ : 0 ≤ n_ ∧ n_ ≤ 2047) : sm_T (mt_P sc_) 0 414 (0, [some (.inr (.inr (some (13, 0)))), some (.inl n_)], [], S0_) (fun ro9_ => ∃ u_ S1_, ro9_ = (.inl u_, S1_, 0) ∧ vq_414 n_ F_ S0_ u_ S1_) := by
  have hF_ : ai_fr (sx_W vw_414) S0_ S0_ := ai_fr_rf
  have bx1_ : 0 ≤ S0_.1 13 0 105 ∧ S0_.1 13 0 105 ≤ 5 := hI_.1 13 0 105 rfl
  refine sm_T_go 5 (c1 := (9, [some (.inr (.inr (some (13, 0)))), some (.inl n_)], [.inl (S0_.1 13 0 105), .inr (.inr (some (160, 0))), .inl n_], S0_)) rfl ?_
  refine sm_T_iald (n := 6) rfl rfl (by omega) (by omega) ?_
  have bx2_ : 0 ≤ S0_.2.2.1 160 0 (S0_.1 13 0 105).toNat ∧ S0_.2.2.1 160 0 (S0_.1 13 0 105).toNat ≤ 19 := hI_.2 160 0 _
  refine sm_T_br (a := 3) (z := 9) rfl (fun cx3_ => ?_) (fun cx3_ => ?_)
  · have cx3_ : (S0_.2.2.1 160 0 (S0_.1 13 0 105).toNat) ≤ n_ := of_decide_eq_true cx3_
    refine sm_T_go 4 (c1 := (25, [some (.inr (.inr (some (13, 0)))), some (.inl n_)], [.inl n_, .inl 2, .inr (.inr (some (218, 0)))], S0_)) rfl ?_
    refine sm_T_bin (w := 2 * n_) rfl (bi_mul (by omega) (by omega) (by omega)) ?_ -- pc_ 25
    refine sm_T_iald (n := 4096) rfl rfl (by omega) (by omega) ?_
    have bx4_ : (-2) ≤ S0_.2.2.1 218 0 (2 * n_).toNat ∧ S0_.2.2.1 218 0 (2 * n_).toNat ≤ 9000 := hI_.2 218 0 _
    refine sm_T_ri rfl ⟨_, _, rfl, rfl, _, rfl, ?_⟩
    refine ⟨?_, by omega, by omega⟩
    unfold lnf
    first | rw [if_pos (by omega)] | rw [if_neg (by omega)]
  · have cx3_ : ¬ ((S0_.2.2.1 160 0 (S0_.1 13 0 105).toNat) ≤ n_) := of_decide_eq_false cx3_
    refine sm_T_go 2 (c1 := (15, [some (.inr (.inr (some (13, 0)))), some (.inl n_)], [.inl 1, .inl n_], S0_)) rfl ?_
    refine sm_T_bin (w := n_ - 1) rfl (bi_sub (by omega) (by omega) (by omega)) ?_ -- pc_ 15
    refine sm_T_go 1 (c1 := (27, [some (.inr (.inr (some (13, 0)))), some (.inl n_)], [.inl (n_ - 1)], S0_)) rfl ?_
    refine sm_T_ri rfl ⟨_, _, rfl, rfl, _, rfl, ?_⟩
    refine ⟨?_, by omega, by omega⟩
    unfold lnf
    first | rw [if_pos (by omega)] | rw [if_neg (by omega)]
/-! M_.netOfInput -/
def vw_415 : sx_Wl := ([], [], [])
def vq_415 (x_ : Int) (t_ : Int) (F_ : Int) (S0_ : sm_S) (u_ : Option sm_V) (S1_ : sm_S) : Prop := S0_ = S1_ ∧ ∃ v_ : Int, u_ = some (.inl v_) ∧ (v_ = noi F_ S0_ x_ t_ ∧ -2 ≤ v_ ∧ v_ ≤ 9000)
set_option maxHeartbeats 400000 in
set_option maxRecDepth 20000 in
theorem vc_415 {sc_ : Nat × (Nat → Int)} (x_ : Int) (t_ : Int) (F_ : Int) (S0_ : sm_S) (hI_ : gi S0_) (hf_ : S0_.2.2.1 160 0 (S0_.1 13 0 105).toNat = F_) (hn_ : 0 ≤ x_ ∧ x_ ≤ 2046 ∧ 0 ≤ t_ ∧ t_ ≤ 1) : sm_T (mt_P sc_) 2 415 (0, [some (.inr (.inr (some (13, 0)))), some (.inl x_), some (.inl t_)], [], S0_) (fun ro9_ => ∃ u_ S1_, ro9_ = (.inl u_, S1_, 0) ∧ vq_415 x_ t_ F_ S0_ u_ S1_) := by
  have hF_ : ai_fr (sx_W vw_415) S0_ S0_ := ai_fr_rf
  refine sm_T_go 2 (c1 := (2, [some (.inr (.inr (some (13, 0)))), some (.inl x_), some (.inl t_)], [.inl x_, .inr (.inr (some (13, 0)))], S0_)) rfl ?_
  refine sm_T_cal (d1 := 1) (Q1 := vq_413 x_ F_ S0_) rfl rfl (by decide) (vc_413 x_ F_ S0_ hI_ (by exact hf_) (by omega)) (fun u_ Sx1_ px4_ => ?_)
  obtain ⟨rfl, vx6_, rfl, px4_⟩ := px4_
  have e2_ := px4_
  refine sm_T_b0 (a := 1) (z := 16) rfl (fun cx7_ => ?_) (fun cx7_ => ?_)
  · have cx7_ : vx6_ ≠ 0 := of_decide_eq_true cx7_
    refine sm_T_go 1 (c1 := (22, [some (.inr (.inr (some (13, 0)))), some (.inl x_), some (.inl t_)], [.inl t_], S0_)) rfl ?_
    refine sm_T_b0 (a := 1) (z := 11) rfl (fun cx8_ => ?_) (fun cx8_ => ?_)
    · have cx8_ : t_ ≠ 0 := of_decide_eq_true cx8_
      refine sm_T_go 3 (c1 := (38, [some (.inr (.inr (some (13, 0)))), some (.inl x_), some (.inl t_)], [.inl x_, .inr (.inr (some (219, 0)))], S0_)) rfl ?_
      refine sm_T_iald (n := 2048) rfl rfl (by omega) (by omega) ?_
      have bx9_ : (-2) ≤ S0_.2.2.1 219 0 x_.toNat ∧ S0_.2.2.1 219 0 x_.toNat ≤ 9000 := hI_.2 219 0 _
      refine sm_T_ri rfl ⟨_, _, rfl, rfl, _, rfl, ?_⟩
      refine ⟨?_, by omega, by omega⟩
      unfold noi
      first | rw [if_pos ⟨by omega, by omega⟩] | (rw [if_neg (by omega)]; first | (rw [if_pos (by omega)]; exact e27_.1) | rw [if_neg (by omega)])
    · have cx8_ : ¬ (t_ ≠ 0) := of_decide_eq_false cx8_
      refine sm_T_go 2 (c1 := (27, [some (.inr (.inr (some (13, 0)))), some (.inl x_), some (.inl t_)], [.inl x_, .inr (.inr (some (13, 0)))], S0_)) rfl ?_
      refine sm_T_cal (d1 := 0) (Q1 := vq_414 x_ F_ S0_) rfl rfl (by decide) (vc_414 x_ F_ S0_ hI_ (by exact hf_) (by omega)) (fun u_ Sx10_ px13_ => ?_)
      obtain ⟨rfl, vx15_, rfl, px13_⟩ := px13_
      have e27_ := px13_
      refine sm_T_go 1 (c1 := (39, [some (.inr (.inr (some (13, 0)))), some (.inl x_), some (.inl t_)], [.inl vx15_], S0_)) rfl ?_
      refine sm_T_ri rfl ⟨_, _, rfl, rfl, _, rfl, ?_⟩
      refine ⟨?_, by omega, by omega⟩
      unfold noi
      first | rw [if_pos ⟨by omega, by omega⟩] | (rw [if_neg (by omega)]; first | (rw [if_pos (by omega)]; exact e27_.1) | rw [if_neg (by omega)])
  · have cx7_ : ¬ (vx6_ ≠ 0) := of_decide_eq_false cx7_
    refine sm_T_go 4 (c1 := (14, [some (.inr (.inr (some (13, 0)))), some (.inl x_), some (.inl t_)], [.inl x_, .inl 2, .inr (.inr (some (218, 0)))], S0_)) rfl ?_
    refine sm_T_bin (w := 2 * x_) rfl (bi_mul (by omega) (by omega) (by omega)) ?_ -- pc_ 14
    refine sm_T_go 1 (c1 := (16, [some (.inr (.inr (some (13, 0)))), some (.inl x_), some (.inl t_)], [.inl t_, .inl (2 * x_), .inr (.inr (some (218, 0)))], S0_)) rfl ?_
    refine sm_T_bin (w := 2 * x_ + t_) rfl (bi_add (by omega) (by omega) (by omega)) ?_ -- pc_ 16
    refine sm_T_iald (n := 4096) rfl rfl (by omega) (by omega) ?_
    have bx16_ : (-2) ≤ S0_.2.2.1 218 0 (2 * x_ + t_).toNat ∧ S0_.2.2.1 218 0 (2 * x_ + t_).toNat ≤ 9000 := hI_.2 218 0 _
    refine sm_T_go 1 (c1 := (39, [some (.inr (.inr (some (13, 0)))), some (.inl x_), some (.inl t_)], [.inl (S0_.2.2.1 218 0 (2 * x_ + t_).toNat)], S0_)) rfl ?_
    refine sm_T_ri rfl ⟨_, _, rfl, rfl, _, rfl, ?_⟩
    refine ⟨?_, by omega, by omega⟩
    unfold noi
    first | rw [if_pos ⟨by omega, by omega⟩] | (rw [if_neg (by omega)]; first | (rw [if_pos (by omega)]; exact e27_.1) | rw [if_neg (by omega)])
/-! M_.askFor -/
def vw_416 : sx_Wl := ([(13, 137)], [220, 221], [])
def vq_416 (x_ : Int) (t_ : Int) (F_ : Int) (S0_ : sm_S) (u_ : Option sm_V) (S1_ : sm_S) : Prop := u_ = none ∧ gi S1_ ∧ ai_fr (sx_W vw_416) S0_ S1_ ∧ (((x_ < F_ ∨ S0_.2.2.1 203 0 x_.toNat = 1) ∧ t_ = 1 ∧ jap 1 x_ S0_ S1_) ∨ (((F_ ≤ x_ ∧ S0_.2.2.1 203 0 x_.toNat = 0) ∨ t_ = 0) ∧ jap 0 (2 * x_ + t_) S0_ S1_))
set_option maxHeartbeats 400000 in
set_option maxRecDepth 20000 in
theorem vc_416 {sc_ : Nat × (Nat → Int)} (x_ : Int) (t_ : Int) (F_ : Int) (S0_ : sm_S) (hI_ : gi S0_) (hf_ : S0_.2.2.1 160 0 (S0_.1 13 0 105).toNat = F_) (hn_ : 0 ≤ x_ ∧ x_ ≤ 2046 ∧ 0 ≤ t_ ∧ t_ ≤ 1) (hj_ : (S0_.1 13 0 137) ≤ 8190) : sm_T (mt_P sc_) 2 416 (0, [some (.inr (.inr (some (13, 0)))), some (.inl x_), some (.inl t_)], [], S0_) (fun ro9_ => ∃ u_ S1_, ro9_ = (.inl u_, S1_, 0) ∧ vq_416 x_ t_ F_ S0_ u_ S1_) := by
  have hF_ : ai_fr (sx_W vw_416) S0_ S0_ := ai_fr_rf
  refine sm_T_go 2 (c1 := (2, [some (.inr (.inr (some (13, 0)))), some (.inl x_), some (.inl t_)], [.inl x_, .inr (.inr (some (13, 0)))], S0_)) rfl ?_
  refine sm_T_cal (d1 := 1) (Q1 := vq_413 x_ F_ S0_) rfl rfl (by decide) (vc_413 x_ F_ S0_ hI_ (by exact hf_) (by omega)) (fun u_ Sx1_ px4_ => ?_)
  obtain ⟨rfl, vx6_, rfl, px4_⟩ := px4_
  have e2_ := px4_
  refine sm_T_b0 (a := 0) (z := 17) rfl (fun cx7_ => ?_) (fun cx7_ => ?_)
  · have cx7_ : vx6_ = 0 := of_decide_eq_true cx7_
    refine sm_T_go 4 (c1 := (26, [some (.inr (.inr (some (13, 0)))), some (.inl x_), some (.inl t_)], [.inl x_, .inl 2, .inl 0, .inr (.inr (some (13, 0)))], S0_)) rfl ?_
    refine sm_T_bin (w := 2 * x_) rfl (bi_mul (by omega) (by omega) (by omega)) ?_ -- pc_ 26
    refine sm_T_go 1 (c1 := (28, [some (.inr (.inr (some (13, 0)))), some (.inl x_), some (.inl t_)], [.inl t_, .inl (2 * x_), .inl 0, .inr (.inr (some (13, 0)))], S0_)) rfl ?_
    refine sm_T_bin (w := 2 * x_ + t_) rfl (bi_add (by omega) (by omega) (by omega)) ?_ -- pc_ 28
    refine sm_T_cal (d1 := 0) (Q1 := vq_412 0 (2 * x_ + t_) S0_) rfl rfl (by decide) (vc_412 0 (2 * x_ + t_) S0_ hI_ (by omega) (by omega)) (fun u_ Sx8_ px11_ => ?_)
    obtain ⟨rfl, hIx9_, hFx10_, px11_⟩ := px11_
    have hFx12_ : ai_fr (sx_W vw_416) S0_ Sx8_ := ai_fr_tr hF_ (fr_le hFx10_ rfl)
    have e29_ := px11_
    refine sm_T_rv rfl ⟨_, _, rfl, rfl, hIx9_, hFx12_, ?_⟩
    first | exact Or.inl ⟨by omega, by omega, e16_⟩ | exact Or.inr ⟨by omega, e29_⟩
  · have cx7_ : ¬ (vx6_ = 0) := of_decide_eq_false cx7_
    refine sm_T_go 2 (c1 := (10, [some (.inr (.inr (some (13, 0)))), some (.inl x_), some (.inl t_)], [.inl 1, .inl t_], S0_)) rfl ?_
    refine sm_T_br (a := 1) (z := 12) rfl (fun cx13_ => ?_) (fun cx13_ => ?_)
    · have cx13_ : t_ ≠ 1 := of_decide_eq_true cx13_
      refine sm_T_go 4 (c1 := (26, [some (.inr (.inr (some (13, 0)))), some (.inl x_), some (.inl t_)], [.inl x_, .inl 2, .inl 0, .inr (.inr (some (13, 0)))], S0_)) rfl ?_
      refine sm_T_bin (w := 2 * x_) rfl (bi_mul (by omega) (by omega) (by omega)) ?_ -- pc_ 26
      refine sm_T_go 1 (c1 := (28, [some (.inr (.inr (some (13, 0)))), some (.inl x_), some (.inl t_)], [.inl t_, .inl (2 * x_), .inl 0, .inr (.inr (some (13, 0)))], S0_)) rfl ?_
      refine sm_T_bin (w := 2 * x_ + t_) rfl (bi_add (by omega) (by omega) (by omega)) ?_ -- pc_ 28
      refine sm_T_cal (d1 := 0) (Q1 := vq_412 0 (2 * x_ + t_) S0_) rfl rfl (by decide) (vc_412 0 (2 * x_ + t_) S0_ hI_ (by omega) (by omega)) (fun u_ Sx14_ px17_ => ?_)
      obtain ⟨rfl, hIx15_, hFx16_, px17_⟩ := px17_
      have hFx18_ : ai_fr (sx_W vw_416) S0_ Sx14_ := ai_fr_tr hF_ (fr_le hFx16_ rfl)
      have e29_ := px17_
      refine sm_T_rv rfl ⟨_, _, rfl, rfl, hIx15_, hFx18_, ?_⟩
      first | exact Or.inl ⟨by omega, by omega, e16_⟩ | exact Or.inr ⟨by omega, e29_⟩
    · have cx13_ : ¬ (t_ ≠ 1) := of_decide_eq_false cx13_
      refine sm_T_go 3 (c1 := (16, [some (.inr (.inr (some (13, 0)))), some (.inl x_), some (.inl t_)], [.inl x_, .inl 1, .inr (.inr (some (13, 0)))], S0_)) rfl ?_
      refine sm_T_cal (d1 := 0) (Q1 := vq_412 1 x_ S0_) rfl rfl (by decide) (vc_412 1 x_ S0_ hI_ (by omega) (by omega)) (fun u_ Sx19_ px22_ => ?_)
      obtain ⟨rfl, hIx20_, hFx21_, px22_⟩ := px22_
      have hFx23_ : ai_fr (sx_W vw_416) S0_ Sx19_ := ai_fr_tr hF_ (fr_le hFx21_ rfl)
      have e16_ := px22_
      refine sm_T_go 1 (c1 := (32, [some (.inr (.inr (some (13, 0)))), some (.inl x_), some (.inl t_)], [], Sx19_)) rfl ?_
      refine sm_T_rv rfl ⟨_, _, rfl, rfl, hIx20_, hFx23_, ?_⟩
      first | exact Or.inl ⟨by omega, by omega, e16_⟩ | exact Or.inr ⟨by omega, e29_⟩
end
/-! 99.zs9 -/
section
/-! the reference: tasks done; written by wip/p55/gen/vg -/

/-! the_ reference: tasks done -/
def gdr (F_ N_ : Int) (S_ : sm_S) : Prop := ∀ n_ : Int, F_ ≤ n_ → n_ < N_ → S_.2.2.1 202 0 n_.toNat = 1 → S_.2.2.1 203 0 n_.toNat = 1 → S_.2.2.1 210 0 (2 * n_).toNat < 1000000000
def jtop (S_ : sm_S) : Int := S_.2.2.1 220 0 (S_.1 13 0 137 - 1).toNat
def jtos (S_ : sm_S) : Int := S_.2.2.1 221 0 (S_.1 13 0 137 - 1).toNat
theorem tpv_e {S_ : sm_S} (h_ : S_.1 13 0 137 ≠ 0) : (jdn S_ (jtos S_) (jtop S_) → tpv_ S_ = 4000 + S_.1 13 0 137) ∧ (¬ jdn S_ (jtos S_) (jtop S_) → tpv_ S_ = jrk S_ (jtos S_) (jtop S_)) := by
  refine ⟨fun d_ => ?_, fun d_ => ?_⟩
  · unfold tpv_
    rw [if_neg h_]
    exact if_pos d_
  · unfold tpv_
    rw [if_neg h_]
    exact if_neg d_
theorem mad_cg {F_ : Int} {S_ S'_ : sm_S} (h_ : mad F_ S_) (e_ : S'_.1 13 0 129 = S_.1 13 0 129) (e6_ : S'_.2.2.1 216 0 = S_.2.2.1 216 0) (e7_ : S'_.2.2.1 217 0 = S_.2.2.1 217 0) (e5_ : S'_.2.2.1 185 0 = S_.2.2.1 185 0) (e106_ : S'_.1 13 0 106 = S_.1 13 0 106) (e134_ : S'_.1 13 0 134 = S_.1 13 0 134) : mad F_ S'_ := by
  unfold mad
  rw [e_, e6_, e7_, e5_, e106_, e134_]
  exact h_
theorem wk_pop {F_ N_ : Int} {S_ : sm_S} (hI_ : gi S_) (hg_ : gst F_ N_ S_) (hj_ : jsk F_ N_ S_) (hc_ : 1 ≤ S_.1 13 0 137) (hF_ : 1 ≤ F_) (dn_ : jdn S_ (jtos S_) (jtop S_)) : gst F_ N_ (sm_pI S_ 13 0 137 (S_.1 13 0 137 - 1)) ∧ jsk F_ N_ (sm_pI S_ 13 0 137 (S_.1 13 0 137 - 1)) ∧ mea_ N_ (sm_pI S_ 13 0 137 (S_.1 13 0 137 - 1)) < mea_ N_ S_ ∧ S_.1 13 0 129 ≤ (sm_pI S_ 13 0 137 (S_.1 13 0 137 - 1)).1 13 0 129 := by
  obtain ⟨S'_, hS_⟩ : ∃ S'_, S'_ = sm_pI S_ 13 0 137 (S_.1 13 0 137 - 1) := ⟨_, rfl⟩
  have j1_ : S'_.1 13 0 137 = S_.1 13 0 137 - 1 := by rw [hS_]; exact rf_eq
  have a_ : ∀ t_, S'_.2.2.1 t_ 0 = S_.2.2.1 t_ 0 := fun t_ => by rw [hS_]; rfl
  have f_ : ∀ k_, k_ ≠ 137 → S'_.1 13 0 k_ = S_.1 13 0 k_ := fun k_ hk_ => by rw [hS_]; exact rf_nk hk_
  rw [← hS_]
  have js_ : jsk F_ N_ S'_ := fun i_ i0_ i1_ => by
    rw [j1_] at i1_
    rw [a_, a_, jrk_cg (a_ 211)]
    exact ⟨jgd_cg (hj_ i_ i0_ (by omega)).1 (a_ _) (a_ _) (a_ _), (hj_ i_ i0_ (by omega)).2⟩
  refine ⟨gst_cg hg_ (f_ _ (by decide)) (a_ _) (a_ _) (a_ _) (a_ _) (a_ _) (f_ _ (by decide)) (f_ _ (by decide)), js_, ?_, by (rw [f_ 129 (by decide)]; exact Int.le_refl _)⟩
  have t_ := (tpv_e (S_ := S_) (by omega)).1 dn_
  unfold mea_
  rw [inc_cg (a_ 218) (a_ 219), t_]
  have q_ : tpv_ S'_ < 4000 + S_.1 13 0 137 := by
    unfold tpv_
    rw [j1_]
    split
    · omega
    · split
      · omega
      · have w_ := (js_ (S_.1 13 0 137 - 1 - 1) (by omega) (by omega)).2
        rw [← j1_] at w_ ⊢
        omega
  omega
theorem wk_push {F_ N_ s_ w_ : Int} {S_ S'_ : sm_S} (hI_ : gi S_) (hg_ : gst F_ N_ S_) (hj_ : jsk F_ N_ S_) (hc_ : 1 ≤ S_.1 13 0 137) (hF_ : 1 ≤ F_) (a_ : jap s_ w_ S_ S'_) (f_ : ai_fr (sx_W ([(13, 137)], [220, 221], [])) S_ S'_) (g_ : jgd F_ N_ S_ s_ w_) (r_ : jrk S_ s_ w_ < jrk S_ (jtos S_) (jtop S_)) (nd_ : ¬ jdn S_ (jtos S_) (jtop S_)) (nn9_ : ¬ jdn S_ s_ w_) : gst F_ N_ S'_ ∧ jsk F_ N_ S'_ ∧ mea_ N_ S'_ < mea_ N_ S_ ∧ S_.1 13 0 129 ≤ S'_.1 13 0 129 := by
  have tp_ := hj_ (S_.1 13 0 137 - 1) (by omega) (by omega)
  have tr_ : jrk S_ (jtos S_) (jtop S_) + (S_.1 13 0 137 - 1) ≤ 3042 := tp_.2
  have e1_ : jtos S'_ = s_ := by unfold jtos; rw [a_.1, a_.2.2, if_pos (by omega)]
  have e2_ : jtop S'_ = w_ := by unfold jtop; rw [a_.1, a_.2.1, if_pos (by omega)]
  have rb := jrk_b hI_ g_ hF_
  refine ⟨gst_cg hg_ (f_.1 13 0 129 rfl) (fr_arr f_ rfl) (fr_arr f_ rfl) (fr_arr f_ rfl) (fr_arr f_ rfl) (fr_arr f_ rfl) (f_.1 13 0 106 rfl) (f_.1 13 0 134 rfl), jsk_ap hj_ a_ (by omega) g_ (by omega) (fr_arr f_ rfl) (fr_arr f_ rfl) (fr_arr f_ rfl) (fr_arr f_ rfl), ?_, by (rw [f_.1 13 0 129 rfl]; exact Int.le_refl _)⟩
  have t_ := (tpv_e (S_ := S_) (by omega)).2 nd_
  have t'_ := (tpv_e (S_ := S'_) (by rw [a_.1]; omega)).2 (by
    rw [e1_, e2_]
    unfold jdn at *
    rw [fr_arr f_ (t := 218) rfl, fr_arr f_ (t := 219) rfl]
    exact nn9_)
  rw [e1_, e2_, jrk_cg (fr_arr f_ rfl)] at t'_
  unfold mea_
  rw [inc_cg (fr_arr f_ rfl) (fr_arr f_ rfl), t_, t'_]
  omega
theorem wk_g {F_ N_ w_ v_ : Int} {S_ Sx_ : sm_S} {w9_ : sx_Wl} (hI_ : gi (sm_aI Sx_ 218 0 w_.toNat v_)) (hg_ : gst F_ N_ S_) (hj_ : jsk F_ N_ S_) (hc_ : 0 ≤ S_.1 13 0 137) (hF_ : 1 ≤ F_) (f_ : ai_fr (sx_W w9_) S_ Sx_) (hw_ : 2 * F_ ≤ w_ ∧ w_ < 2 * N_) (h0_ : S_.2.2.1 218 0 w_.toNat = -1) (e_ : v_ = F_ - 1 + S_.1 13 0 129 ∧ Sx_.1 13 0 129 = S_.1 13 0 129 + 1 ∧ mad F_ Sx_) (h1_ : (sx_W w9_).1 13 137 = false := by rfl) (h2_ : (sx_W w9_).2.1 220 = false := by rfl) (h3_ : (sx_W w9_).2.1 221 = false := by rfl) (h4_ : (sx_W w9_).2.1 202 = false := by rfl) (h5_ : (sx_W w9_).2.1 203 = false := by rfl) (h6_ : (sx_W w9_).2.1 210 = false := by rfl) (h7_ : (sx_W w9_).2.1 211 = false := by rfl) (h8_ : (sx_W w9_).2.1 218 = false := by rfl) (h9_ : (sx_W w9_).2.1 219 = false := by rfl) : gst F_ N_ (sm_aI Sx_ 218 0 w_.toNat v_) ∧ jsk F_ N_ (sm_aI Sx_ 218 0 w_.toNat v_) ∧ mea_ N_ (sm_aI Sx_ 218 0 w_.toNat v_) < mea_ N_ S_ ∧ S_.1 13 0 129 ≤ (sm_aI Sx_ 218 0 w_.toNat v_).1 13 0 129 := by
  obtain ⟨S'_, hS_⟩ : ∃ S'_, S'_ = sm_aI Sx_ 218 0 w_.toNat v_ := ⟨_, rfl⟩
  have a_ : ∀ u_, u_ ≠ 218 → S'_.2.2.1 u_ 0 = Sx_.2.2.1 u_ 0 := fun u_ hu_ => by
    rw [hS_]
    funext j_
    simp only [rd_ne, hu_, ne_eq, not_false_eq_true]
  have b_ : ∀ k_, S'_.1 13 0 k_ = Sx_.1 13 0 k_ := fun k_ => by rw [hS_]; rfl
  have c_ : ∀ j_, S'_.2.2.1 218 0 j_ = if j_ = w_.toNat then v_ else S_.2.2.1 218 0 j_ := fun j_ => by
    rw [hS_, ← fr_arr f_ (t := 218) h8_]
    simp only [rd_eq]
  rw [← hS_] at hI_ ⊢
  have g0_ := hg_.1
  have G_ : gst F_ N_ S'_ ∧ inc N_ S'_ + 1 = inc N_ S_ := gst_g (S1_ := Sx_) hg_ hw_ (by omega) h0_ ⟨e_.1, by omega⟩ ((b_ 129).trans e_.2.1) c_ ((a_ 219 (by decide)).trans (fr_arr f_ h9_)) (mad_cg e_.2.2 (b_ 129) (a_ 216 (by decide)) (a_ 217 (by decide)) (a_ 185 (by decide)) (b_ 106) (b_ 134))
  have js_ := jsk_cg hj_ ((b_ 137).trans (f_.1 13 0 137 h1_)) ((a_ 220 (by decide)).trans (fr_arr f_ h2_)) ((a_ 221 (by decide)).trans (fr_arr f_ h3_)) ((a_ 202 (by decide)).trans (fr_arr f_ h4_)) ((a_ 203 (by decide)).trans (fr_arr f_ h5_)) ((a_ 210 (by decide)).trans (fr_arr f_ h6_)) ((a_ 211 (by decide)).trans (fr_arr f_ h7_))
  exact ⟨G_.1, js_, mea_c hI_ js_ hF_ (by rw [b_, f_.1 13 0 137 h1_]; exact hc_) G_.2, by (rw [b_ 129, e_.2.1]; omega)⟩
theorem wk_t {F_ N_ w_ v_ : Int} {S_ Sx_ : sm_S} {w9_ : sx_Wl} (hI_ : gi (sm_aI Sx_ 219 0 w_.toNat v_)) (hg_ : gst F_ N_ S_) (hj_ : jsk F_ N_ S_) (hc_ : 0 ≤ S_.1 13 0 137) (hF_ : 1 ≤ F_) (f_ : ai_fr (sx_W w9_) S_ Sx_) (hw_ : 1 ≤ w_ ∧ w_ < N_) (h0_ : S_.2.2.1 219 0 w_.toNat = -1) (e_ : v_ = F_ - 1 + S_.1 13 0 129 ∧ Sx_.1 13 0 129 = S_.1 13 0 129 + 1 ∧ mad F_ Sx_) (h1_ : (sx_W w9_).1 13 137 = false := by rfl) (h2_ : (sx_W w9_).2.1 220 = false := by rfl) (h3_ : (sx_W w9_).2.1 221 = false := by rfl) (h4_ : (sx_W w9_).2.1 202 = false := by rfl) (h5_ : (sx_W w9_).2.1 203 = false := by rfl) (h6_ : (sx_W w9_).2.1 210 = false := by rfl) (h7_ : (sx_W w9_).2.1 211 = false := by rfl) (h8_ : (sx_W w9_).2.1 218 = false := by rfl) (h9_ : (sx_W w9_).2.1 219 = false := by rfl) : gst F_ N_ (sm_aI Sx_ 219 0 w_.toNat v_) ∧ jsk F_ N_ (sm_aI Sx_ 219 0 w_.toNat v_) ∧ mea_ N_ (sm_aI Sx_ 219 0 w_.toNat v_) < mea_ N_ S_ ∧ S_.1 13 0 129 ≤ (sm_aI Sx_ 219 0 w_.toNat v_).1 13 0 129 := by
  obtain ⟨S'_, hS_⟩ : ∃ S'_, S'_ = sm_aI Sx_ 219 0 w_.toNat v_ := ⟨_, rfl⟩
  have a_ : ∀ u_, u_ ≠ 219 → S'_.2.2.1 u_ 0 = Sx_.2.2.1 u_ 0 := fun u_ hu_ => by
    rw [hS_]
    funext j_
    simp only [rd_ne, hu_, ne_eq, not_false_eq_true]
  have b_ : ∀ k_, S'_.1 13 0 k_ = Sx_.1 13 0 k_ := fun k_ => by rw [hS_]; rfl
  have c_ : ∀ j_, S'_.2.2.1 219 0 j_ = if j_ = w_.toNat then v_ else S_.2.2.1 219 0 j_ := fun j_ => by
    rw [hS_, ← fr_arr f_ (t := 219) h9_]
    simp only [rd_eq]
  rw [← hS_] at hI_ ⊢
  have g0_ := hg_.1
  have G_ : gst F_ N_ S'_ ∧ inc N_ S'_ + 1 = inc N_ S_ := gst_t (S1_ := Sx_) hg_ hw_ h0_ ⟨e_.1, by omega⟩ ((b_ 129).trans e_.2.1) c_ ((a_ 218 (by decide)).trans (fr_arr f_ h8_)) (mad_cg e_.2.2 (b_ 129) (a_ 216 (by decide)) (a_ 217 (by decide)) (a_ 185 (by decide)) (b_ 106) (b_ 134))
  have js_ := jsk_cg hj_ ((b_ 137).trans (f_.1 13 0 137 h1_)) ((a_ 220 (by decide)).trans (fr_arr f_ h2_)) ((a_ 221 (by decide)).trans (fr_arr f_ h3_)) ((a_ 202 (by decide)).trans (fr_arr f_ h4_)) ((a_ 203 (by decide)).trans (fr_arr f_ h5_)) ((a_ 210 (by decide)).trans (fr_arr f_ h6_)) ((a_ 211 (by decide)).trans (fr_arr f_ h7_))
  exact ⟨G_.1, js_, mea_c hI_ js_ hF_ (by rw [b_, f_.1 13 0 137 h1_]; exact hc_) G_.2, by (rw [b_ 129, e_.2.1]; omega)⟩
theorem wk_way {F_ N_ w_ : Int} {S_ : sm_S} (hI_ : gi S_) (h_ : wal9 F_ N_ S_) (hF_ : 1 ≤ F_) (g_ : 2 * F_ ≤ w_ ∧ w_ < 2 * N_ ∧ S_.2.2.1 202 0 (w_ / 2).toNat = 1 ∧ S_.2.2.1 210 0 w_.toNat < 1000000000) : (S_.2.2.1 211 0 w_.toNat = 0 → 0 ≤ S_.2.2.1 207 0 w_.toNat ∧ 1 ≤ S_.2.2.1 185 0 (12 * S_.1 13 0 106 + S_.2.2.1 207 0 w_.toNat).toNat ∧ ∀ k_ : Int, 0 ≤ k_ → k_ < S_.2.2.1 185 0 (12 * S_.1 13 0 106 + S_.2.2.1 207 0 w_.toNat).toNat → inp F_ (w_ / 2) S_ (S_.2.2.1 208 0 (3 * w_ + k_).toNat) (i_shr (S_.2.2.1 209 0 w_.toNat) k_ % 2)) ∧ (S_.2.2.1 211 0 w_.toNat ≠ 0 → S_.2.2.1 211 0 (w_ + 1 - 2 * (w_ % 2)).toNat = 0 ∧ S_.2.2.1 210 0 (w_ + 1 - 2 * (w_ % 2)).toNat < 1000000000) := by
  have q_ := h_ (w_ / 2) (by omega) (by omega) g_.2.2.1
  obtain ⟨q1_, q2_, q3_, q4_⟩ := q_
  have b_ : 0 ≤ S_.1 13 0 108 := (hI_.1 13 0 108 rfl).1
  have z0_ : 0 ≤ S_.2.2.1 211 0 (2 * (w_ / 2)).toNat := (hI_.2 211 0 _).1
  have z1_ : 0 ≤ S_.2.2.1 211 0 (2 * (w_ / 2) + 1).toNat := (hI_.2 211 0 _).1
  have c_ : w_ = 2 * (w_ / 2) ∨ w_ = 2 * (w_ / 2) + 1 := by omega
  rcases c_ with c_ | c_
  · have o_ : w_ + 1 - 2 * (w_ % 2) = w_ + 1 := by omega
    rw [o_]
    have b1_ : S_.2.2.1 206 0 w_.toNat ≤ 1000000000 := (hI_.2 206 0 _).2
    have g4_ := g_.2.2.2
    unfold ned at q3_ q4_
    unfold wyc at q1_
    rw [← c_] at z0_ z1_ q1_ q3_ q4_
    refine ⟨fun z_ => ?_, fun z_ => ?_⟩
    · refine q1_ ?_
      omega
    · omega
  · have o_ : w_ + 1 - 2 * (w_ % 2) = 2 * (w_ / 2) := by omega
    rw [o_]
    have b1_ : S_.2.2.1 206 0 w_.toNat ≤ 1000000000 := (hI_.2 206 0 _).2
    have g4_ := g_.2.2.2
    unfold ned at q3_ q4_
    unfold wyc at q2_
    rw [← c_] at z1_ q2_ q3_ q4_
    refine ⟨fun z_ => ?_, fun z_ => ?_⟩
    · refine q2_ ?_
      omega
    · omega

theorem shr3 {x_ : Int} (hx_ : 0 ≤ x_ ∧ x_ ≤ 7) : i_shr x_ 0 = x_ ∧ i_shr x_ 1 = x_ / 2 ∧ i_shr x_ 2 = x_ / 4 := by
  refine ⟨?_, ?_, ?_⟩
  · rw [i_shrv (by omega) (by omega) (by omega)]; exact Int.ediv_one x_
  · rw [i_shrv (by omega) (by omega) (by omega)]; rfl
  · rw [i_shrv (by omega) (by omega) (by omega)]; rfl
theorem wk_in {F_ N_ w_ x_ t_ : Int} {S_ : sm_S} (hg_ : gst F_ N_ S_) (hw_ : w_ < 2 * N_) (i_ : inp F_ (w_ / 2) S_ x_ t_) (ht_ : 0 ≤ t_ ∧ t_ ≤ 1) (h_ : noi F_ S_ x_ t_ ≠ -1) : 1 ≤ x_ ∧ x_ < w_ / 2 ∧ 0 ≤ noi F_ S_ x_ t_ ∧ noi F_ S_ x_ t_ < F_ - 1 + S_.1 13 0 129 := by
  have i1_ := i_.1.1
  have i2_ := i_.1.2.1
  have q_ := noi_b hg_ (x_ := x_) (t_ := t_) ⟨by omega, by omega⟩ ht_
  rcases q_ with q_ | q_
  · exact absurd q_ h_
  · exact ⟨by omega, by omega, q_.1, q_.2⟩
/-! M_.work -/
theorem wal9_cg {F_ N_ : Int} {S_ S'_ : sm_S} (h_ : wal9 F_ N_ S_) (e2_ : S'_.2.2.1 202 0 = S_.2.2.1 202 0) (e3_ : S'_.2.2.1 203 0 = S_.2.2.1 203 0) (e5_ : S'_.2.2.1 185 0 = S_.2.2.1 185 0) (e6_ : S'_.2.2.1 206 0 = S_.2.2.1 206 0) (e7_ : S'_.2.2.1 207 0 = S_.2.2.1 207 0) (e8_ : S'_.2.2.1 208 0 = S_.2.2.1 208 0) (e9_ : S'_.2.2.1 209 0 = S_.2.2.1 209 0) (e10 : S'_.2.2.1 210 0 = S_.2.2.1 210 0) (e11 : S'_.2.2.1 211 0 = S_.2.2.1 211 0) (e106_ : S'_.1 13 0 106 = S_.1 13 0 106) (e108_ : S'_.1 13 0 108 = S_.1 13 0 108) : wal9 F_ N_ S'_ := by
  unfold wal9 wok2 wyc ned inp cst at *
  rw [e2_, e3_, e5_, e6_, e7_, e8_, e9_, e10, e11, e106_, e108_]
  exact h_
theorem gdr_cg {F_ N_ : Int} {S_ S'_ : sm_S} (h_ : gdr F_ N_ S_) (e2_ : S'_.2.2.1 202 0 = S_.2.2.1 202 0) (e3_ : S'_.2.2.1 203 0 = S_.2.2.1 203 0) (e10 : S'_.2.2.1 210 0 = S_.2.2.1 210 0) : gdr F_ N_ S'_ := by
  unfold gdr at *
  rw [e2_, e3_, e10]
  exact h_
theorem jsk_0 {F_ N_ : Int} {S_ : sm_S} (h_ : S_.1 13 0 137 = 0) : jsk F_ N_ S_ := fun i_ a_ b_ => by omega
theorem jsk_1 {F_ N_ x_ t_ : Int} {S_ S'_ : sm_S} (hI_ : gi S_) (hF_ : 1 ≤ F_) (hx_ : 1 ≤ x_ ∧ x_ < N_ ∧ N_ ≤ 1013) (ht_ : 0 ≤ t_ ∧ t_ ≤ 1) (h_ : S_.1 13 0 137 = 0) (hd_ : gdr F_ N_ S_) (m_ : mrk F_ S_ x_) (n_ : noi F_ S_ x_ t_ = -1) (e_ : ((x_ < F_ ∨ S_.2.2.1 203 0 x_.toNat = 1) ∧ t_ = 1 ∧ jap 1 x_ S_ S'_) ∨ (((F_ ≤ x_ ∧ S_.2.2.1 203 0 x_.toNat = 0) ∨ t_ = 0) ∧ jap 0 (2 * x_ + t_) S_ S'_)) (e2_ : S'_.2.2.1 202 0 = S_.2.2.1 202 0) (e3_ : S'_.2.2.1 203 0 = S_.2.2.1 203 0) (e10 : S'_.2.2.1 210 0 = S_.2.2.1 210 0) (e11 : S'_.2.2.1 211 0 = S_.2.2.1 211 0) : jsk F_ N_ S'_ := by
  have k_ : x_ < F_ ∨ (S_.2.2.1 203 0 x_.toNat = 1 ∧ S_.2.2.1 210 0 (2 * x_).toNat < 1000000000) := by
    by_cases c_ : x_ < F_
    · exact Or.inl c_
    · have y_ : S_.2.2.1 203 0 x_.toNat = 1 := by
        rcases m_.2 with z_ | z_
        · exact absurd z_ c_
        · exact z_
      exact Or.inr ⟨y_, hd_ x_ (by omega) hx_.2.1 m_.1 y_⟩
  rcases e_ with e_ | e_
  · exact jsk_ap (jsk_0 h_) e_.2.2 (by omega) (Or.inl ⟨rfl, hx_.1, hx_.2.1, m_.1, k_⟩) (by unfold jrk; rw [if_pos rfl]; omega) e2_ e3_ e10 e11
  · have t0_ : t_ = 0 := by
      rcases e_.1 with z_ | z_
      · rcases k_ with k_ | k_
        · exfalso; omega
        · exfalso; omega
      · exact z_
    have g_ : F_ ≤ x_ := by
      by_cases c_ : F_ ≤ x_
      · exact c_
      · exfalso
        unfold noi at n_
        rw [if_neg (by omega), if_pos t0_] at n_
        unfold lnf at n_
        rw [if_pos (by omega)] at n_
        omega
    have a_ := e_.2
    rw [t0_, Int.add_zero] at a_
    have q_ : 2 * x_ / 2 = x_ := by omega
    have c9_ : S_.2.2.1 211 0 (2 * x_).toNat ≤ 1 := (hI_.2 211 0 _).2
    exact jsk_ap (jsk_0 h_) a_ (by omega) (Or.inr ⟨rfl, by omega, by omega, by rw [q_]; exact m_.1, by omega⟩) (by unfold jrk; rw [if_neg (by decide), q_]; omega) e2_ e3_ e10 e11
/-! M_.netOfRoot -/
def vw_418 : sx_Wl := ([(13, 129), (13, 134), (13, 137)], [216, 217, 218, 219, 220, 221], [])
end
/-! 99.zt1 -/
section
/-! the reference: a chip kept; written by wip/p55/gen/vg -/

/-! the_ reference: a_ chip kept -/
theorem kch {F_ N_ d_ c_ : Int} {S_ S'_ : sm_S} (hI_ : ∀ j_, S_.2.2.1 216 0 j_ ≤ 11) (hd_ : dmp F_ N_ d_ S_) (hc_ : 0 ≤ c_) (hm_ : mad F_ S_) (hl_ : S_.1 13 0 134 = 0) (r_ : S'_.2.2.1 223 0 c_.toNat = S_.2.2.1 154 0 d_.toNat ∧ S'_.2.2.1 224 0 c_.toNat = S_.2.2.1 155 0 d_.toNat ∧ S'_.2.2.1 225 0 c_.toNat = S_.2.2.1 156 0 d_.toNat ∧ S'_.2.2.1 226 0 c_.toNat = S_.2.2.1 157 0 d_.toNat ∧ S'_.2.2.1 227 0 c_.toNat = S_.2.2.1 157 0 d_.toNat ∧ S'_.2.2.1 228 0 c_.toNat = S_.1 13 0 129) (h2_ : ∀ j_ : Int, 0 ≤ j_ → j_ < S_.1 13 0 129 → S'_.2.2.1 229 0 (150 * c_ + j_).toNat = S_.2.2.1 216 0 j_.toNat) (h3_ : ∀ j_ : Int, 0 ≤ j_ → j_ < 3 * S_.1 13 0 129 → S'_.2.2.1 230 0 (450 * c_ + j_).toNat = S_.2.2.1 217 0 j_.toNat) (h4_ : ∀ j_ : Int, 0 ≤ j_ → j_ < 12 → S'_.2.2.1 234 0 (12 * c_ + j_).toNat = S_.2.2.1 185 0 (12 * S_.1 13 0 106 + j_).toNat) (ho_ : (∀ k_ : Int, 0 ≤ k_ → k_ < S_.2.2.1 156 0 d_.toNat → S'_.2.2.1 231 0 (16 * c_ + k_).toNat < F_ - 1 + S_.1 13 0 129) ∧ ∀ k_ : Int, 0 ≤ k_ → k_ < S_.2.2.1 155 0 d_.toNat → S'_.2.2.1 232 0 (6 * c_ + k_).toNat < F_ - 1 + S_.1 13 0 129) (z0_ : S'_.2.2.1 240 0 c_.toNat = 0) (z1_ : S'_.2.2.1 251 0 c_.toNat = 0) : cRk c_ S'_ := by
  obtain ⟨r1_, r2_, r3_, r4_, r5_, r6_⟩ := r_
  obtain ⟨⟨a1_, a2_, a3_, a4_, a5_, a6_, a7_, a8_, a9_⟩, F1_, I_, R_, N1_, k1_, k2_, k3_, k4_, k5_, k6_, -⟩ := hd_
  have e_ : S_.2.2.1 154 0 d_.toNat + S_.2.2.1 155 0 d_.toNat = F_ - 1 := by omega
  have eR_ : (S_.2.2.1 155 0 d_.toNat).toNat = R_ := by omega
  refine ⟨by rw [r1_, r2_]; omega, by rw [r4_, r2_, eR_]; exact k6_.2, by rw [r5_, r2_, eR_]; exact k6_.2, fun g_ g0_ g1_ k_ b0_ b1_ b2_ => ?_, ⟨fun k_ b0_ b1_ => ?_, fun k_ b0_ b1_ => ?_⟩, fun p_ => ?_, fun p_ => ?_⟩
  · rw [r6_] at g1_
    have m_ := hm_ g_ g0_ g1_
    have c0_ : 0 ≤ S_.2.2.1 216 0 g_.toNat := by
      rcases m_.1 with y_ | y_
      · exact y_
      · rw [hl_] at y_; exact absurd y_ (by decide)
    have c1_ : S_.2.2.1 216 0 g_.toNat ≤ 11 := hI_ _
    rw [h2_ g_ g0_ g1_, h4_ _ c0_ (by omega)] at b2_
    have q1_ := (m_.2 k_ b0_ b1_).1
    have q_ := (m_.2 k_ b0_ b1_).2 (by
      rcases b2_ with y_ | y_
      · exact Or.inl y_
      · exact Or.inr ⟨c0_, y_⟩)
    have w_ := h3_ (3 * g_ + k_) (by omega) (by omega)
    rw [show 450 * c_ + (3 * g_ + k_) = 450 * c_ + 3 * g_ + k_ by omega] at w_
    rw [r1_, r2_, w_]
    omega
  · rw [r3_] at b1_
    rw [r1_, r2_, r6_]
    have w_ := ho_.1 k_ b0_ b1_
    omega
  · rw [r2_] at b1_
    rw [r1_, r2_, r6_]
    have w_ := ho_.2 k_ b0_ b1_
    omega
  · rw [z0_] at p_
    exact absurd p_ (by decide)
  · rw [z1_] at p_
    exact absurd p_ (by decide)
/-! M_.keepChip -/
end
/-! 99.zt2 -/
section
/-! the reference: a design mapped; written by wip/p55/gen/vg -/

/-! the_ reference: a_ design mapped -/
theorem aI_ne {t_ u_ k_ : Nat} {v_ : Int} {S_ : sm_S} (h_ : u_ ≠ t_) : (sm_aI S_ t_ 0 k_ v_).2.2.1 u_ 0 = S_.2.2.1 u_ 0 := by
  funext j_
  simp only [rd_ne, h_, ne_eq, not_false_eq_true]
theorem wok2_eq {F_ n_ : Int} {S_ S'_ : sm_S} (h_ : wok2 F_ n_ S_) (e2_ : S'_.2.2.1 202 0 = S_.2.2.1 202 0) (e3_ : S'_.2.2.1 203 0 = S_.2.2.1 203 0) (e5_ : S'_.2.2.1 185 0 = S_.2.2.1 185 0) (e6_ : S'_.2.2.1 206 0 = S_.2.2.1 206 0) (e7_ : S'_.2.2.1 207 0 = S_.2.2.1 207 0) (e8_ : S'_.2.2.1 208 0 = S_.2.2.1 208 0) (e9_ : S'_.2.2.1 209 0 = S_.2.2.1 209 0) (e10 : S'_.2.2.1 210 0 = S_.2.2.1 210 0) (e11 : S'_.2.2.1 211 0 = S_.2.2.1 211 0) (e106_ : S'_.1 13 0 106 = S_.1 13 0 106) (e108_ : S'_.1 13 0 108 = S_.1 13 0 108) : wok2 F_ n_ S'_ := by
  unfold wok2 wyc ned inp cst at *
  rw [e2_, e3_, e5_, e6_, e7_, e8_, e9_, e10, e11, e106_, e108_]
  exact h_
theorem wok2_a {F_ n_ v_ : Int} {k_ : Nat} {S_ : sm_S} (h_ : wok2 F_ n_ S_) : wok2 F_ n_ (sm_aI S_ 218 0 k_ v_) := wok2_eq h_ (aI_ne (by decide)) (aI_ne (by decide)) (aI_ne (by decide)) (aI_ne (by decide)) (aI_ne (by decide)) (aI_ne (by decide)) (aI_ne (by decide)) (aI_ne (by decide)) (aI_ne (by decide)) rfl rfl
theorem lgn_cg {F_ N_ : Int} {S_ S'_ : sm_S} (h_ : lgn F_ N_ S_) (e2_ : S'_.2.2.1 202 0 = S_.2.2.1 202 0) (e9_ : S'_.2.2.1 199 0 = S_.2.2.1 199 0) (e0_ : S'_.2.2.1 200 0 = S_.2.2.1 200 0) : lgn F_ N_ S'_ := by
  unfold lgn lgp at *
  rw [e2_, e9_, e0_]
  exact h_
theorem rtd_fr {w_ : sx_Wl} {F_ d_ : Int} {S_ S'_ : sm_S} (h_ : rtd F_ d_ (S_.2.2.1 156 0 d_.toNat) (S_.2.2.1 155 0 d_.toNat) S_) (g_ : ai_fr (sx_W w_) S_ S'_) (q_ : dwf w_ = true := by rfl) (e2_ : (sx_W w_).2.1 202 = false := by rfl) (e3_ : (sx_W w_).2.1 203 = false := by rfl) : rtd F_ d_ (S'_.2.2.1 156 0 d_.toNat) (S'_.2.2.1 155 0 d_.toNat) S'_ := by
  rw [fr_arr (t := 156) g_ (dwf_0 q_ (by decide) (by decide)), fr_arr (t := 155) g_ (dwf_0 q_ (by decide) (by decide))]
  exact rtd_mo h_ (fr_arr (t := 166) g_ (dwf_0 q_ (by decide) (by decide))) (fr_arr (t := 167) g_ (dwf_0 q_ (by decide) (by decide))) (fr_arr (t := 168) g_ (dwf_0 q_ (by decide) (by decide))) (fun j_ u_ => by rw [fr_arr (t := 202) g_ e2_]; exact u_) (fun j_ u_ => by rw [fr_arr (t := 203) g_ e3_]; exact u_)
theorem gst_a {F_ N_ v_ : Int} {t_ k_ : Nat} {S_ : sm_S} (h_ : gst F_ N_ S_) (ht_ : t_ = 231 ∨ t_ = 232) : gst F_ N_ (sm_aI S_ t_ 0 k_ v_) := by
  have a_ : ∀ u_, u_ < 230 → (sm_aI S_ t_ 0 k_ v_).2.2.1 u_ 0 = S_.2.2.1 u_ 0 := fun u_ hu_ => aI_ne (by omega)
  exact gst_cg h_ rfl (a_ 218 (by decide)) (a_ 219 (by decide)) (a_ 216 (by decide)) (a_ 217 (by decide)) (a_ 185 (by decide)) rfl rfl
theorem gst_0 {F_ N_ : Int} {S_ : sm_S} (hN_ : 0 ≤ N_) (h_ : S_.1 13 0 129 = 0) (h2_ : ∀ j_ : Int, 2 * F_ ≤ j_ → j_ < 2 * N_ → S_.2.2.1 218 0 j_.toNat = -1) (h3_ : ∀ j_ : Int, 0 ≤ j_ → j_ < N_ → S_.2.2.1 219 0 j_.toNat = -1) : gst F_ N_ S_ := by
  have a_ := cn1_le (isn (S_.2.2.1 218 0)) (2 * N_).toNat
  have b_ := cn1_le (isn (S_.2.2.1 219 0)) N_.toNat
  refine ⟨⟨by omega, by unfold inc; omega⟩, fun w_ w0_ w1_ => Or.inl (h2_ w_ w0_ w1_), fun n_ n0_ n1_ => Or.inl (h3_ n_ (by omega) n1_), fun g_ g0_ g1_ => by omega⟩
def w118 : sx_Wl := (vw_407.1, 218 :: vw_407.2.1, [])
def w251 : sx_Wl := (vw_418.1, 231 :: vw_418.2.1, [])
def w304 : sx_Wl := (vw_418.1, 232 :: vw_418.2.1, [])
/-! M_.map -/
end
/-! 99.zt3 -/
section
/-! the reference: designs and libraries read; written by wip/p55/gen/vg -/

/-! the_ reference: designs and libraries read -/
theorem rdf_sl {a_ d_ : Nat} {S_ S'_ : sm_S} (g_ : rdf a_ S_ S'_) (h_ : d_ ≠ a_) (t_ : Nat) (h1_ : 153 ≤ t_) (h2_ : t_ < 171) (j_ : Nat) (j0_ : rds t_ * d_ ≤ j_) (j1_ : j_ < rds t_ * d_ + rds t_) : S'_.2.2.1 t_ 0 j_ = S_.2.2.1 t_ 0 j_ := g_ t_ h2_ h1_ j_ (by
  rcases Nat.lt_or_gt_of_ne h_ with z_ | z_
  · left
    have := Nat.mul_le_mul_left (rds t_) (show d_ + 1 ≤ a_ by omega)
    rw [Nat.mul_add] at this
    omega
  · right
    have := Nat.mul_le_mul_left (rds t_) (show a_ + 1 ≤ d_ by omega)
    rw [Nat.mul_add] at this
    omega)
theorem dRk_rd {a_ d_ : Nat} {S_ S'_ : sm_S} (h_ : dRk d_ S_) (g_ : rdf a_ S_ S'_) (hd_ : d_ ≠ a_) : dRk d_ S'_ := by
  have q_ : ∀ t_, 153 ≤ t_ → t_ < 171 → rds t_ = 1 → S'_.2.2.1 t_ 0 d_ = S_.2.2.1 t_ 0 d_ := fun t_ h1_ h2_ e_ => rdf_sl g_ hd_ t_ h1_ h2_ d_ (by rw [e_]; omega) (by rw [e_]; omega)
  have w_ : ∀ t_, 164 ≤ t_ → t_ < 167 → ∀ k_, k_ < 2048 → S'_.2.2.1 t_ 0 (2048 * d_ + k_) = S_.2.2.1 t_ 0 (2048 * d_ + k_) := fun t_ h1_ h2_ k_ hk_ => by
    have e_ : rds t_ = 2048 := by
      unfold rds
      rw [if_neg (by omega), if_pos (by omega)]
    exact rdf_sl g_ hd_ t_ (by omega) (by omega) _ (by rw [e_]; omega) (by rw [e_]; omega)
  obtain ⟨F_, I_, R_, N_, k1_, k2_, k3_, k4_, k5_, k6_, k7_, k8_⟩ := h_
  refine ⟨F_, I_, R_, N_, ?_, fun k_ a_ b_ => ?_, ⟨?_, fun m_ hm_ => ?_⟩, fun k_ hk_ => ?_, fun k_ hk_ => ?_, ?_, ?_, fun p_ hp_ => ?_⟩
  · rw [q_ 154 (by decide) (by decide) rfl, q_ 155 (by decide) (by decide) rfl, q_ 156 (by decide) (by decide) rfl, q_ 159 (by decide) (by decide) rfl, q_ 160 (by decide) (by decide) rfl]
    exact k1_
  · have z_ := k2_ k_ a_ b_
    show 2 ≤ S'_.2.2.1 164 0 (2048 * d_ + k_) ∧ S'_.2.2.1 164 0 (2048 * d_ + k_) < S'_.2.2.1 165 0 (2048 * d_ + k_) ∧ S'_.2.2.1 165 0 (2048 * d_ + k_) < 2 * (k_ : Int)
    rw [w_ 164 (by decide) (by decide) k_ (by omega), w_ 165 (by decide) (by decide) k_ (by omega)]
    exact z_
  · have y_ := w_ 166 (by decide) (by decide) 0 (by decide)
    rw [Nat.add_zero] at y_
    rw [y_]
    exact k3_.1
  · exact sfo_ap (n_ := N_) (fun a_ => k2_ m_ a_ hm_) hm_ (k3_.2 m_ hm_) (fun k_ hk_ => w_ 164 (by decide) (by decide) k_ (by omega)) (fun k_ hk_ => w_ 165 (by decide) (by decide) k_ (by omega)) (fun k_ hk_ => w_ 166 (by decide) (by decide) k_ (by omega))
  · rw [q_ 156 (by decide) (by decide) rfl] at hk_
    rw [rdf_sl g_ hd_ 167 (by decide) (by decide) (16 * d_ + k_) (by rw [show rds 167 = 16 from rfl]; omega) (by rw [show rds 167 = 16 from rfl]; omega)]
    exact k4_ k_ hk_
  · rw [rdf_sl g_ hd_ 168 (by decide) (by decide) (6 * d_ + k_) (by rw [show rds 168 = 6 from rfl]; omega) (by rw [show rds 168 = 6 from rfl]; omega)]
    exact k5_ k_ hk_
  · rw [q_ 157 (by decide) (by decide) rfl]
    exact k6_
  · rw [q_ 158 (by decide) (by decide) rfl]
    exact k7_
  · have l_ : 2 ^ (I_ + R_) ≤ 2 ^ 12 := Nat.pow_le_pow_right (by decide) (by omega)
    have l2_ : 2 ^ 12 = 4096 := by decide
    rw [rdf_sl g_ hd_ 170 (by decide) (by decide) (4096 * d_ + p_) (by rw [show rds 170 = 4096 from rfl]; omega) (by rw [show rds 170 = 4096 from rfl]; omega)]
    exact k8_ p_ hp_
theorem jR_de {b_ : Nat → Int} {n_ : Nat} {S0_ S1_ : sm_S} {u_ : Option sm_V} (hJ_ : jR S0_) (q_ : vq_363 b_ n_ S0_ u_ S1_) : jR S1_ := by
  obtain ⟨v_, -, hI_, f_, h_⟩ := q_
  refine ⟨fun d_ hd_ z_ => ?_, rcAll_fr hJ_.2 hI_ f_ rfl⟩
  have k_ : ∀ a_, rdf a_ S0_ S1_ → d_ ≠ a_ → dRk d_ S1_ := fun a_ g_ e_ => by
    rw [rdf_sl g_ e_ 153 (by decide) (by decide) d_ (by rw [show rds 153 = 1 from rfl]; omega) (by rw [show rds 153 = 1 from rfl]; omega)] at z_
    exact dRk_rd (hJ_.1 d_ hd_ z_) g_ e_
  rcases h_ with ⟨-, -, -, g_⟩ | ⟨-, s_, hs_, -, -, -, g_, h_⟩
  · exact k_ 6 g_ (by omega)
  · by_cases e_ : d_ = s_
    · subst e_
      rcases h_ with h_ | h_
      · exact h_.2.2
      · rw [h_.2] at z_
        exact absurd z_ (by decide)
    · exact k_ s_ g_ e_
theorem jR_li {b_ : Nat → Int} {n_ : Nat} {S0_ S1_ : sm_S} {u_ : Option sm_V} (hJ_ : jR S0_) (q_ : vq_367 b_ n_ S0_ u_ S1_) : jR S1_ := by
  obtain ⟨v_, -, hI_, f_, -⟩ := q_
  exact jR_fr hJ_ hI_ f_ rfl rfl
end
/-! 99.zt4 -/
section
/-! the reference: why end is refused; what was thrown -/
def vq_thw (S0_ : sm_S) (u_ : Option sm_V) (S1_ : sm_S) : Prop := S0_ = S1_ ∧ u_ = some (.inl (S0_.1 13 0 0))
theorem vc_thw {sc_ : Nat × (Nat → Int)} (S0_ : sm_S) : sm_T (mt_P sc_) 0 587 (0, [some (.inr (.inr (some (13, 0))))], [], S0_) (fun r_ => ∃ u_ S1_, r_ = (.inl u_, S1_, 0) ∧ vq_thw S0_ u_ S1_) := by
  refine sm_T_go 2 (c1 := (4, [some (.inr (.inr (some (13, 0))))], [.inl (S0_.1 13 0 0)], S0_)) rfl ?_
  exact sm_T_ri rfl ⟨_, _, rfl, rfl, rfl⟩
end
/-! 99.zt6 -/
section
/-! what design answers: the class; written by wip/p55/gen/vg -/

/-! what design answers -/
/-- the_ fault of_ a_ text that is_ a_ design but_ for_ its_ limits -/
def dfl (r_ : pD) (e_ : Int × Nat) : Prop := e_.2 = r_.2.1 (d_tp r_) ∧ ((d_lm r_ ≠ 0 ∧ e_.1 = d_lm r_) ∨ (d_lm r_ = 0 ∧ (∃ z_, d_gr r_ z_ ∧ 1000 < z_.1.1.length) ∧ e_.1 = 23))
/-- the_ fault of_ a_ text -/
def dfe (b_ : Nat → Int) (n_ : Nat) (e_ : Int × Nat) : Prop := p_de b_ n_ = .inl e_ ∨ ∃ r_, p_de b_ n_ = .inr r_ ∧ dfl r_ e_
/-- an_ accepted text: its_ tables and its_ graph -/
def dok (b_ : Nat → Int) (n_ : Nat) (r_ : pD) (z_ : gQ × gE) : Prop := p_de b_ n_ = .inr r_ ∧ d_lm r_ = 0 ∧ d_gr r_ z_ ∧ z_.1.1.length ≤ 1000
theorem dok_a {b_ : Nat → Int} {n_ : Nat} {r_ : pD} {z_ : gQ × gE} (h_ : dok b_ n_ r_ z_) : dacc b_ n_ := ⟨r_, z_, h_⟩
theorem dok_u {b_ : Nat → Int} {n_ : Nat} {r_ s_ : pD} {z_ y_ : gQ × gE} (h_ : dok b_ n_ r_ z_) (k_ : dok b_ n_ s_ y_) : r_ = s_ ∧ z_ = y_ := by
  obtain ⟨h1_, h2_, h3_, h4_⟩ := h_
  obtain ⟨k1_, k2_, k3_, k4_⟩ := k_
  rw [h1_] at k1_
  cases k1_
  unfold d_gr at h3_ k3_
  rw [h3_] at k3_
  cases k3_
  exact ⟨rfl, rfl⟩
/-- the_ class keeps that graph -/
def dgx (dd_ : Nat) (r_ : pD) (z_ : gQ × gE) (S_ : sm_S) : Prop := (S_.1 3 dd_ 1 = (d_I r_ : Int) ∧ S_.1 3 dd_ 2 = (d_R r_ : Int) ∧ S_.1 3 dd_ 3 = su (t_in r_.1 1 (d_tp r_)) (r_.1.1 (d_tp r_)) ∧ S_.1 3 dd_ 4 = ((1 + d_I r_ + d_R r_ + z_.1.1.length : Nat) : Int)) ∧ ∀ (k_ : Nat) (x_ y_ : Int), z_.1.1[k_]? = some (x_, y_) → S_.2.2.1 42 (0 + dd_) (1 + d_I r_ + d_R r_ + k_) = x_ ∧ S_.2.2.1 43 (0 + dd_) (1 + d_I r_ + d_R r_ + k_) = y_
theorem dgx_fr {w_ : sx_Wl} {dd_ : Nat} {r_ : pD} {z_ : gQ × gE} {S_ S'_ : sm_S} (h_ : dgx dd_ r_ z_ S_) (g_ : ai_fr (sx_W w_) S_ S'_) (h1_ : (sx_W w_).1 3 1 = false) (h2_ : (sx_W w_).1 3 2 = false) (h9_ : (sx_W w_).1 3 3 = false) (h3_ : (sx_W w_).1 3 4 = false) (h4_ : (sx_W w_).2.1 42 = false) (h5_ : (sx_W w_).2.1 43 = false) : dgx dd_ r_ z_ S'_ := by
  unfold dgx
  rw [g_.1 3 dd_ 1 h1_, g_.1 3 dd_ 2 h2_, g_.1 3 dd_ 3 h9_, g_.1 3 dd_ 4 h3_, fr_arr (t := 42) g_ h4_, fr_arr (t := 43) g_ h5_]
  exact h_
theorem dfl_na {b_ : Nat → Int} {n_ : Nat} {r_ : pD} {e_ : Int × Nat} (h_ : p_de b_ n_ = .inr r_) (hq_ : dfl r_ e_) : ¬ dacc b_ n_ := by
  obtain ⟨-, q_⟩ := hq_
  rcases q_ with q_ | q_
  · exact dacc_r h_ (Or.inl q_.1)
  · exact dacc_r h_ (Or.inr ⟨q_.1, q_.2.1⟩)
theorem dfe_u {b_ : Nat → Int} {n_ : Nat} {e_ g_ : Int × Nat} (h_ : dfe b_ n_ e_) (k_ : dfe b_ n_ g_) : e_ = g_ := by
  rcases h_ with h_ | ⟨r_, h_, h1_, h2_⟩
  · rcases k_ with k_ | ⟨s_, k_, -⟩
    · rw [h_] at k_; cases k_; rfl
    · rw [h_] at k_; cases k_
  · rcases k_ with k_ | ⟨s_, k_, k1_, k2_⟩
    · rw [h_] at k_; cases k_
    · rw [h_] at k_
      cases k_
      have e2_ : e_.2 = g_.2 := h1_.trans k1_.symm
      have e1_ : e_.1 = g_.1 := by
        rcases h2_ with h2_ | h2_
        · rcases k2_ with k2_ | k2_
          · exact h2_.2.trans k2_.2.symm
          · exact absurd k2_.1 h2_.1
        · rcases k2_ with k2_ | k2_
          · exact absurd h2_.1 k2_.1
          · exact h2_.2.2.trans k2_.2.2.symm
      exact Prod.ext e1_ e2_

/-! Builder.build -/
/-! ChipFlow.design -/
end
/-! 99.zt7 -/
section
/-! what the reference keeps of a design; written by wip/p55/gen/vg -/

/-! what the_ reference keeps of_ a_ design -/
def dgk (d_ F_ I_ R_ N_ : Nat) (o_ : Int) (lo_ hi_ : Nat → Int) (S_ : sm_S) : Prop := (S_.2.2.1 154 0 d_ = (I_ : Int) ∧ S_.2.2.1 155 0 d_ = (R_ : Int) ∧ S_.2.2.1 156 0 d_ = o_ ∧ S_.2.2.1 159 0 d_ = (N_ : Int) ∧ S_.2.2.1 160 0 d_ = (F_ : Int)) ∧ ∀ j_, j_ < N_ → S_.2.2.1 164 0 (2048 * d_ + j_) = lo_ j_ ∧ S_.2.2.1 165 0 (2048 * d_ + j_) = hi_ j_
theorem dgk_fr {w_ : sx_Wl} {d_ F_ I_ R_ N_ : Nat} {o_ : Int} {lo_ hi_ : Nat → Int} {S_ S'_ : sm_S} (h_ : dgk d_ F_ I_ R_ N_ o_ lo_ hi_ S_) (g_ : ai_fr (sx_W w_) S_ S'_) (hw_ : ∀ t_, t_ < 166 → (153 < t_ ∧ t_ ≠ 157 ∧ t_ ≠ 158 ∧ t_ ≠ 161 ∧ t_ ≠ 162 ∧ t_ ≠ 163) → (sx_W w_).2.1 t_ = false) : dgk d_ F_ I_ R_ N_ o_ lo_ hi_ S'_ := by
  unfold dgk
  rw [fr_arr (t := 154) g_ (hw_ _ (by decide) (by decide)), fr_arr (t := 155) g_ (hw_ _ (by decide) (by decide)), fr_arr (t := 156) g_ (hw_ _ (by decide) (by decide)), fr_arr (t := 159) g_ (hw_ _ (by decide) (by decide)), fr_arr (t := 160) g_ (hw_ _ (by decide) (by decide)), fr_arr (t := 164) g_ (hw_ _ (by decide) (by decide)), fr_arr (t := 165) g_ (hw_ _ (by decide) (by decide))]
  exact h_
theorem dgk_of {w_ : sx_Wl} {dd_ F_ I_ R_ N_ k1_ k2_ p_ : Nat} {o_ bg_ q_ : Int} {S0_ S_ : sm_S} (h_ : kdB dd_ F_ (I_ : Int) o_ bg_ R_ N_ k1_ k2_ p_ S_) (hN_ : S_.1 13 0 37 = (N_ : Int)) (hF_ : ai_fr (sx_W w_) S0_ S_) (ho_ : o_ = q_) (g1_ : (sx_W w_).2.1 140 = false := by rfl) (g2_ : (sx_W w_).2.1 141 = false := by rfl) : dgk dd_ F_ I_ R_ N_ q_ (S0_.2.2.1 140 0) (S0_.2.2.1 141 0) S_ := by
  obtain ⟨h1_, -, h3_, -⟩ := h_
  refine ⟨⟨h1_.2.1, h1_.2.2.1, h1_.2.2.2.1.trans ho_, h1_.2.2.2.2.2.2.1.trans hN_, h1_.2.2.2.2.2.2.2⟩, fun j_ hj_ => ?_⟩
  rw [← fr_arr (t := 140) (i := 0) hF_ g1_, ← fr_arr (t := 141) (i := 0) hF_ g2_]
  exact ⟨(h3_ j_ hj_).1, (h3_ j_ hj_).2.1⟩

/-! M_.keepDesign -/
end
/-! 99.zt8 -/
section
/-! what design answers: the reference; written by wip/p55/gen/vg -/

/-- the_ reference keeps that graph -/
def dgR (d_ : Nat) (r_ : pD) (z_ : gQ × gE) (S_ : sm_S) : Prop := (S_.2.2.1 154 0 d_ = (d_I r_ : Int) ∧ S_.2.2.1 155 0 d_ = (d_R r_ : Int) ∧ S_.2.2.1 156 0 d_ = su (t_in r_.1 1 (d_tp r_)) (r_.1.1 (d_tp r_)) ∧ S_.2.2.1 159 0 d_ = ((1 + d_I r_ + d_R r_ + z_.1.1.length : Nat) : Int) ∧ S_.2.2.1 160 0 d_ = ((1 + d_I r_ + d_R r_ : Nat) : Int)) ∧ ∀ (k_ : Nat) (x_ y_ : Int), z_.1.1[k_]? = some (x_, y_) → S_.2.2.1 164 0 (2048 * d_ + (1 + d_I r_ + d_R r_ + k_)) = x_ ∧ S_.2.2.1 165 0 (2048 * d_ + (1 + d_I r_ + d_R r_ + k_)) = y_
theorem rgl_pr {F_ : Nat} {G_ : pGr} {S_ : sm_S} (h_ : rgl F_ G_ S_) (hl_ : G_.length ≤ 1000) : ∀ (k_ : Nat) (x_ y_ : Int), G_[k_]? = some (x_, y_) → S_.2.2.1 140 0 (F_ + k_) = x_ ∧ S_.2.2.1 141 0 (F_ + k_) = y_ := by
  obtain ⟨G1_, h1_, h2_⟩ := h_
  rcases h2_ with h2_ | h2_
  · rw [← h2_.2]
    exact h1_.2.2.2.2.1
  · omega
theorem dgR_of {d_ N_ : Nat} {lo_ hi_ : Nat → Int} {r_ : pD} {z_ : gQ × gE} {S_ : sm_S} (h_ : dgk d_ (1 + d_I r_ + d_R r_) (d_I r_) (d_R r_) N_ (su (t_in r_.1 1 (d_tp r_)) (r_.1.1 (d_tp r_))) lo_ hi_ S_) (e_ : N_ = 1 + d_I r_ + d_R r_ + z_.1.1.length) (p_ : ∀ (k_ : Nat) (x_ y_ : Int), z_.1.1[k_]? = some (x_, y_) → lo_ (1 + d_I r_ + d_R r_ + k_) = x_ ∧ hi_ (1 + d_I r_ + d_R r_ + k_) = y_) : dgR d_ r_ z_ S_ := by
  subst e_
  refine ⟨h_.1, fun k_ x_ y_ q_ => ?_⟩
  have l_ : k_ < z_.1.1.length := (List.getElem?_eq_some_iff.mp q_).1
  have j_ := h_.2 (1 + d_I r_ + d_R r_ + k_) (by omega)
  have m_ := p_ k_ x_ y_ q_
  exact ⟨j_.1.trans m_.1, j_.2.trans m_.2⟩
/-- the_ reference holds the_ fault of_ the_ text -/
def dfs (b_ : Nat → Int) (n_ : Nat) (S_ : sm_S) : Prop := ∃ e_, dfe b_ n_ e_ ∧ S_.1 13 0 10 = e_.1 ∧ S_.1 13 0 11 = (e_.2 : Int)

/-! M_.design -/
end
