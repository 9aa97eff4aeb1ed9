/-! 99.zs3 -/
section
/-! the reference: waves; written by wip/p55/gen/vg -/

/-! the_ reference: waves -/
def cm3 (S_ : sm_S) : Int := 60030 - S_.2.2.1 287 0 0 - S_.2.2.1 287 0 1 - S_.2.2.1 287 0 2
theorem cm3_up {S_ : sm_S} {k_ : Int} (h_ : 0 ≤ k_ ∧ k_ < 3) : cm3 (sm_aI S_ 287 0 k_.toNat (S_.2.2.1 287 0 k_.toNat + 1)) = cm3 S_ - 1 := by
  unfold cm3
  rw [rd_eq, rd_eq, rd_eq]
  have c_ : k_ = 0 ∨ k_ = 1 ∨ k_ = 2 := by omega
  rcases c_ with c_ | c_ | c_ <;> subst c_
  · rw [if_pos (by decide), if_neg (by decide), if_neg (by decide)]
    show 60030 - (S_.2.2.1 287 0 0 + 1) - _ - _ = _
    omega
  · rw [if_neg (by decide), if_pos (by decide), if_neg (by decide)]
    show 60030 - _ - (S_.2.2.1 287 0 1 + 1) - _ = _
    omega
  · rw [if_neg (by decide), if_neg (by decide), if_pos (by decide)]
    show 60030 - _ - _ - (S_.2.2.1 287 0 2 + 1) = _
    omega
theorem cm3_b {S_ : sm_S} (h_ : gi S_) : 0 ≤ cm3 S_ ∧ cm3 S_ ≤ 60030 := by
  have a_ : 0 ≤ S_.2.2.1 287 0 0 ∧ S_.2.2.1 287 0 0 ≤ 20010 := h_.2 287 0 _
  have b_ : 0 ≤ S_.2.2.1 287 0 1 ∧ S_.2.2.1 287 0 1 ≤ 20010 := h_.2 287 0 _
  have c_ : 0 ≤ S_.2.2.1 287 0 2 ∧ S_.2.2.1 287 0 2 ≤ 20010 := h_.2 287 0 _
  unfold cm3
  omega
/-- a_ change that comes at time t_ -/
def fcw (S_ : sm_S) (c_ g_ t_ k_ : Int) : Prop := S_.2.2.1 287 0 k_.toNat < S_.2.2.1 286 0 (S_.2.2.1 230 0 (450 * c_ + 3 * g_ + k_).toNat + 1).toNat ∧ S_.2.2.1 285 0 (S_.2.2.1 287 0 k_.toNat).toNat = t_
def fc1 (S_ : sm_S) (c_ g_ t_ lo_ hi_ : Int) : Prop := ∃ k_ : Int, lo_ ≤ k_ ∧ k_ < hi_ ∧ fcw S_ c_ g_ t_ k_
/-! M_.netOfPin -/
def vw_507 : sx_Wl := ([], [], [])
def vq_507 (c_ : Int) (g_ : Int) (k_ : Int) (S0_ : sm_S) (u_ : Option sm_V) (S1_ : sm_S) : Prop := S0_ = S1_ ∧ ∃ v_ : Int, u_ = some (.inl v_) ∧ (((-1) ≤ v_ ∧ v_ ≤ 161) ∧ (v_ = (S0_.2.2.1 230 0 (450 * c_ + 3 * g_ + k_).toNat)))
set_option maxHeartbeats 400000 in
set_option maxRecDepth 20000 in
theorem vc_507 {sc_ : Nat × (Nat → Int)} (c_ : Int) (g_ : Int) (k_ : Int) (S0_ : sm_S) (hI_ : gi S0_) (hc_ : 0 ≤ c_ ∧ c_ ≤ 3) (hg_ : 0 ≤ g_ ∧ g_ ≤ 149) (hk_ : 0 ≤ k_ ∧ k_ ≤ 2) : sm_T (mt_P sc_) 0 507 (0, [some (.inr (.inr (some (13, 0)))), some (.inl c_), some (.inl g_), some (.inl k_)], [], S0_) (fun ro9_ => ∃ u_ S1_, ro9_ = (.inl u_, S1_, 0) ∧ vq_507 c_ g_ k_ S0_ u_ S1_) := by
  have hF_ : ai_fr (sx_W vw_507) S0_ S0_ := ai_fr_rf
  refine sm_T_go 5 (c1 := (9, [some (.inr (.inr (some (13, 0)))), some (.inl c_), some (.inl g_), some (.inl k_)], [.inl c_, .inl 150, .inl 3, .inr (.inr (some (230, 0)))], S0_)) rfl ?_
  refine sm_T_bin (w := 150 * c_) rfl (bi_mul (by omega) (by omega) (by omega)) ?_ -- pc_ 9
  refine sm_T_go 1 (c1 := (11, [some (.inr (.inr (some (13, 0)))), some (.inl c_), some (.inl g_), some (.inl k_)], [.inl g_, .inl (150 * c_), .inl 3, .inr (.inr (some (230, 0)))], S0_)) rfl ?_
  refine sm_T_bin (w := 150 * c_ + g_) rfl (bi_add (by omega) (by omega) (by omega)) ?_ -- pc_ 11
  refine sm_T_bin (w := 450 * c_ + 3 * g_) rfl (bi_mul (by omega) (by omega) (by omega)) ?_ -- pc_ 12
  refine sm_T_go 1 (c1 := (14, [some (.inr (.inr (some (13, 0)))), some (.inl c_), some (.inl g_), some (.inl k_)], [.inl k_, .inl (450 * c_ + 3 * g_), .inr (.inr (some (230, 0)))], S0_)) rfl ?_
  refine sm_T_bin (w := 450 * c_ + 3 * g_ + k_) rfl (bi_add (by omega) (by omega) (by omega)) ?_ -- pc_ 14
  refine sm_T_iald (n := 1800) rfl rfl (by omega) (by omega) ?_
  have bx1_ : (-1) ≤ S0_.2.2.1 230 0 (450 * c_ + 3 * g_ + k_).toNat ∧ S0_.2.2.1 230 0 (450 * c_ + 3 * g_ + k_).toNat ≤ 161 := hI_.2 230 0 _
  refine sm_T_ri rfl ⟨_, _, rfl, rfl, _, rfl, ?_⟩
  first | (refine ⟨⟨?_, ?_⟩, rfl⟩ <;> omega) | omega | (refine ⟨by omega, ?_⟩; omega)
/-! M_.toldNow -/
def vw_508 : sx_Wl := ([], [], [])
def vq_508 (c_ : Int) (g_ : Int) (S0_ : sm_S) (u_ : Option sm_V) (S1_ : sm_S) : Prop := S0_ = S1_ ∧ ∃ v_ : Int, u_ = some (.inl v_) ∧ (v_ = 0 ∨ v_ = 1)
set_option maxHeartbeats 400000 in
set_option maxRecDepth 20000 in
theorem vl_508 {sc_ : Nat × (Nat → Int)} (c_ : Int) (g_ : Int) (S0_ : sm_S) (hc_ : 0 ≤ c_ ∧ c_ ≤ 3) (hg_ : 0 ≤ g_ ∧ g_ ≤ 149) : ∀ nn_ : Nat, (∀ (s_ : Int) (k_ : Int) (S_ : sm_S), gi S_ → ai_fr (sx_W vw_508) S0_ S_ → ((0 ≤ k_ ∧ k_ ≤ 3) ∧ (0 ≤ s_ ∧ s_ < 2 ^ 3) ∧ (S_ = S0_) ∧ True) → ((10 - k_).toNat) < nn_ → sm_T (mt_P sc_) 1 508 (5, [some (.inr (.inr (some (13, 0)))), some (.inl c_), some (.inl g_), some (.inl s_), some (.inl k_)], [], S_) (fun ro9_ => ∃ u_ S1_, ro9_ = (.inl u_, S1_, 0) ∧ vq_508 c_ g_ S0_ u_ S1_)) := by
  intro nn_
  induction nn_ with
  | zero => exact fun _ _ _ _ _ _ h_ => absurd h_ (Nat.not_lt_zero _)
  | succ nn_ ih_ =>
    rintro s_ k_ S_ hI_ hF_ ⟨h0_, h1_, hS_, -⟩ hm_
    subst hS_
    refine sm_T_go 6 (c1 := (14, [some (.inr (.inr (some (13, 0)))), some (.inl c_), some (.inl g_), some (.inl s_), some (.inl k_)], [.inl g_, .inl c_, .inr (.inr (some (13, 0))), .inr (.inr (some (234, 0))), .inl k_], S_)) rfl ?_
    refine sm_T_cal (d1 := 0) (Q1 := vq_421 c_ g_ S_) rfl rfl (by decide) (vc_421 c_ g_ S_ hI_ (by omega) (by omega)) (fun u_ Sx1_ px4_ => ?_)
    obtain ⟨rfl, vx6_, rfl, px4_⟩ := px4_
    refine sm_T_iald (n := 48) rfl rfl (by omega) (by omega) ?_
    have bx7_ : 0 ≤ S_.2.2.1 234 0 vx6_.toNat ∧ S_.2.2.1 234 0 vx6_.toNat ≤ 3 := hI_.2 234 0 _
    refine sm_T_br (a := 3) (z := 30) rfl (fun cx8_ => ?_) (fun cx8_ => ?_)
    · have cx8_ : (S_.2.2.1 234 0 vx6_.toNat) ≤ k_ := of_decide_eq_true cx8_
      refine sm_T_go 5 (c1 := (55, [some (.inr (.inr (some (13, 0)))), some (.inl c_), some (.inl g_), some (.inl s_), some (.inl k_)], [.inl g_, .inl c_, .inr (.inr (some (13, 0))), .inr (.inr (some (235, 0)))], S_)) rfl ?_
      refine sm_T_cal (d1 := 0) (Q1 := vq_421 c_ g_ S_) rfl rfl (by decide) (vc_421 c_ g_ S_ hI_ (by omega) (by omega)) (fun u_ Sx9_ px12_ => ?_)
      obtain ⟨rfl, vx14_, rfl, px12_⟩ := px12_
      refine sm_T_iald (n := 48) rfl rfl (by omega) (by omega) ?_
      have bx15_ : 0 ≤ S_.2.2.1 235 0 vx14_.toNat ∧ S_.2.2.1 235 0 vx14_.toNat ≤ 255 := hI_.2 235 0 _
      refine sm_T_go 1 (c1 := (60, [some (.inr (.inr (some (13, 0)))), some (.inl c_), some (.inl g_), some (.inl s_), some (.inl k_)], [.inl s_, .inl (S_.2.2.1 235 0 vx14_.toNat)], S_)) rfl ?_
      refine sm_T_bin (w := (i_shr (S_.2.2.1 235 0 vx14_.toNat) s_)) rfl rfl ?_ -- pc_ 60
      have bx16_ := i_shr_p (x_ := (S_.2.2.1 235 0 vx14_.toNat)) (e_ := s_) (by omega) (by omega) (by omega)
      refine sm_T_go 1 (c1 := (62, [some (.inr (.inr (some (13, 0)))), some (.inl c_), some (.inl g_), some (.inl s_), some (.inl k_)], [.inl 1, .inl (i_shr (S_.2.2.1 235 0 vx14_.toNat) s_)], S_)) rfl ?_
      refine sm_T_bin (w := ((i_shr (S_.2.2.1 235 0 vx14_.toNat) s_) % 2)) rfl (bi_msk (k := 1) (by decide)) ?_ -- pc_ 62
      refine sm_T_go 1 (c1 := (64, [some (.inr (.inr (some (13, 0)))), some (.inl c_), some (.inl g_), some (.inl s_), some (.inl k_)], [.inl 1, .inl ((i_shr (S_.2.2.1 235 0 vx14_.toNat) s_) % 2)], S_)) rfl ?_
      refine sm_T_br (a := 1) (z := 7) rfl (fun cx17_ => ?_) (fun cx17_ => ?_)
      · have cx17_ : ((i_shr (S_.2.2.1 235 0 vx14_.toNat) s_) % 2) ≠ 1 := of_decide_eq_true cx17_
        refine sm_T_go 1 (c1 := (72, [some (.inr (.inr (some (13, 0)))), some (.inl c_), some (.inl g_), some (.inl s_), some (.inl k_)], [.inl 0], S_)) rfl ?_
        refine sm_T_rz rfl (by omega) ⟨_, _, rfl, (by first | rfl | exact hS_.symm), _, rfl, ?_⟩
        omega
      · have cx17_ : ¬ (((i_shr (S_.2.2.1 235 0 vx14_.toNat) s_) % 2) ≠ 1) := of_decide_eq_false cx17_
        refine sm_T_go 2 (c1 := (72, [some (.inr (.inr (some (13, 0)))), some (.inl c_), some (.inl g_), some (.inl s_), some (.inl k_)], [.inl 1], S_)) rfl ?_
        refine sm_T_rz rfl (by omega) ⟨_, _, rfl, (by first | rfl | exact hS_.symm), _, rfl, ?_⟩
        omega
    · have cx8_ : ¬ ((S_.2.2.1 234 0 vx6_.toNat) ≤ k_) := of_decide_eq_false cx8_
      refine sm_T_go 4 (c1 := (28, [some (.inr (.inr (some (13, 0)))), some (.inl c_), some (.inl g_), some (.inl s_), some (.inl k_)], [.inl k_, .inr (.inr (some (288, 0))), .inl s_], S_)) rfl ?_
      refine sm_T_zald (n := 3) rfl rfl (by omega) (by omega) ?_
      have bx18_ : 0 ≤ S_.2.2.1 288 0 k_.toNat ∧ S_.2.2.1 288 0 k_.toNat ≤ 1 := hI_.2 288 0 _
      refine sm_T_b0 (a := 0) (z := 10) rfl (fun cx19_ => ?_) (fun cx19_ => ?_)
      · have cx19_ : (S_.2.2.1 288 0 k_.toNat) = 0 := of_decide_eq_true cx19_
        refine sm_T_go 1 (c1 := (40, [some (.inr (.inr (some (13, 0)))), some (.inl c_), some (.inl g_), some (.inl s_), some (.inl k_)], [.inl 0, .inl s_], S_)) rfl ?_
        refine sm_T_bin (w := (i_or s_ 0)) rfl rfl ?_ -- pc_ 40
        have or9_ := i_orp (x_ := s_) (y_ := 0) (k_ := 3) (by decide) h1_ (by first | exact bs9_ | decide)
        refine sm_T_go 1 (c1 := (42, [some (.inr (.inr (some (13, 0)))), some (.inl c_), some (.inl g_), some (.inl (i_or s_ 0)), some (.inl k_)], [], S_)) rfl ?_
        refine sm_T_inc (a := 4) (z := 1) (v := k_) (w := k_ + 1) rfl rfl (by omega) (by omega) (by omega) ?_ -- pc_ 42
        refine sm_T_go 1 (c1 := (5, [some (.inr (.inr (some (13, 0)))), some (.inl c_), some (.inl g_), some (.inl (i_or s_ 0)), some (.inl (k_ + 1))], [], S_)) rfl ?_
        refine ih_ (i_or s_ 0) (k_ + 1) S_ hI_ hF_ ⟨?_, ?_, ?_, trivial⟩ ?_
        · omega
        · first | exact or9_ | omega
        · rfl
        · omega
      · have cx19_ : ¬ ((S_.2.2.1 288 0 k_.toNat) = 0) := of_decide_eq_false cx19_
        refine sm_T_go 2 (c1 := (35, [some (.inr (.inr (some (13, 0)))), some (.inl c_), some (.inl g_), some (.inl s_), some (.inl k_)], [.inl k_, .inl 1, .inl s_], S_)) rfl ?_
        refine sm_T_bin (w := (i_shl 1 k_)) rfl rfl ?_ -- pc_ 35
        have bx21_ := i_shl1 (e := k_) (by omega) (by omega)
        have bs9_ : 0 ≤ i_shl 1 k_ ∧ i_shl 1 k_ < 2 ^ 3 := bsh (k_ := 3) (Or.inr rfl) (show 0 ≤ k_ by omega) (by omega) (by decide)
        refine sm_T_go 1 (c1 := (40, [some (.inr (.inr (some (13, 0)))), some (.inl c_), some (.inl g_), some (.inl s_), some (.inl k_)], [.inl (i_shl 1 k_), .inl s_], S_)) rfl ?_
        refine sm_T_bin (w := (i_or s_ (i_shl 1 k_))) rfl rfl ?_ -- pc_ 40
        have or9_ := i_orp (x_ := s_) (y_ := (i_shl 1 k_)) (k_ := 3) (by decide) h1_ (by first | exact bs9_ | decide)
        refine sm_T_go 1 (c1 := (42, [some (.inr (.inr (some (13, 0)))), some (.inl c_), some (.inl g_), some (.inl (i_or s_ (i_shl 1 k_))), some (.inl k_)], [], S_)) rfl ?_
        refine sm_T_inc (a := 4) (z := 1) (v := k_) (w := k_ + 1) rfl rfl (by omega) (by omega) (by omega) ?_ -- pc_ 42
        refine sm_T_go 1 (c1 := (5, [some (.inr (.inr (some (13, 0)))), some (.inl c_), some (.inl g_), some (.inl (i_or s_ (i_shl 1 k_))), some (.inl (k_ + 1))], [], S_)) rfl ?_
        refine ih_ (i_or s_ (i_shl 1 k_)) (k_ + 1) S_ hI_ hF_ ⟨?_, ?_, ?_, trivial⟩ ?_
        · omega
        · first | exact or9_ | omega
        · rfl
        · omega
set_option maxHeartbeats 400000 in
set_option maxRecDepth 20000 in
theorem vc_508 {sc_ : Nat × (Nat → Int)} (c_ : Int) (g_ : Int) (S0_ : sm_S) (hI_ : gi S0_) (hc_ : 0 ≤ c_ ∧ c_ ≤ 3) (hg_ : 0 ≤ g_ ∧ g_ ≤ 149) : sm_T (mt_P sc_) 1 508 (0, [some (.inr (.inr (some (13, 0)))), some (.inl c_), some (.inl g_), none, none], [], S0_) (fun ro9_ => ∃ u_ S1_, ro9_ = (.inl u_, S1_, 0) ∧ vq_508 c_ g_ S0_ u_ S1_) := by
  have hF_ : ai_fr (sx_W vw_508) S0_ S0_ := ai_fr_rf
  refine sm_T_go 4 (c1 := (5, [some (.inr (.inr (some (13, 0)))), some (.inl c_), some (.inl g_), some (.inl 0), some (.inl 0)], [], S0_)) rfl ?_
  refine (vl_508 c_ g_ S0_ hc_ hg_ _) 0 0 S0_ hI_ hF_ ⟨?_, ?_, ?_, trivial⟩ (Nat.lt_succ_self _)
  · omega
  · decide
  · rfl
/-! M_.findChanges -/
def vw_509 : sx_Wl := ([(13, 214)], [285, 287, 288], [])
def vq_509 (c_ : Int) (g_ : Int) (n_ : Int) (S0_ : sm_S) (u_ : Option sm_V) (S1_ : sm_S) : Prop := u_ = none ∧ gi S1_ ∧ ai_fr (sx_W vw_509) S0_ S1_ ∧ (True)
set_option maxHeartbeats 4000000 in
set_option maxRecDepth 20000 in
theorem vl_509 {sc_ : Nat × (Nat → Int)} (c_ : Int) (g_ : Int) (n_ : Int) (S0_ : sm_S) (hc_ : 0 ≤ c_ ∧ c_ ≤ 3) (hg_ : cgt c_ S0_) (hgg_ : 0 ≤ g_ ∧ g_ < S0_.2.2.1 228 0 c_.toNat) (hn_ : 0 ≤ n_ ∧ n_ ≤ 167) (hx_ : S0_.2.2.1 223 0 c_.toNat + S0_.2.2.1 224 0 c_.toNat ≤ 12) : ∀ nn_ : Nat, (∀ (ip_ : Int) (k_ : Int) (S_ : sm_S), gi S_ → ai_fr (sx_W vw_509) S0_ S_ → ((ip_ = S0_.2.2.1 234 0 (12 * c_ + S0_.2.2.1 229 0 (150 * c_ + g_).toNat).toNat ∧ 0 ≤ k_ ∧ k_ ≤ 3 ∧ 0 ≤ ip_ ∧ ip_ ≤ 3) ∧ True) → ((90000000 - k_).toNat) < nn_ → sm_T (mt_P sc_) 2 509 (16, [some (.inr (.inr (some (13, 0)))), some (.inl c_), some (.inl g_), some (.inl n_), some (.inl ip_), some (.inl k_), none, none, none, none], [], S_) (fun ro9_ => ∃ u_ S1_, ro9_ = (.inl u_, S1_, 0) ∧ vq_509 c_ g_ n_ S0_ u_ S1_)) ∧ (∀ (ip_ : Int) (ha_ : Int) (mo_ : Int) (S_ : sm_S), gi S_ → ai_fr (sx_W vw_509) S0_ S_ → ((ip_ = S0_.2.2.1 234 0 (12 * c_ + S0_.2.2.1 229 0 (150 * c_ + g_).toNat).toNat ∧ 0 ≤ mo_ ∧ mo_ ≤ 1 ∧ 0 ≤ ip_ ∧ ip_ ≤ 3) ∧ True) → ((100 * cm3 S_ + 50 * mo_).toNat) < nn_ → sm_T (mt_P sc_) 2 509 (80, [some (.inr (.inr (some (13, 0)))), some (.inl c_), some (.inl g_), some (.inl n_), some (.inl ip_), some (.inl ha_), some (.inl mo_), none, none, none], [], S_) (fun ro9_ => ∃ u_ S1_, ro9_ = (.inl u_, S1_, 0) ∧ vq_509 c_ g_ n_ S0_ u_ S1_)) ∧ (∀ (ip_ : Int) (ha_ : Int) (t_ : Int) (k_ : Int) (S_ : sm_S), gi S_ → ai_fr (sx_W vw_509) S0_ S_ → ((ip_ = S0_.2.2.1 234 0 (12 * c_ + S0_.2.2.1 229 0 (150 * c_ + g_).toNat).toNat ∧ 0 ≤ k_ ∧ k_ ≤ 3 ∧ 0 ≤ ip_ ∧ ip_ ≤ 3 ∧ k_ ≤ ip_ ∧ -2147483648 ≤ t_ ∧ t_ ≤ 1000000000 ∧ S_.1 13 0 214 ≤ 20000) ∧ (t_ = 1000000000 ∨ fc1 S_ c_ g_ t_ 0 k_) ∧ True) → ((100 * cm3 S_ + 40 - k_).toNat) < nn_ → sm_T (mt_P sc_) 2 509 (103, [some (.inr (.inr (some (13, 0)))), some (.inl c_), some (.inl g_), some (.inl n_), some (.inl ip_), some (.inl ha_), none, some (.inl t_), some (.inl k_), none], [], S_) (fun ro9_ => ∃ u_ S1_, ro9_ = (.inl u_, S1_, 0) ∧ vq_509 c_ g_ n_ S0_ u_ S1_)) ∧ (∀ (ip_ : Int) (ha_ : Int) (mo_ : Int) (t_ : Int) (k_ : Int) (p0_ : Int) (S_ : sm_S), gi S_ → ai_fr (sx_W vw_509) S0_ S_ → ((ip_ = S0_.2.2.1 234 0 (12 * c_ + S0_.2.2.1 229 0 (150 * c_ + g_).toNat).toNat ∧ 0 ≤ k_ ∧ k_ ≤ 3 ∧ 0 ≤ ip_ ∧ ip_ ≤ 3 ∧ -2147483648 ≤ t_ ∧ t_ ≤ 1000000000 ∧ 0 ≤ mo_ ∧ mo_ ≤ 1 ∧ S_.1 13 0 214 ≤ 20000 ∧ cm3 S_ ≤ p0_) ∧ (cm3 S_ < p0_ ∨ mo_ = 0 ∨ fc1 S_ c_ g_ t_ k_ ip_) ∧ True) → ((100 * p0_ + 20 - k_).toNat) < nn_ → sm_T (mt_P sc_) 2 509 (207, [some (.inr (.inr (some (13, 0)))), some (.inl c_), some (.inl g_), some (.inl n_), some (.inl ip_), some (.inl ha_), some (.inl mo_), some (.inl t_), some (.inl k_), none], [], S_) (fun ro9_ => ∃ u_ S1_, ro9_ = (.inl u_, S1_, 0) ∧ vq_509 c_ g_ n_ S0_ u_ S1_)) := by
  intro nn_
  induction nn_ with
  | zero => exact ⟨fun _ _ _ _ _ _ h_ => absurd h_ (Nat.not_lt_zero _), fun _ _ _ _ _ _ _ h_ => absurd h_ (Nat.not_lt_zero _), fun _ _ _ _ _ _ _ _ h_ => absurd h_ (Nat.not_lt_zero _), fun _ _ _ _ _ _ _ _ _ _ h_ => absurd h_ (Nat.not_lt_zero _)⟩
  | succ nn_ ih_ =>
    refine ⟨?_, ?_, ?_, ?_⟩
    · rintro ip_ k_ S_ hI_ hF_ ⟨h0_, -⟩ hm_
      have f223_ : S_.2.2.1 223 0 = S0_.2.2.1 223 0 := fr_arr hF_ rfl
      have f224_ : S_.2.2.1 224 0 = S0_.2.2.1 224 0 := fr_arr hF_ rfl
      have f228_ : S_.2.2.1 228 0 = S0_.2.2.1 228 0 := fr_arr hF_ rfl
      have f229_ : S_.2.2.1 229 0 = S0_.2.2.1 229 0 := fr_arr hF_ rfl
      have f230_ : S_.2.2.1 230 0 = S0_.2.2.1 230 0 := fr_arr hF_ rfl
      have f234_ : S_.2.2.1 234 0 = S0_.2.2.1 234 0 := fr_arr hF_ rfl
      have f286_ : S_.2.2.1 286 0 = S0_.2.2.1 286 0 := fr_arr hF_ rfl
      have x223_ : S_.2.2.1 223 0 c_.toNat = S0_.2.2.1 223 0 c_.toNat := congrFun f223_ _
      have x224_ : S_.2.2.1 224 0 c_.toNat = S0_.2.2.1 224 0 c_.toNat := congrFun f224_ _
      have x228_ : S_.2.2.1 228 0 c_.toNat = S0_.2.2.1 228 0 c_.toNat := congrFun f228_ _
      have cA_ : 0 ≤ S_.2.2.1 223 0 c_.toNat ∧ S_.2.2.1 223 0 c_.toNat ≤ 12 := hI_.2 223 0 _
      have cB_ : 0 ≤ S_.2.2.1 224 0 c_.toNat ∧ S_.2.2.1 224 0 c_.toNat ≤ 6 := hI_.2 224 0 _
      have cG_ : 0 ≤ S_.2.2.1 228 0 c_.toNat ∧ S_.2.2.1 228 0 c_.toNat ≤ 150 := hI_.2 228 0 _
      have hg9_ := cgt_fr hc_.1 hI_ hg_ hF_
      refine sm_T_go 2 (c1 := (20, [some (.inr (.inr (some (13, 0)))), some (.inl c_), some (.inl g_), some (.inl n_), some (.inl ip_), some (.inl k_), none, none, none, none], [.inl ip_, .inl k_], S_)) rfl ?_
      refine sm_T_br (a := 3) (z := 49) rfl (fun cx1_ => ?_) (fun cx1_ => ?_)
      · have cx1_ : ip_ ≤ k_ := of_decide_eq_true cx1_
        refine sm_T_go 3 (c1 := (74, [some (.inr (.inr (some (13, 0)))), some (.inl c_), some (.inl g_), some (.inl n_), some (.inl ip_), some (.inl k_), none, none, none, none], [.inl n_, .inr (.inr (some (284, 0)))], S_)) rfl ?_
        refine sm_T_zald (n := 256) rfl rfl (by omega) (by omega) ?_
        have bx2_ : 0 ≤ S_.2.2.1 284 0 n_.toNat ∧ S_.2.2.1 284 0 n_.toNat ≤ 1 := hI_.2 284 0 _
        refine sm_T_go 3 (c1 := (80, [some (.inr (.inr (some (13, 0)))), some (.inl c_), some (.inl g_), some (.inl n_), some (.inl ip_), some (.inl (S_.2.2.1 284 0 n_.toNat)), some (.inl 1), none, none, none], [], S_)) rfl ?_
        refine ih_.2.1 ip_ (S_.2.2.1 284 0 n_.toNat) 1 S_ hI_ hF_ ⟨?_, trivial⟩ ?_
        · omega
        · (have m8_ := cm3_b hI_; omega)
      · have cx1_ : ¬ (ip_ ≤ k_) := of_decide_eq_false cx1_
        have G9_ := hg9_ g_ (by omega) (by omega) k_ (by omega) (by omega) (Or.inr (by rw [f234_, f229_]; omega))
        refine sm_T_go 9 (c1 := (38, [some (.inr (.inr (some (13, 0)))), some (.inl c_), some (.inl g_), some (.inl n_), some (.inl ip_), some (.inl k_), none, none, none, none], [.inl k_, .inl g_, .inl c_, .inr (.inr (some (13, 0))), .inr (.inr (some (286, 0))), .inl k_, .inr (.inr (some (287, 0)))], S_)) rfl ?_
        refine sm_T_cal (d1 := 0) (Q1 := vq_507 c_ g_ k_ S_) rfl rfl (by decide) (vc_507 c_ g_ k_ S_ hI_ (by omega) (by omega) (by omega)) (fun u_ Sx3_ px6_ => ?_)
        obtain ⟨rfl, vx8_, rfl, px6_⟩ := px6_
        have e38_ := px6_
        have z38_ : vx8_ = S_.2.2.1 230 0 (450 * c_ + 3 * g_ + k_).toNat := by (have w9_ := e38_.2; (try simp only [rd_eq, rd_ne, rf_eq, rf_nk, rf_nt, rd_fa, rd_af, rd_fl, rd_al, rd_lf, rd_la, rd_leq, rd_lne, rd_fr, rd_ar, ne_eq, Nat.reduceEqDiff, not_false_eq_true] at *); exact w9_)
        refine sm_T_iald (n := 257) rfl rfl (by omega) (by omega) ?_
        have bx9_ : 0 ≤ S_.2.2.1 286 0 vx8_.toNat ∧ S_.2.2.1 286 0 vx8_.toNat ≤ 20010 := hI_.2 286 0 _
        refine sm_T_iast (n := 3) rfl rfl (by omega) (by omega) ?_
        have hIx10_ : gi (sm_aI S_ 287 0 k_.toNat (S_.2.2.1 286 0 vx8_.toNat)) := gi_aI hI_ (show 0 ≤ (S_.2.2.1 286 0 vx8_.toNat) ∧ (S_.2.2.1 286 0 vx8_.toNat) ≤ 20010 from ⟨by omega, by omega⟩)
        have hFx11_ : ai_fr (sx_W vw_509) S0_ (sm_aI S_ 287 0 k_.toNat (S_.2.2.1 286 0 vx8_.toNat)) := ai_fr_tr hF_ (ai_fr_aI rfl)
        refine sm_T_go 9 (c1 := (58, [some (.inr (.inr (some (13, 0)))), some (.inl c_), some (.inl g_), some (.inl n_), some (.inl ip_), some (.inl k_), none, none, none, none], [.inl k_, .inl g_, .inl c_, .inr (.inr (some (13, 0))), .inr (.inr (some (284, 0))), .inl k_, .inr (.inr (some (288, 0)))], sm_aI S_ 287 0 k_.toNat (S_.2.2.1 286 0 vx8_.toNat))) rfl ?_
        refine sm_T_cal (d1 := 0) (Q1 := vq_507 c_ g_ k_ (sm_aI S_ 287 0 k_.toNat (S_.2.2.1 286 0 vx8_.toNat))) rfl rfl (by decide) (vc_507 c_ g_ k_ (sm_aI S_ 287 0 k_.toNat (S_.2.2.1 286 0 vx8_.toNat)) hIx10_ (by omega) (by omega) (by omega)) (fun u_ Sx12_ px15_ => ?_)
        obtain ⟨rfl, vx17_, rfl, px15_⟩ := px15_
        have e58_ := px15_
        have z58_ : vx17_ = S_.2.2.1 230 0 (450 * c_ + 3 * g_ + k_).toNat := by (have w9_ := e58_.2; (try simp only [rd_eq, rd_ne, rf_eq, rf_nk, rf_nt, rd_fa, rd_af, rd_fl, rd_al, rd_lf, rd_la, rd_leq, rd_lne, rd_fr, rd_ar, ne_eq, Nat.reduceEqDiff, not_false_eq_true] at *); exact w9_)
        refine sm_T_zald (n := 256) rfl rfl (by omega) (by omega) ?_
        have bx18_ : 0 ≤ S_.2.2.1 284 0 vx17_.toNat ∧ S_.2.2.1 284 0 vx17_.toNat ≤ 1 := hI_.2 284 0 _
        refine sm_T_go 0 (c1 := (62, [some (.inr (.inr (some (13, 0)))), some (.inl c_), some (.inl g_), some (.inl n_), some (.inl ip_), some (.inl k_), none, none, none, none], [.inl (S_.2.2.1 284 0 vx17_.toNat), .inl k_, .inr (.inr (some (288, 0)))], sm_aI S_ 287 0 k_.toNat (S_.2.2.1 286 0 vx8_.toNat))) rfl ?_
        refine sm_T_zas1 (n := 3) rfl rfl (by omega) (by omega) (by omega) ?_
        have hIx19_ : gi (sm_aI (sm_aI S_ 287 0 k_.toNat (S_.2.2.1 286 0 vx8_.toNat)) 288 0 k_.toNat (S_.2.2.1 284 0 vx17_.toNat)) := gi_aI hIx10_ (show 0 ≤ (S_.2.2.1 284 0 vx17_.toNat) ∧ (S_.2.2.1 284 0 vx17_.toNat) ≤ 1 from ⟨by omega, by omega⟩)
        have hFx20_ : ai_fr (sx_W vw_509) S0_ (sm_aI (sm_aI S_ 287 0 k_.toNat (S_.2.2.1 286 0 vx8_.toNat)) 288 0 k_.toNat (S_.2.2.1 284 0 vx17_.toNat)) := ai_fr_tr hFx11_ (ai_fr_aI rfl)
        refine sm_T_inc (a := 5) (z := 1) (v := k_) (w := k_ + 1) rfl rfl (by omega) (by omega) (by omega) ?_ -- pc_ 63
        refine sm_T_go 1 (c1 := (16, [some (.inr (.inr (some (13, 0)))), some (.inl c_), some (.inl g_), some (.inl n_), some (.inl ip_), some (.inl (k_ + 1)), none, none, none, none], [], sm_aI (sm_aI S_ 287 0 k_.toNat (S_.2.2.1 286 0 vx8_.toNat)) 288 0 k_.toNat (S_.2.2.1 284 0 vx17_.toNat))) rfl ?_
        refine ih_.1 ip_ (k_ + 1) (sm_aI (sm_aI S_ 287 0 k_.toNat (S_.2.2.1 286 0 vx8_.toNat)) 288 0 k_.toNat (S_.2.2.1 284 0 vx17_.toNat)) hIx19_ hFx20_ ⟨?_, trivial⟩ ?_
        · omega
        · omega
    · rintro ip_ ha_ mo_ S_ hI_ hF_ ⟨h0_, -⟩ hm_
      have f223_ : S_.2.2.1 223 0 = S0_.2.2.1 223 0 := fr_arr hF_ rfl
      have f224_ : S_.2.2.1 224 0 = S0_.2.2.1 224 0 := fr_arr hF_ rfl
      have f228_ : S_.2.2.1 228 0 = S0_.2.2.1 228 0 := fr_arr hF_ rfl
      have f229_ : S_.2.2.1 229 0 = S0_.2.2.1 229 0 := fr_arr hF_ rfl
      have f230_ : S_.2.2.1 230 0 = S0_.2.2.1 230 0 := fr_arr hF_ rfl
      have f234_ : S_.2.2.1 234 0 = S0_.2.2.1 234 0 := fr_arr hF_ rfl
      have f286_ : S_.2.2.1 286 0 = S0_.2.2.1 286 0 := fr_arr hF_ rfl
      have x223_ : S_.2.2.1 223 0 c_.toNat = S0_.2.2.1 223 0 c_.toNat := congrFun f223_ _
      have x224_ : S_.2.2.1 224 0 c_.toNat = S0_.2.2.1 224 0 c_.toNat := congrFun f224_ _
      have x228_ : S_.2.2.1 228 0 c_.toNat = S0_.2.2.1 228 0 c_.toNat := congrFun f228_ _
      have cA_ : 0 ≤ S_.2.2.1 223 0 c_.toNat ∧ S_.2.2.1 223 0 c_.toNat ≤ 12 := hI_.2 223 0 _
      have cB_ : 0 ≤ S_.2.2.1 224 0 c_.toNat ∧ S_.2.2.1 224 0 c_.toNat ≤ 6 := hI_.2 224 0 _
      have cG_ : 0 ≤ S_.2.2.1 228 0 c_.toNat ∧ S_.2.2.1 228 0 c_.toNat ≤ 150 := hI_.2 228 0 _
      have hg9_ := cgt_fr hc_.1 hI_ hg_ hF_
      have m9_ := cm3_b hI_
      refine sm_T_go 1 (c1 := (82, [some (.inr (.inr (some (13, 0)))), some (.inl c_), some (.inl g_), some (.inl n_), some (.inl ip_), some (.inl ha_), some (.inl mo_), none, none, none], [.inl mo_], S_)) rfl ?_
      refine sm_T_b0 (a := 0) (z := 277) rfl (fun cx1_ => ?_) (fun cx1_ => ?_)
      · have cx1_ : mo_ = 0 := of_decide_eq_true cx1_
        refine sm_T_rv rfl ⟨_, _, rfl, rfl, hI_, hF_, ?_⟩
        trivial
      · have cx1_ : ¬ (mo_ = 0) := of_decide_eq_false cx1_
        have bx2_ : 0 ≤ S_.1 13 0 214 ∧ S_.1 13 0 214 ≤ 20001 := hI_.1 13 0 214 rfl
        refine sm_T_go 3 (c1 := (92, [some (.inr (.inr (some (13, 0)))), some (.inl c_), some (.inl g_), some (.inl n_), some (.inl ip_), some (.inl ha_), some (.inl mo_), none, none, none], [.inl 20000, .inl (S_.1 13 0 214)], S_)) rfl ?_
        refine sm_T_br (a := 4) (z := 267) rfl (fun cx3_ => ?_) (fun cx3_ => ?_)
        · have cx3_ : 20000 < (S_.1 13 0 214) := of_decide_eq_true cx3_
          refine sm_T_rv rfl ⟨_, _, rfl, rfl, hI_, hF_, ?_⟩
          trivial
        · have cx3_ : ¬ (20000 < (S_.1 13 0 214)) := of_decide_eq_false cx3_
          refine sm_T_nt (u := some (.inl 1000000000)) (S1 := S_) rfl rfl rfl ?_
          refine sm_T_go 3 (c1 := (103, [some (.inr (.inr (some (13, 0)))), some (.inl c_), some (.inl g_), some (.inl n_), some (.inl ip_), some (.inl ha_), some (.inl mo_), some (.inl 1000000000), some (.inl 0), none], [], S_)) rfl ?_
          refine sm_T_wk [some (.inr (.inr (some (13, 0)))), some (.inl c_), some (.inl g_), some (.inl n_), some (.inl ip_), some (.inl ha_), none, some (.inl 1000000000), some (.inl 0), none] (by exact ⟨rfl, rfl, rfl, rfl, rfl, rfl, rfl, rfl, trivial⟩) ?_
          refine ih_.2.2.1 ip_ ha_ 1000000000 0 S_ hI_ hF_ ⟨?_, ?_, trivial⟩ ?_
          · (have w9_ : 0 ≤ S_.2.2.1 234 0 (12 * c_ + S_.2.2.1 229 0 (150 * c_ + g_).toNat).toNat ∧ S_.2.2.1 234 0 (12 * c_ + S_.2.2.1 229 0 (150 * c_ + g_).toNat).toNat ≤ 3 := hI_.2 234 0 _; rw [f234_, f229_] at w9_; omega)
          · exact Or.inl rfl
          · omega
    · rintro ip_ ha_ t_ k_ S_ hI_ hF_ ⟨h0_, hw_, -⟩ hm_
      have f223_ : S_.2.2.1 223 0 = S0_.2.2.1 223 0 := fr_arr hF_ rfl
      have f224_ : S_.2.2.1 224 0 = S0_.2.2.1 224 0 := fr_arr hF_ rfl
      have f228_ : S_.2.2.1 228 0 = S0_.2.2.1 228 0 := fr_arr hF_ rfl
      have f229_ : S_.2.2.1 229 0 = S0_.2.2.1 229 0 := fr_arr hF_ rfl
      have f230_ : S_.2.2.1 230 0 = S0_.2.2.1 230 0 := fr_arr hF_ rfl
      have f234_ : S_.2.2.1 234 0 = S0_.2.2.1 234 0 := fr_arr hF_ rfl
      have f286_ : S_.2.2.1 286 0 = S0_.2.2.1 286 0 := fr_arr hF_ rfl
      have x223_ : S_.2.2.1 223 0 c_.toNat = S0_.2.2.1 223 0 c_.toNat := congrFun f223_ _
      have x224_ : S_.2.2.1 224 0 c_.toNat = S0_.2.2.1 224 0 c_.toNat := congrFun f224_ _
      have x228_ : S_.2.2.1 228 0 c_.toNat = S0_.2.2.1 228 0 c_.toNat := congrFun f228_ _
      have cA_ : 0 ≤ S_.2.2.1 223 0 c_.toNat ∧ S_.2.2.1 223 0 c_.toNat ≤ 12 := hI_.2 223 0 _
      have cB_ : 0 ≤ S_.2.2.1 224 0 c_.toNat ∧ S_.2.2.1 224 0 c_.toNat ≤ 6 := hI_.2 224 0 _
      have cG_ : 0 ≤ S_.2.2.1 228 0 c_.toNat ∧ S_.2.2.1 228 0 c_.toNat ≤ 150 := hI_.2 228 0 _
      have hg9_ := cgt_fr hc_.1 hI_ hg_ hF_
      have m9_ := cm3_b hI_
      refine sm_T_go 2 (c1 := (107, [some (.inr (.inr (some (13, 0)))), some (.inl c_), some (.inl g_), some (.inl n_), some (.inl ip_), some (.inl ha_), none, some (.inl t_), some (.inl k_), none], [.inl ip_, .inl k_], S_)) rfl ?_
      refine sm_T_br (a := 3) (z := 82) rfl (fun cx1_ => ?_) (fun cx1_ => ?_)
      · have cx1_ : ip_ ≤ k_ := of_decide_eq_true cx1_
        refine sm_T_go 1 (c1 := (191, [some (.inr (.inr (some (13, 0)))), some (.inl c_), some (.inl g_), some (.inl n_), some (.inl ip_), some (.inl ha_), none, some (.inl t_), some (.inl k_), none], [.inl t_], S_)) rfl ?_
        refine sm_T_nt (u := some (.inl 1000000000)) (S1 := S_) rfl rfl rfl ?_
        refine sm_T_br (a := 3) (z := 7) rfl (fun cx2_ => ?_) (fun cx2_ => ?_)
        · have cx2_ : 1000000000 ≤ t_ := of_decide_eq_true cx2_
          refine sm_T_go 4 (c1 := (207, [some (.inr (.inr (some (13, 0)))), some (.inl c_), some (.inl g_), some (.inl n_), some (.inl ip_), some (.inl ha_), some (.inl 0), some (.inl t_), some (.inl 0), none], [], S_)) rfl ?_
          refine ih_.2.2.2 ip_ ha_ 0 t_ 0 (cm3 S_) S_ hI_ hF_ ⟨?_, ?_, trivial⟩ ?_
          · omega
          · first | exact Or.inr (Or.inl rfl) | (right; right; rcases hw_ with y9_ | y9_; (exfalso; omega); (obtain ⟨j9_, a9_, b9_, c9_⟩ := y9_; exact ⟨j9_, a9_, by omega, c9_⟩))
          · omega
        · have cx2_ : ¬ (1000000000 ≤ t_) := of_decide_eq_false cx2_
          refine sm_T_go 5 (c1 := (207, [some (.inr (.inr (some (13, 0)))), some (.inl c_), some (.inl g_), some (.inl n_), some (.inl ip_), some (.inl ha_), some (.inl 1), some (.inl t_), some (.inl 0), none], [], S_)) rfl ?_
          refine ih_.2.2.2 ip_ ha_ 1 t_ 0 (cm3 S_) S_ hI_ hF_ ⟨?_, ?_, trivial⟩ ?_
          · omega
          · first | exact Or.inr (Or.inl rfl) | (right; right; rcases hw_ with y9_ | y9_; (exfalso; omega); (obtain ⟨j9_, a9_, b9_, c9_⟩ := y9_; exact ⟨j9_, a9_, by omega, c9_⟩))
          · omega
      · have cx1_ : ¬ (ip_ ≤ k_) := of_decide_eq_false cx1_
        have G9_ := hg9_ g_ (by omega) (by omega) k_ (by omega) (by omega) (Or.inr (by rw [f234_, f229_]; omega))
        refine sm_T_go 3 (c1 := (116, [some (.inr (.inr (some (13, 0)))), some (.inl c_), some (.inl g_), some (.inl n_), some (.inl ip_), some (.inl ha_), none, some (.inl t_), some (.inl k_), none], [.inl k_, .inr (.inr (some (287, 0)))], S_)) rfl ?_
        refine sm_T_iald (n := 3) rfl rfl (by omega) (by omega) ?_
        have bx3_ : 0 ≤ S_.2.2.1 287 0 k_.toNat ∧ S_.2.2.1 287 0 k_.toNat ≤ 20010 := hI_.2 287 0 _
        refine sm_T_go 6 (c1 := (126, [some (.inr (.inr (some (13, 0)))), some (.inl c_), some (.inl g_), some (.inl n_), some (.inl ip_), some (.inl ha_), none, some (.inl t_), some (.inl k_), none], [.inl k_, .inl g_, .inl c_, .inr (.inr (some (13, 0))), .inr (.inr (some (286, 0))), .inl (S_.2.2.1 287 0 k_.toNat)], S_)) rfl ?_
        refine sm_T_cal (d1 := 0) (Q1 := vq_507 c_ g_ k_ S_) rfl rfl (by decide) (vc_507 c_ g_ k_ S_ hI_ (by omega) (by omega) (by omega)) (fun u_ Sx4_ px7_ => ?_)
        obtain ⟨rfl, vx9_, rfl, px7_⟩ := px7_
        have e126_ := px7_
        have z126_ : vx9_ = S_.2.2.1 230 0 (450 * c_ + 3 * g_ + k_).toNat := by (have w9_ := e126_.2; (try simp only [rd_eq, rd_ne, rf_eq, rf_nk, rf_nt, rd_fa, rd_af, rd_fl, rd_al, rd_lf, rd_la, rd_leq, rd_lne, rd_fr, rd_ar, ne_eq, Nat.reduceEqDiff, not_false_eq_true] at *); exact w9_)
        refine sm_T_go 1 (c1 := (130, [some (.inr (.inr (some (13, 0)))), some (.inl c_), some (.inl g_), some (.inl n_), some (.inl ip_), some (.inl ha_), none, some (.inl t_), some (.inl k_), none], [.inl 1, .inl vx9_, .inr (.inr (some (286, 0))), .inl (S_.2.2.1 287 0 k_.toNat)], S_)) rfl ?_
        refine sm_T_bin (w := vx9_ + 1) rfl (bi_add (by omega) (by omega) (by omega)) ?_ -- pc_ 130
        refine sm_T_iald (n := 257) rfl rfl (by omega) (by omega) ?_
        have bx10_ : 0 ≤ S_.2.2.1 286 0 (vx9_ + 1).toNat ∧ S_.2.2.1 286 0 (vx9_ + 1).toNat ≤ 20010 := hI_.2 286 0 _
        refine sm_T_br (a := 3) (z := 7) rfl (fun cx11_ => ?_) (fun cx11_ => ?_)
        · have cx11_ : (S_.2.2.1 286 0 (vx9_ + 1).toNat) ≤ (S_.2.2.1 287 0 k_.toNat) := of_decide_eq_true cx11_
          refine sm_T_go 6 (c1 := (183, [some (.inr (.inr (some (13, 0)))), some (.inl c_), some (.inl g_), some (.inl n_), some (.inl ip_), some (.inl ha_), none, some (.inl t_), some (.inl k_), some (.inl 0)], [], S_)) rfl ?_
          refine sm_T_inc (a := 8) (z := 1) (v := k_) (w := k_ + 1) rfl rfl (by omega) (by omega) (by omega) ?_ -- pc_ 183
          refine sm_T_go 1 (c1 := (103, [some (.inr (.inr (some (13, 0)))), some (.inl c_), some (.inl g_), some (.inl n_), some (.inl ip_), some (.inl ha_), none, some (.inl t_), some (.inl (k_ + 1)), some (.inl 0)], [], S_)) rfl ?_
          refine sm_T_wk [some (.inr (.inr (some (13, 0)))), some (.inl c_), some (.inl g_), some (.inl n_), some (.inl ip_), some (.inl ha_), none, some (.inl t_), some (.inl (k_ + 1)), none] (by exact ⟨rfl, rfl, rfl, rfl, rfl, rfl, rfl, rfl, trivial⟩) ?_
          refine ih_.2.2.1 ip_ ha_ t_ (k_ + 1) S_ hI_ hF_ ⟨?_, ?_, trivial⟩ ?_
          · omega
          · first | (right; exact ⟨k_, by omega, by omega, by (refine ⟨?_, rfl⟩; rw [← z126_]; omega)⟩) | (rcases hw_ with y9_ | y9_; exact Or.inl y9_; (right; obtain ⟨j9_, a9_, b9_, c9_⟩ := y9_; exact ⟨j9_, a9_, by omega, c9_⟩))
          · omega
        · have cx11_ : ¬ ((S_.2.2.1 286 0 (vx9_ + 1).toNat) ≤ (S_.2.2.1 287 0 k_.toNat)) := of_decide_eq_false cx11_
          refine sm_T_go 10 (c1 := (157, [some (.inr (.inr (some (13, 0)))), some (.inl c_), some (.inl g_), some (.inl n_), some (.inl ip_), some (.inl ha_), none, some (.inl t_), some (.inl k_), some (.inl 1)], [.inl k_, .inr (.inr (some (287, 0))), .inr (.inr (some (285, 0)))], S_)) rfl ?_
          refine sm_T_iald (n := 3) rfl rfl (by omega) (by omega) ?_
          refine sm_T_iald (n := 20010) rfl rfl (by omega) (by omega) ?_
          have bx12_ : (-2147483648) ≤ S_.2.2.1 285 0 (S_.2.2.1 287 0 k_.toNat).toNat ∧ S_.2.2.1 285 0 (S_.2.2.1 287 0 k_.toNat).toNat ≤ 2147483647 := hI_.2 285 0 _
          refine sm_T_go 1 (c1 := (161, [some (.inr (.inr (some (13, 0)))), some (.inl c_), some (.inl g_), some (.inl n_), some (.inl ip_), some (.inl ha_), none, some (.inl t_), some (.inl k_), some (.inl 1)], [.inl t_, .inl (S_.2.2.1 285 0 (S_.2.2.1 287 0 k_.toNat).toNat)], S_)) rfl ?_
          refine sm_T_br (a := 3) (z := 18) rfl (fun cx13_ => ?_) (fun cx13_ => ?_)
          · have cx13_ : t_ ≤ (S_.2.2.1 285 0 (S_.2.2.1 287 0 k_.toNat).toNat) := of_decide_eq_true cx13_
            refine sm_T_go 2 (c1 := (183, [some (.inr (.inr (some (13, 0)))), some (.inl c_), some (.inl g_), some (.inl n_), some (.inl ip_), some (.inl ha_), none, some (.inl t_), some (.inl k_), some (.inl 1)], [], S_)) rfl ?_
            refine sm_T_inc (a := 8) (z := 1) (v := k_) (w := k_ + 1) rfl rfl (by omega) (by omega) (by omega) ?_ -- pc_ 183
            refine sm_T_go 1 (c1 := (103, [some (.inr (.inr (some (13, 0)))), some (.inl c_), some (.inl g_), some (.inl n_), some (.inl ip_), some (.inl ha_), none, some (.inl t_), some (.inl (k_ + 1)), some (.inl 1)], [], S_)) rfl ?_
            refine sm_T_wk [some (.inr (.inr (some (13, 0)))), some (.inl c_), some (.inl g_), some (.inl n_), some (.inl ip_), some (.inl ha_), none, some (.inl t_), some (.inl (k_ + 1)), none] (by exact ⟨rfl, rfl, rfl, rfl, rfl, rfl, rfl, rfl, trivial⟩) ?_
            refine ih_.2.2.1 ip_ ha_ t_ (k_ + 1) S_ hI_ hF_ ⟨?_, ?_, trivial⟩ ?_
            · omega
            · first | (right; exact ⟨k_, by omega, by omega, by (refine ⟨?_, rfl⟩; rw [← z126_]; omega)⟩) | (rcases hw_ with y9_ | y9_; exact Or.inl y9_; (right; obtain ⟨j9_, a9_, b9_, c9_⟩ := y9_; exact ⟨j9_, a9_, by omega, c9_⟩))
            · omega
          · have cx13_ : ¬ (t_ ≤ (S_.2.2.1 285 0 (S_.2.2.1 287 0 k_.toNat).toNat)) := of_decide_eq_false cx13_
            refine sm_T_go 5 (c1 := (174, [some (.inr (.inr (some (13, 0)))), some (.inl c_), some (.inl g_), some (.inl n_), some (.inl ip_), some (.inl ha_), none, some (.inl t_), some (.inl k_), some (.inl 1)], [.inl k_, .inr (.inr (some (287, 0))), .inr (.inr (some (285, 0)))], S_)) rfl ?_
            refine sm_T_iald (n := 3) rfl rfl (by omega) (by omega) ?_
            refine sm_T_iald (n := 20010) rfl rfl (by omega) (by omega) ?_
            refine sm_T_go 2 (c1 := (183, [some (.inr (.inr (some (13, 0)))), some (.inl c_), some (.inl g_), some (.inl n_), some (.inl ip_), some (.inl ha_), none, some (.inl (S_.2.2.1 285 0 (S_.2.2.1 287 0 k_.toNat).toNat)), some (.inl k_), some (.inl 1)], [], S_)) rfl ?_
            refine sm_T_inc (a := 8) (z := 1) (v := k_) (w := k_ + 1) rfl rfl (by omega) (by omega) (by omega) ?_ -- pc_ 183
            refine sm_T_go 1 (c1 := (103, [some (.inr (.inr (some (13, 0)))), some (.inl c_), some (.inl g_), some (.inl n_), some (.inl ip_), some (.inl ha_), none, some (.inl (S_.2.2.1 285 0 (S_.2.2.1 287 0 k_.toNat).toNat)), some (.inl (k_ + 1)), some (.inl 1)], [], S_)) rfl ?_
            refine sm_T_wk [some (.inr (.inr (some (13, 0)))), some (.inl c_), some (.inl g_), some (.inl n_), some (.inl ip_), some (.inl ha_), none, some (.inl (S_.2.2.1 285 0 (S_.2.2.1 287 0 k_.toNat).toNat)), some (.inl (k_ + 1)), none] (by exact ⟨rfl, rfl, rfl, rfl, rfl, rfl, rfl, rfl, trivial⟩) ?_
            refine ih_.2.2.1 ip_ ha_ (S_.2.2.1 285 0 (S_.2.2.1 287 0 k_.toNat).toNat) (k_ + 1) S_ hI_ hF_ ⟨?_, ?_, trivial⟩ ?_
            · omega
            · first | (right; exact ⟨k_, by omega, by omega, by (refine ⟨?_, rfl⟩; rw [← z126_]; omega)⟩) | (rcases hw_ with y9_ | y9_; exact Or.inl y9_; (right; obtain ⟨j9_, a9_, b9_, c9_⟩ := y9_; exact ⟨j9_, a9_, by omega, c9_⟩))
            · omega
    · rintro ip_ ha_ mo_ t_ k_ p0_ S_ hI_ hF_ ⟨h0_, hw_, -⟩ hm_
      have f223_ : S_.2.2.1 223 0 = S0_.2.2.1 223 0 := fr_arr hF_ rfl
      have f224_ : S_.2.2.1 224 0 = S0_.2.2.1 224 0 := fr_arr hF_ rfl
      have f228_ : S_.2.2.1 228 0 = S0_.2.2.1 228 0 := fr_arr hF_ rfl
      have f229_ : S_.2.2.1 229 0 = S0_.2.2.1 229 0 := fr_arr hF_ rfl
      have f230_ : S_.2.2.1 230 0 = S0_.2.2.1 230 0 := fr_arr hF_ rfl
      have f234_ : S_.2.2.1 234 0 = S0_.2.2.1 234 0 := fr_arr hF_ rfl
      have f286_ : S_.2.2.1 286 0 = S0_.2.2.1 286 0 := fr_arr hF_ rfl
      have x223_ : S_.2.2.1 223 0 c_.toNat = S0_.2.2.1 223 0 c_.toNat := congrFun f223_ _
      have x224_ : S_.2.2.1 224 0 c_.toNat = S0_.2.2.1 224 0 c_.toNat := congrFun f224_ _
      have x228_ : S_.2.2.1 228 0 c_.toNat = S0_.2.2.1 228 0 c_.toNat := congrFun f228_ _
      have cA_ : 0 ≤ S_.2.2.1 223 0 c_.toNat ∧ S_.2.2.1 223 0 c_.toNat ≤ 12 := hI_.2 223 0 _
      have cB_ : 0 ≤ S_.2.2.1 224 0 c_.toNat ∧ S_.2.2.1 224 0 c_.toNat ≤ 6 := hI_.2 224 0 _
      have cG_ : 0 ≤ S_.2.2.1 228 0 c_.toNat ∧ S_.2.2.1 228 0 c_.toNat ≤ 150 := hI_.2 228 0 _
      have hg9_ := cgt_fr hc_.1 hI_ hg_ hF_
      have m9_ := cm3_b hI_
      refine sm_T_go 2 (c1 := (211, [some (.inr (.inr (some (13, 0)))), some (.inl c_), some (.inl g_), some (.inl n_), some (.inl ip_), some (.inl ha_), some (.inl mo_), some (.inl t_), some (.inl k_), none], [.inl ip_, .inl k_], S_)) rfl ?_
      refine sm_T_br (a := 3) (z := 89) rfl (fun cx1_ => ?_) (fun cx1_ => ?_)
      · have cx1_ : ip_ ≤ k_ := of_decide_eq_true cx1_
        refine sm_T_go 1 (c1 := (302, [some (.inr (.inr (some (13, 0)))), some (.inl c_), some (.inl g_), some (.inl n_), some (.inl ip_), some (.inl ha_), some (.inl mo_), some (.inl t_), some (.inl k_), none], [.inl mo_], S_)) rfl ?_
        refine sm_T_b0 (a := 0) (z := 54) rfl (fun cx2_ => ?_) (fun cx2_ => ?_)
        · have cx2_ : mo_ = 0 := of_decide_eq_true cx2_
          refine sm_T_go 1 (c1 := (80, [some (.inr (.inr (some (13, 0)))), some (.inl c_), some (.inl g_), some (.inl n_), some (.inl ip_), some (.inl ha_), some (.inl mo_), some (.inl t_), some (.inl k_), none], [], S_)) rfl ?_
          refine sm_T_wk [some (.inr (.inr (some (13, 0)))), some (.inl c_), some (.inl g_), some (.inl n_), some (.inl ip_), some (.inl ha_), some (.inl mo_), none, none, none] (by exact ⟨rfl, rfl, rfl, rfl, rfl, rfl, rfl, trivial⟩) ?_
          refine ih_.2.1 ip_ ha_ mo_ S_ hI_ hF_ ⟨?_, trivial⟩ ?_
          · omega
          · (rcases hw_ with y9_ | y9_ | y9_; omega; omega; (obtain ⟨j9_, a9_, b9_, c9_⟩ := y9_; omega))
        · have cx2_ : ¬ (mo_ = 0) := of_decide_eq_false cx2_
          refine sm_T_go 3 (c1 := (308, [some (.inr (.inr (some (13, 0)))), some (.inl c_), some (.inl g_), some (.inl n_), some (.inl ip_), some (.inl ha_), some (.inl mo_), some (.inl t_), some (.inl k_), none], [.inl g_, .inl c_, .inr (.inr (some (13, 0)))], S_)) rfl ?_
          refine sm_T_cal (d1 := 1) (Q1 := vq_508 c_ g_ S_) rfl rfl (by decide) (vc_508 c_ g_ S_ hI_ (by omega) (by omega)) (fun u_ Sx3_ px6_ => ?_)
          obtain ⟨rfl, vx8_, rfl, px6_⟩ := px6_
          refine sm_T_go 1 (c1 := (313, [some (.inr (.inr (some (13, 0)))), some (.inl c_), some (.inl g_), some (.inl n_), some (.inl ip_), some (.inl ha_), some (.inl mo_), some (.inl t_), some (.inl k_), none], [.inl ha_, .inl vx8_], S_)) rfl ?_
          refine sm_T_br (a := 0) (z := 43) rfl (fun cx9_ => ?_) (fun cx9_ => ?_)
          · have cx9_ : vx8_ = ha_ := of_decide_eq_true cx9_
            refine sm_T_go 1 (c1 := (80, [some (.inr (.inr (some (13, 0)))), some (.inl c_), some (.inl g_), some (.inl n_), some (.inl ip_), some (.inl ha_), some (.inl mo_), some (.inl t_), some (.inl k_), none], [], S_)) rfl ?_
            refine sm_T_wk [some (.inr (.inr (some (13, 0)))), some (.inl c_), some (.inl g_), some (.inl n_), some (.inl ip_), some (.inl ha_), some (.inl mo_), none, none, none] (by exact ⟨rfl, rfl, rfl, rfl, rfl, rfl, rfl, trivial⟩) ?_
            refine ih_.2.1 ip_ ha_ mo_ S_ hI_ hF_ ⟨?_, trivial⟩ ?_
            · omega
            · (rcases hw_ with y9_ | y9_ | y9_; omega; omega; (obtain ⟨j9_, a9_, b9_, c9_⟩ := y9_; omega))
          · have cx9_ : ¬ (vx8_ = ha_) := of_decide_eq_false cx9_
            refine sm_T_go 1 (c1 := (318, [some (.inr (.inr (some (13, 0)))), some (.inl c_), some (.inl g_), some (.inl n_), some (.inl ip_), some (.inl ha_), some (.inl mo_), some (.inl t_), some (.inl k_), none], [.inl ha_], S_)) rfl ?_
            refine sm_T_b0 (a := 1) (z := 7) rfl (fun cx10_ => ?_) (fun cx10_ => ?_)
            · have cx10_ : ha_ ≠ 0 := of_decide_eq_true cx10_
              have bx11_ : 0 ≤ S_.1 13 0 214 ∧ S_.1 13 0 214 ≤ 20001 := hI_.1 13 0 214 rfl
              refine sm_T_go 10 (c1 := (343, [some (.inr (.inr (some (13, 0)))), some (.inl c_), some (.inl g_), some (.inl n_), some (.inl ip_), some (.inl 0), some (.inl mo_), some (.inl t_), some (.inl k_), none], [.inl n_, .inr (.inr (some (270, 0))), .inl t_, .inl (S_.1 13 0 214), .inr (.inr (some (285, 0)))], S_)) rfl ?_
              refine sm_T_iald (n := 256) rfl rfl (by omega) (by omega) ?_
              have bx12_ : (-2147483648) ≤ S_.2.2.1 270 0 n_.toNat ∧ S_.2.2.1 270 0 n_.toNat ≤ 2147483647 := hI_.2 270 0 _
              refine sm_T_bin (w := (i_add t_ (S_.2.2.1 270 0 n_.toNat))) rfl rfl ?_ -- pc_ 344
              have bx13_ := i_add_r t_ (S_.2.2.1 270 0 n_.toNat)
              refine sm_T_iast (n := 20010) rfl rfl (by omega) (by omega) ?_
              have hIx14_ : gi (sm_aI S_ 285 0 (S_.1 13 0 214).toNat (i_add t_ (S_.2.2.1 270 0 n_.toNat))) := gi_aI hI_ (show (-2147483648) ≤ (i_add t_ (S_.2.2.1 270 0 n_.toNat)) ∧ (i_add t_ (S_.2.2.1 270 0 n_.toNat)) ≤ 2147483647 from ⟨by omega, by omega⟩)
              have hFx15_ : ai_fr (sx_W vw_509) S0_ (sm_aI S_ 285 0 (S_.1 13 0 214).toNat (i_add t_ (S_.2.2.1 270 0 n_.toNat))) := ai_fr_tr hF_ (ai_fr_aI rfl)
              refine sm_T_go 4 (c1 := (352, [some (.inr (.inr (some (13, 0)))), some (.inl c_), some (.inl g_), some (.inl n_), some (.inl ip_), some (.inl 0), some (.inl mo_), some (.inl t_), some (.inl k_), none], [.inl 1, .inl (S_.1 13 0 214), .inr (.inr (some (13, 0)))], sm_aI S_ 285 0 (S_.1 13 0 214).toNat (i_add t_ (S_.2.2.1 270 0 n_.toNat)))) rfl ?_
              refine sm_T_bin (w := (S_.1 13 0 214) + 1) rfl (bi_add (by omega) (by omega) (by omega)) ?_ -- pc_ 352
              have hIx16_ : gi (sm_pI (sm_aI S_ 285 0 (S_.1 13 0 214).toNat (i_add t_ (S_.2.2.1 270 0 n_.toNat))) 13 0 214 ((S_.1 13 0 214) + 1)) := gi_pI hIx14_ (show 0 ≤ (S_.1 13 0 214) + 1 ∧ (S_.1 13 0 214) + 1 ≤ 20001 from ⟨by omega, by omega⟩)
              have hFx17_ : ai_fr (sx_W vw_509) S0_ (sm_pI (sm_aI S_ 285 0 (S_.1 13 0 214).toNat (i_add t_ (S_.2.2.1 270 0 n_.toNat))) 13 0 214 ((S_.1 13 0 214) + 1)) := ai_fr_tr hFx15_ (ai_fr_pI rfl)
              refine sm_T_go 2 (c1 := (80, [some (.inr (.inr (some (13, 0)))), some (.inl c_), some (.inl g_), some (.inl n_), some (.inl ip_), some (.inl 0), some (.inl mo_), some (.inl t_), some (.inl k_), none], [], sm_pI (sm_aI S_ 285 0 (S_.1 13 0 214).toNat (i_add t_ (S_.2.2.1 270 0 n_.toNat))) 13 0 214 ((S_.1 13 0 214) + 1))) rfl ?_
              refine sm_T_wk [some (.inr (.inr (some (13, 0)))), some (.inl c_), some (.inl g_), some (.inl n_), some (.inl ip_), some (.inl 0), some (.inl mo_), none, none, none] (by exact ⟨rfl, rfl, rfl, rfl, rfl, rfl, rfl, trivial⟩) ?_
              refine ih_.2.1 ip_ 0 mo_ (sm_pI (sm_aI S_ 285 0 (S_.1 13 0 214).toNat (i_add t_ (S_.2.2.1 270 0 n_.toNat))) 13 0 214 ((S_.1 13 0 214) + 1)) hIx16_ hFx17_ ⟨?_, trivial⟩ ?_
              · omega
              · (show (100 * cm3 S_ + 50 * mo_).toNat < nn_; rcases hw_ with y9_ | y9_ | y9_; omega; omega; (obtain ⟨j9_, a9_, b9_, c9_⟩ := y9_; omega))
            · have cx10_ : ¬ (ha_ ≠ 0) := of_decide_eq_false cx10_
              have bx18_ : 0 ≤ S_.1 13 0 214 ∧ S_.1 13 0 214 ≤ 20001 := hI_.1 13 0 214 rfl
              refine sm_T_go 11 (c1 := (343, [some (.inr (.inr (some (13, 0)))), some (.inl c_), some (.inl g_), some (.inl n_), some (.inl ip_), some (.inl 1), some (.inl mo_), some (.inl t_), some (.inl k_), none], [.inl n_, .inr (.inr (some (270, 0))), .inl t_, .inl (S_.1 13 0 214), .inr (.inr (some (285, 0)))], S_)) rfl ?_
              refine sm_T_iald (n := 256) rfl rfl (by omega) (by omega) ?_
              have bx19_ : (-2147483648) ≤ S_.2.2.1 270 0 n_.toNat ∧ S_.2.2.1 270 0 n_.toNat ≤ 2147483647 := hI_.2 270 0 _
              refine sm_T_bin (w := (i_add t_ (S_.2.2.1 270 0 n_.toNat))) rfl rfl ?_ -- pc_ 344
              have bx20_ := i_add_r t_ (S_.2.2.1 270 0 n_.toNat)
              refine sm_T_iast (n := 20010) rfl rfl (by omega) (by omega) ?_
              have hIx21_ : gi (sm_aI S_ 285 0 (S_.1 13 0 214).toNat (i_add t_ (S_.2.2.1 270 0 n_.toNat))) := gi_aI hI_ (show (-2147483648) ≤ (i_add t_ (S_.2.2.1 270 0 n_.toNat)) ∧ (i_add t_ (S_.2.2.1 270 0 n_.toNat)) ≤ 2147483647 from ⟨by omega, by omega⟩)
              have hFx22_ : ai_fr (sx_W vw_509) S0_ (sm_aI S_ 285 0 (S_.1 13 0 214).toNat (i_add t_ (S_.2.2.1 270 0 n_.toNat))) := ai_fr_tr hF_ (ai_fr_aI rfl)
              refine sm_T_go 4 (c1 := (352, [some (.inr (.inr (some (13, 0)))), some (.inl c_), some (.inl g_), some (.inl n_), some (.inl ip_), some (.inl 1), some (.inl mo_), some (.inl t_), some (.inl k_), none], [.inl 1, .inl (S_.1 13 0 214), .inr (.inr (some (13, 0)))], sm_aI S_ 285 0 (S_.1 13 0 214).toNat (i_add t_ (S_.2.2.1 270 0 n_.toNat)))) rfl ?_
              refine sm_T_bin (w := (S_.1 13 0 214) + 1) rfl (bi_add (by omega) (by omega) (by omega)) ?_ -- pc_ 352
              have hIx23_ : gi (sm_pI (sm_aI S_ 285 0 (S_.1 13 0 214).toNat (i_add t_ (S_.2.2.1 270 0 n_.toNat))) 13 0 214 ((S_.1 13 0 214) + 1)) := gi_pI hIx21_ (show 0 ≤ (S_.1 13 0 214) + 1 ∧ (S_.1 13 0 214) + 1 ≤ 20001 from ⟨by omega, by omega⟩)
              have hFx24_ : ai_fr (sx_W vw_509) S0_ (sm_pI (sm_aI S_ 285 0 (S_.1 13 0 214).toNat (i_add t_ (S_.2.2.1 270 0 n_.toNat))) 13 0 214 ((S_.1 13 0 214) + 1)) := ai_fr_tr hFx22_ (ai_fr_pI rfl)
              refine sm_T_go 2 (c1 := (80, [some (.inr (.inr (some (13, 0)))), some (.inl c_), some (.inl g_), some (.inl n_), some (.inl ip_), some (.inl 1), some (.inl mo_), some (.inl t_), some (.inl k_), none], [], sm_pI (sm_aI S_ 285 0 (S_.1 13 0 214).toNat (i_add t_ (S_.2.2.1 270 0 n_.toNat))) 13 0 214 ((S_.1 13 0 214) + 1))) rfl ?_
              refine sm_T_wk [some (.inr (.inr (some (13, 0)))), some (.inl c_), some (.inl g_), some (.inl n_), some (.inl ip_), some (.inl 1), some (.inl mo_), none, none, none] (by exact ⟨rfl, rfl, rfl, rfl, rfl, rfl, rfl, trivial⟩) ?_
              refine ih_.2.1 ip_ 1 mo_ (sm_pI (sm_aI S_ 285 0 (S_.1 13 0 214).toNat (i_add t_ (S_.2.2.1 270 0 n_.toNat))) 13 0 214 ((S_.1 13 0 214) + 1)) hIx23_ hFx24_ ⟨?_, trivial⟩ ?_
              · omega
              · (show (100 * cm3 S_ + 50 * mo_).toNat < nn_; rcases hw_ with y9_ | y9_ | y9_; omega; omega; (obtain ⟨j9_, a9_, b9_, c9_⟩ := y9_; omega))
      · have cx1_ : ¬ (ip_ ≤ k_) := of_decide_eq_false cx1_
        refine sm_T_go 1 (c1 := (216, [some (.inr (.inr (some (13, 0)))), some (.inl c_), some (.inl g_), some (.inl n_), some (.inl ip_), some (.inl ha_), some (.inl mo_), some (.inl t_), some (.inl k_), none], [.inl mo_], S_)) rfl ?_
        refine sm_T_b0 (a := 0) (z := 84) rfl (fun cx25_ => ?_) (fun cx25_ => ?_)
        · have cx25_ : mo_ = 0 := of_decide_eq_true cx25_
          refine sm_T_go 1 (c1 := (302, [some (.inr (.inr (some (13, 0)))), some (.inl c_), some (.inl g_), some (.inl n_), some (.inl ip_), some (.inl ha_), some (.inl mo_), some (.inl t_), some (.inl k_), none], [.inl mo_], S_)) rfl ?_
          refine sm_T_b0 (a := 0) (z := 54) rfl (fun cx26_ => ?_) (fun cx26_ => ?_)
          · have cx26_ : mo_ = 0 := of_decide_eq_true cx26_
            refine sm_T_go 1 (c1 := (80, [some (.inr (.inr (some (13, 0)))), some (.inl c_), some (.inl g_), some (.inl n_), some (.inl ip_), some (.inl ha_), some (.inl mo_), some (.inl t_), some (.inl k_), none], [], S_)) rfl ?_
            refine sm_T_wk [some (.inr (.inr (some (13, 0)))), some (.inl c_), some (.inl g_), some (.inl n_), some (.inl ip_), some (.inl ha_), some (.inl mo_), none, none, none] (by exact ⟨rfl, rfl, rfl, rfl, rfl, rfl, rfl, trivial⟩) ?_
            refine ih_.2.1 ip_ ha_ mo_ S_ hI_ hF_ ⟨?_, trivial⟩ ?_
            · omega
            · (rcases hw_ with y9_ | y9_ | y9_; omega; omega; (obtain ⟨j9_, a9_, b9_, c9_⟩ := y9_; omega))
          · have cx26_ : ¬ (mo_ = 0) := of_decide_eq_false cx26_
            exfalso; omega
        · have cx25_ : ¬ (mo_ = 0) := of_decide_eq_false cx25_
          have G9_ := hg9_ g_ (by omega) (by omega) k_ (by omega) (by omega) (Or.inr (by rw [f234_, f229_]; omega))
          refine sm_T_go 3 (c1 := (225, [some (.inr (.inr (some (13, 0)))), some (.inl c_), some (.inl g_), some (.inl n_), some (.inl ip_), some (.inl ha_), some (.inl mo_), some (.inl t_), some (.inl k_), none], [.inl k_, .inr (.inr (some (287, 0)))], S_)) rfl ?_
          refine sm_T_iald (n := 3) rfl rfl (by omega) (by omega) ?_
          have bx27_ : 0 ≤ S_.2.2.1 287 0 k_.toNat ∧ S_.2.2.1 287 0 k_.toNat ≤ 20010 := hI_.2 287 0 _
          refine sm_T_go 6 (c1 := (235, [some (.inr (.inr (some (13, 0)))), some (.inl c_), some (.inl g_), some (.inl n_), some (.inl ip_), some (.inl ha_), some (.inl mo_), some (.inl t_), some (.inl k_), none], [.inl k_, .inl g_, .inl c_, .inr (.inr (some (13, 0))), .inr (.inr (some (286, 0))), .inl (S_.2.2.1 287 0 k_.toNat)], S_)) rfl ?_
          refine sm_T_cal (d1 := 0) (Q1 := vq_507 c_ g_ k_ S_) rfl rfl (by decide) (vc_507 c_ g_ k_ S_ hI_ (by omega) (by omega) (by omega)) (fun u_ Sx28_ px31_ => ?_)
          obtain ⟨rfl, vx33_, rfl, px31_⟩ := px31_
          have e235_ := px31_
          have z235_ : vx33_ = S_.2.2.1 230 0 (450 * c_ + 3 * g_ + k_).toNat := by (have w9_ := e235_.2; (try simp only [rd_eq, rd_ne, rf_eq, rf_nk, rf_nt, rd_fa, rd_af, rd_fl, rd_al, rd_lf, rd_la, rd_leq, rd_lne, rd_fr, rd_ar, ne_eq, Nat.reduceEqDiff, not_false_eq_true] at *); exact w9_)
          refine sm_T_go 1 (c1 := (239, [some (.inr (.inr (some (13, 0)))), some (.inl c_), some (.inl g_), some (.inl n_), some (.inl ip_), some (.inl ha_), some (.inl mo_), some (.inl t_), some (.inl k_), none], [.inl 1, .inl vx33_, .inr (.inr (some (286, 0))), .inl (S_.2.2.1 287 0 k_.toNat)], S_)) rfl ?_
          refine sm_T_bin (w := vx33_ + 1) rfl (bi_add (by omega) (by omega) (by omega)) ?_ -- pc_ 239
          refine sm_T_iald (n := 257) rfl rfl (by omega) (by omega) ?_
          have bx34_ : 0 ≤ S_.2.2.1 286 0 (vx33_ + 1).toNat ∧ S_.2.2.1 286 0 (vx33_ + 1).toNat ≤ 20010 := hI_.2 286 0 _
          refine sm_T_br (a := 3) (z := 53) rfl (fun cx35_ => ?_) (fun cx35_ => ?_)
          · have cx35_ : (S_.2.2.1 286 0 (vx33_ + 1).toNat) ≤ (S_.2.2.1 287 0 k_.toNat) := of_decide_eq_true cx35_
            refine sm_T_inc (a := 8) (z := 1) (v := k_) (w := k_ + 1) rfl rfl (by omega) (by omega) (by omega) ?_ -- pc_ 294
            refine sm_T_go 1 (c1 := (207, [some (.inr (.inr (some (13, 0)))), some (.inl c_), some (.inl g_), some (.inl n_), some (.inl ip_), some (.inl ha_), some (.inl mo_), some (.inl t_), some (.inl (k_ + 1)), none], [], S_)) rfl ?_
            refine ih_.2.2.2 ip_ ha_ mo_ t_ (k_ + 1) p0_ S_ hI_ hF_ ⟨?_, ?_, trivial⟩ ?_
            · omega
            · rcases hw_ with y9_ | y9_ | y9_
              · exact Or.inl y9_
              · exact Or.inr (Or.inl y9_)
              · right; right; obtain ⟨j9_, a9_, b9_, c9_⟩ := y9_; by_cases x9_ : j9_ = k_; (exfalso; rw [x9_] at c9_; have d9_ := c9_.1; have d8_ := c9_.2; rw [← z235_] at d9_; omega); exact ⟨j9_, by omega, b9_, c9_⟩
            · omega
          · have cx35_ : ¬ ((S_.2.2.1 286 0 (vx33_ + 1).toNat) ≤ (S_.2.2.1 287 0 k_.toNat)) := of_decide_eq_false cx35_
            refine sm_T_go 5 (c1 := (254, [some (.inr (.inr (some (13, 0)))), some (.inl c_), some (.inl g_), some (.inl n_), some (.inl ip_), some (.inl ha_), some (.inl mo_), some (.inl t_), some (.inl k_), none], [.inl k_, .inr (.inr (some (287, 0))), .inr (.inr (some (285, 0)))], S_)) rfl ?_
            refine sm_T_iald (n := 3) rfl rfl (by omega) (by omega) ?_
            refine sm_T_iald (n := 20010) rfl rfl (by omega) (by omega) ?_
            have bx36_ : (-2147483648) ≤ S_.2.2.1 285 0 (S_.2.2.1 287 0 k_.toNat).toNat ∧ S_.2.2.1 285 0 (S_.2.2.1 287 0 k_.toNat).toNat ≤ 2147483647 := hI_.2 285 0 _
            refine sm_T_go 1 (c1 := (258, [some (.inr (.inr (some (13, 0)))), some (.inl c_), some (.inl g_), some (.inl n_), some (.inl ip_), some (.inl ha_), some (.inl mo_), some (.inl t_), some (.inl k_), none], [.inl t_, .inl (S_.2.2.1 285 0 (S_.2.2.1 287 0 k_.toNat).toNat)], S_)) rfl ?_
            refine sm_T_br (a := 1) (z := 36) rfl (fun cx37_ => ?_) (fun cx37_ => ?_)
            · have cx37_ : (S_.2.2.1 285 0 (S_.2.2.1 287 0 k_.toNat).toNat) ≠ t_ := of_decide_eq_true cx37_
              refine sm_T_inc (a := 8) (z := 1) (v := k_) (w := k_ + 1) rfl rfl (by omega) (by omega) (by omega) ?_ -- pc_ 294
              refine sm_T_go 1 (c1 := (207, [some (.inr (.inr (some (13, 0)))), some (.inl c_), some (.inl g_), some (.inl n_), some (.inl ip_), some (.inl ha_), some (.inl mo_), some (.inl t_), some (.inl (k_ + 1)), none], [], S_)) rfl ?_
              refine ih_.2.2.2 ip_ ha_ mo_ t_ (k_ + 1) p0_ S_ hI_ hF_ ⟨?_, ?_, trivial⟩ ?_
              · omega
              · rcases hw_ with y9_ | y9_ | y9_
                · exact Or.inl y9_
                · exact Or.inr (Or.inl y9_)
                · right; right; obtain ⟨j9_, a9_, b9_, c9_⟩ := y9_; by_cases x9_ : j9_ = k_; (exfalso; rw [x9_] at c9_; have d9_ := c9_.1; have d8_ := c9_.2; rw [← z235_] at d9_; omega); exact ⟨j9_, by omega, b9_, c9_⟩
              · omega
            · have cx37_ : ¬ ((S_.2.2.1 285 0 (S_.2.2.1 287 0 k_.toNat).toNat) ≠ t_) := of_decide_eq_false cx37_
              refine sm_T_go 4 (c1 := (268, [some (.inr (.inr (some (13, 0)))), some (.inl c_), some (.inl g_), some (.inl n_), some (.inl ip_), some (.inl ha_), some (.inl mo_), some (.inl t_), some (.inl k_), none], [.inl k_, .inr (.inr (some (287, 0))), .inl k_, .inr (.inr (some (287, 0)))], S_)) rfl ?_
              refine sm_T_iald (n := 3) rfl rfl (by omega) (by omega) ?_
              refine sm_T_go 1 (c1 := (270, [some (.inr (.inr (some (13, 0)))), some (.inl c_), some (.inl g_), some (.inl n_), some (.inl ip_), some (.inl ha_), some (.inl mo_), some (.inl t_), some (.inl k_), none], [.inl 1, .inl (S_.2.2.1 287 0 k_.toNat), .inl k_, .inr (.inr (some (287, 0)))], S_)) rfl ?_
              refine sm_T_bin (w := (S_.2.2.1 287 0 k_.toNat) + 1) rfl (bi_add (by omega) (by omega) (by omega)) ?_ -- pc_ 270
              refine sm_T_iast (n := 3) rfl rfl (by omega) (by omega) ?_
              have hIx38_ : gi (sm_aI S_ 287 0 k_.toNat ((S_.2.2.1 287 0 k_.toNat) + 1)) := gi_aI hI_ (show 0 ≤ (S_.2.2.1 287 0 k_.toNat) + 1 ∧ (S_.2.2.1 287 0 k_.toNat) + 1 ≤ 20010 from ⟨by omega, by omega⟩)
              have hFx39_ : ai_fr (sx_W vw_509) S0_ (sm_aI S_ 287 0 k_.toNat ((S_.2.2.1 287 0 k_.toNat) + 1)) := ai_fr_tr hF_ (ai_fr_aI rfl)
              refine sm_T_go 6 (c1 := (284, [some (.inr (.inr (some (13, 0)))), some (.inl c_), some (.inl g_), some (.inl n_), some (.inl ip_), some (.inl ha_), some (.inl mo_), some (.inl t_), some (.inl k_), none], [.inl k_, .inr (.inr (some (288, 0))), .inl k_, .inr (.inr (some (288, 0)))], sm_aI S_ 287 0 k_.toNat ((S_.2.2.1 287 0 k_.toNat) + 1))) rfl ?_
              refine sm_T_zald (n := 3) rfl rfl (by omega) (by omega) ?_
              have bx40_ : 0 ≤ S_.2.2.1 288 0 k_.toNat ∧ S_.2.2.1 288 0 k_.toNat ≤ 1 := hI_.2 288 0 _
              refine sm_T_go 0 (c1 := (285, [some (.inr (.inr (some (13, 0)))), some (.inl c_), some (.inl g_), some (.inl n_), some (.inl ip_), some (.inl ha_), some (.inl mo_), some (.inl t_), some (.inl k_), none], [.inl (S_.2.2.1 288 0 k_.toNat), .inl k_, .inr (.inr (some (288, 0)))], sm_aI S_ 287 0 k_.toNat ((S_.2.2.1 287 0 k_.toNat) + 1))) rfl ?_
              refine sm_T_b0 (a := 1) (z := 7) rfl (fun cx41_ => ?_) (fun cx41_ => ?_)
              · have cx41_ : (S_.2.2.1 288 0 k_.toNat) ≠ 0 := of_decide_eq_true cx41_
                refine sm_T_go 1 (c1 := (293, [some (.inr (.inr (some (13, 0)))), some (.inl c_), some (.inl g_), some (.inl n_), some (.inl ip_), some (.inl ha_), some (.inl mo_), some (.inl t_), some (.inl k_), none], [.inl 0, .inl k_, .inr (.inr (some (288, 0)))], sm_aI S_ 287 0 k_.toNat ((S_.2.2.1 287 0 k_.toNat) + 1))) rfl ?_
                refine sm_T_zas1 (n := 3) rfl rfl (by omega) (by omega) (by omega) ?_
                have hIx42_ : gi (sm_aI (sm_aI S_ 287 0 k_.toNat ((S_.2.2.1 287 0 k_.toNat) + 1)) 288 0 k_.toNat 0) := gi_aI hIx38_ (show 0 ≤ 0 ∧ 0 ≤ 1 from ⟨by omega, by omega⟩)
                have hFx43_ : ai_fr (sx_W vw_509) S0_ (sm_aI (sm_aI S_ 287 0 k_.toNat ((S_.2.2.1 287 0 k_.toNat) + 1)) 288 0 k_.toNat 0) := ai_fr_tr hFx39_ (ai_fr_aI rfl)
                refine sm_T_inc (a := 8) (z := 1) (v := k_) (w := k_ + 1) rfl rfl (by omega) (by omega) (by omega) ?_ -- pc_ 294
                refine sm_T_go 1 (c1 := (207, [some (.inr (.inr (some (13, 0)))), some (.inl c_), some (.inl g_), some (.inl n_), some (.inl ip_), some (.inl ha_), some (.inl mo_), some (.inl t_), some (.inl (k_ + 1)), none], [], sm_aI (sm_aI S_ 287 0 k_.toNat ((S_.2.2.1 287 0 k_.toNat) + 1)) 288 0 k_.toNat 0)) rfl ?_
                refine ih_.2.2.2 ip_ ha_ mo_ t_ (k_ + 1) p0_ (sm_aI (sm_aI S_ 287 0 k_.toNat ((S_.2.2.1 287 0 k_.toNat) + 1)) 288 0 k_.toNat 0) hIx42_ hFx43_ ⟨?_, ?_, trivial⟩ ?_
                · (have u9_ : cm3 ((sm_aI (sm_aI S_ 287 0 k_.toNat ((S_.2.2.1 287 0 k_.toNat) + 1)) 288 0 k_.toNat 0)) = cm3 S_ - 1 := cm3_up (k_ := k_) (by omega); (try simp only [rd_eq, rd_ne, rf_eq, rf_nk, rf_nt, rd_fa, rd_af, rd_fl, rd_al, rd_lf, rd_la, rd_leq, rd_lne, rd_fr, rd_ar, ne_eq, Nat.reduceEqDiff, not_false_eq_true]); rw [u9_]; omega)
                · (have u9_ : cm3 ((sm_aI (sm_aI S_ 287 0 k_.toNat ((S_.2.2.1 287 0 k_.toNat) + 1)) 288 0 k_.toNat 0)) = cm3 S_ - 1 := cm3_up (k_ := k_) (by omega); left; rw [u9_]; omega)
                · omega
              · have cx41_ : ¬ ((S_.2.2.1 288 0 k_.toNat) ≠ 0) := of_decide_eq_false cx41_
                refine sm_T_go 2 (c1 := (293, [some (.inr (.inr (some (13, 0)))), some (.inl c_), some (.inl g_), some (.inl n_), some (.inl ip_), some (.inl ha_), some (.inl mo_), some (.inl t_), some (.inl k_), none], [.inl 1, .inl k_, .inr (.inr (some (288, 0)))], sm_aI S_ 287 0 k_.toNat ((S_.2.2.1 287 0 k_.toNat) + 1))) rfl ?_
                refine sm_T_zas1 (n := 3) rfl rfl (by omega) (by omega) (by omega) ?_
                have hIx44_ : gi (sm_aI (sm_aI S_ 287 0 k_.toNat ((S_.2.2.1 287 0 k_.toNat) + 1)) 288 0 k_.toNat 1) := gi_aI hIx38_ (show 0 ≤ 1 ∧ 1 ≤ 1 from ⟨by omega, by omega⟩)
                have hFx45_ : ai_fr (sx_W vw_509) S0_ (sm_aI (sm_aI S_ 287 0 k_.toNat ((S_.2.2.1 287 0 k_.toNat) + 1)) 288 0 k_.toNat 1) := ai_fr_tr hFx39_ (ai_fr_aI rfl)
                refine sm_T_inc (a := 8) (z := 1) (v := k_) (w := k_ + 1) rfl rfl (by omega) (by omega) (by omega) ?_ -- pc_ 294
                refine sm_T_go 1 (c1 := (207, [some (.inr (.inr (some (13, 0)))), some (.inl c_), some (.inl g_), some (.inl n_), some (.inl ip_), some (.inl ha_), some (.inl mo_), some (.inl t_), some (.inl (k_ + 1)), none], [], sm_aI (sm_aI S_ 287 0 k_.toNat ((S_.2.2.1 287 0 k_.toNat) + 1)) 288 0 k_.toNat 1)) rfl ?_
                refine ih_.2.2.2 ip_ ha_ mo_ t_ (k_ + 1) p0_ (sm_aI (sm_aI S_ 287 0 k_.toNat ((S_.2.2.1 287 0 k_.toNat) + 1)) 288 0 k_.toNat 1) hIx44_ hFx45_ ⟨?_, ?_, trivial⟩ ?_
                · (have u9_ : cm3 ((sm_aI (sm_aI S_ 287 0 k_.toNat ((S_.2.2.1 287 0 k_.toNat) + 1)) 288 0 k_.toNat 1)) = cm3 S_ - 1 := cm3_up (k_ := k_) (by omega); (try simp only [rd_eq, rd_ne, rf_eq, rf_nk, rf_nt, rd_fa, rd_af, rd_fl, rd_al, rd_lf, rd_la, rd_leq, rd_lne, rd_fr, rd_ar, ne_eq, Nat.reduceEqDiff, not_false_eq_true]); rw [u9_]; omega)
                · (have u9_ : cm3 ((sm_aI (sm_aI S_ 287 0 k_.toNat ((S_.2.2.1 287 0 k_.toNat) + 1)) 288 0 k_.toNat 1)) = cm3 S_ - 1 := cm3_up (k_ := k_) (by omega); left; rw [u9_]; omega)
                · omega
set_option maxHeartbeats 4000000 in
set_option maxRecDepth 20000 in
theorem vc_509 {sc_ : Nat × (Nat → Int)} (c_ : Int) (g_ : Int) (n_ : Int) (S0_ : sm_S) (hI_ : gi S0_) (hc_ : 0 ≤ c_ ∧ c_ ≤ 3) (hg_ : cgt c_ S0_) (hgg_ : 0 ≤ g_ ∧ g_ < S0_.2.2.1 228 0 c_.toNat) (hn_ : 0 ≤ n_ ∧ n_ ≤ 167) (hx_ : S0_.2.2.1 223 0 c_.toNat + S0_.2.2.1 224 0 c_.toNat ≤ 12) : sm_T (mt_P sc_) 2 509 (0, [some (.inr (.inr (some (13, 0)))), some (.inl c_), some (.inl g_), some (.inl n_), none, none, none, none, none, none], [], S0_) (fun ro9_ => ∃ u_ S1_, ro9_ = (.inl u_, S1_, 0) ∧ vq_509 c_ g_ n_ S0_ u_ S1_) := by
  have hF_ : ai_fr (sx_W vw_509) S0_ S0_ := ai_fr_rf
  have cG0_ : 0 ≤ S0_.2.2.1 228 0 c_.toNat ∧ S0_.2.2.1 228 0 c_.toNat ≤ 150 := hI_.2 228 0 _
  refine sm_T_go 5 (c1 := (7, [some (.inr (.inr (some (13, 0)))), some (.inl c_), some (.inl g_), some (.inl n_), none, none, none, none, none, none], [.inl g_, .inl c_, .inr (.inr (some (13, 0))), .inr (.inr (some (234, 0)))], S0_)) rfl ?_
  refine sm_T_cal (d1 := 0) (Q1 := vq_421 c_ g_ S0_) rfl rfl (by decide) (vc_421 c_ g_ S0_ hI_ (by omega) (by omega)) (fun u_ Sx1_ px4_ => ?_)
  obtain ⟨rfl, vx6_, rfl, px4_⟩ := px4_
  have e7_ := px4_
  refine sm_T_iald (n := 48) rfl rfl (by omega) (by omega) ?_
  have bx7_ : 0 ≤ S0_.2.2.1 234 0 vx6_.toNat ∧ S0_.2.2.1 234 0 vx6_.toNat ≤ 3 := hI_.2 234 0 _
  refine sm_T_go 3 (c1 := (16, [some (.inr (.inr (some (13, 0)))), some (.inl c_), some (.inl g_), some (.inl n_), some (.inl (S0_.2.2.1 234 0 vx6_.toNat)), some (.inl 0), none, none, none, none], [], S0_)) rfl ?_
  refine (vl_509 c_ g_ n_ S0_ hc_ hg_ hgg_ hn_ hx_ _).1 (S0_.2.2.1 234 0 vx6_.toNat) 0 S0_ hI_ hF_ ⟨?_, trivial⟩ (Nat.lt_succ_self _)
  · (rw [← e7_.2]; omega)
/-! M_.isWild -/
def vw_510 : sx_Wl := ([(13, 159), (13, 214)], [238, 243, 244, 245, 246, 247, 248, 249, 250, 270, 284, 285, 286, 287, 288], [])
def vq_510 (c_ : Int) (a_ : Int) (b_ : Int) (S0_ : sm_S) (u_ : Option sm_V) (S1_ : sm_S) : Prop := ∃ v_ : Int, u_ = some (.inl v_) ∧ gi S1_ ∧ ai_fr (sx_W vw_510) S0_ S1_ ∧ (v_ = 0 ∨ v_ = 1)
set_option maxHeartbeats 1500000 in
set_option maxRecDepth 20000 in
theorem vl_510 {sc_ : Nat × (Nat → Int)} (c_ : Int) (a_ : Int) (b_ : Int) (S0_ : sm_S) (hc_ : 0 ≤ c_ ∧ c_ ≤ 3) (hx_ : S0_.2.2.1 223 0 c_.toNat + S0_.2.2.1 224 0 c_.toNat ≤ 12) (hg_ : cgt c_ S0_) (ho_ : con c_ S0_) (ha_ : 0 ≤ a_ ∧ a_ < 4096) (hb_ : 0 ≤ b_ ∧ b_ < 4096) : ∀ nn_ : Nat, (∀ (n_ : Int) (S_ : sm_S), gi S_ → ai_fr (sx_W vw_510) S0_ S_ → ((0 ≤ n_ ∧ n_ ≤ 168) ∧ True) → ((90000 - n_).toNat) < nn_ → sm_T (mt_P sc_) 5 510 (15, [some (.inr (.inr (some (13, 0)))), some (.inl c_), some (.inl a_), some (.inl b_), some (.inl n_), none], [], S_) (fun ro9_ => ∃ u_ S1_, ro9_ = (.inl u_, S1_, 0) ∧ vq_510 c_ a_ b_ S0_ u_ S1_)) ∧ (∀ (fi_ : Int) (n_ : Int) (S_ : sm_S), gi S_ → ai_fr (sx_W vw_510) S0_ S_ → ((0 ≤ n_ ∧ n_ ≤ (S0_.2.2.1 223 0 c_.toNat + S0_.2.2.1 224 0 c_.toNat + S0_.2.2.1 228 0 c_.toNat) ∧ fi_ = S0_.2.2.1 223 0 c_.toNat + S0_.2.2.1 224 0 c_.toNat ∧ (S_.1 13 0 214 ≤ n_ ∨ fi_ ≤ n_)) ∧ True) → ((5000 - n_).toNat) < nn_ → sm_T (mt_P sc_) 5 510 (90, [some (.inr (.inr (some (13, 0)))), some (.inl c_), some (.inl a_), some (.inl b_), some (.inl fi_), some (.inl n_)], [], S_) (fun ro9_ => ∃ u_ S1_, ro9_ = (.inl u_, S1_, 0) ∧ vq_510 c_ a_ b_ S0_ u_ S1_)) := by
  intro nn_
  induction nn_ with
  | zero => exact ⟨fun _ _ _ _ _ h_ => absurd h_ (Nat.not_lt_zero _), fun _ _ _ _ _ _ h_ => absurd h_ (Nat.not_lt_zero _)⟩
  | succ nn_ ih_ =>
    refine ⟨?_, ?_⟩
    · rintro n_ S_ hI_ hF_ ⟨h0_, -⟩ hm_
      have f223_ : S_.2.2.1 223 0 = S0_.2.2.1 223 0 := fr_arr hF_ rfl
      have f224_ : S_.2.2.1 224 0 = S0_.2.2.1 224 0 := fr_arr hF_ rfl
      have f225_ : S_.2.2.1 225 0 = S0_.2.2.1 225 0 := fr_arr hF_ rfl
      have f228_ : S_.2.2.1 228 0 = S0_.2.2.1 228 0 := fr_arr hF_ rfl
      have x223_ : S_.2.2.1 223 0 c_.toNat = S0_.2.2.1 223 0 c_.toNat := congrFun f223_ _
      have x224_ : S_.2.2.1 224 0 c_.toNat = S0_.2.2.1 224 0 c_.toNat := congrFun f224_ _
      have x225_ : S_.2.2.1 225 0 c_.toNat = S0_.2.2.1 225 0 c_.toNat := congrFun f225_ _
      have x228_ : S_.2.2.1 228 0 c_.toNat = S0_.2.2.1 228 0 c_.toNat := congrFun f228_ _
      have cA_ : 0 ≤ S_.2.2.1 223 0 c_.toNat ∧ S_.2.2.1 223 0 c_.toNat ≤ 12 := hI_.2 223 0 _
      have cB_ : 0 ≤ S_.2.2.1 224 0 c_.toNat ∧ S_.2.2.1 224 0 c_.toNat ≤ 6 := hI_.2 224 0 _
      have cG_ : 0 ≤ S_.2.2.1 228 0 c_.toNat ∧ S_.2.2.1 228 0 c_.toNat ≤ 150 := hI_.2 228 0 _
      have C9_ : 0 ≤ S_.1 13 0 214 ∧ S_.1 13 0 214 ≤ 20001 := hI_.1 13 0 214 rfl
      refine sm_T_go 3 (c1 := (19, [some (.inr (.inr (some (13, 0)))), some (.inl c_), some (.inl a_), some (.inl b_), some (.inl n_), none], [.inl c_, .inr (.inr (some (13, 0))), .inl n_], S_)) rfl ?_
      refine sm_T_cal (d1 := 0) (Q1 := vq_422 c_ S_) rfl rfl (by decide) (vc_422 c_ S_ hI_ (by omega)) (fun u_ Sx1_ px4_ => ?_)
      obtain ⟨rfl, vx6_, rfl, px4_⟩ := px4_
      refine sm_T_br (a := 3) (z := 40) rfl (fun cx7_ => ?_) (fun cx7_ => ?_)
      · have cx7_ : vx6_ ≤ n_ := of_decide_eq_true cx7_
        refine sm_T_go 2 (c1 := (64, [some (.inr (.inr (some (13, 0)))), some (.inl c_), some (.inl a_), some (.inl b_), some (.inl n_), none], [.inl c_, .inr (.inr (some (13, 0)))], S_)) rfl ?_
        refine sm_T_cal (d1 := 4) (Q1 := vq_495 c_ S_) rfl rfl (by decide) (vc_495 c_ S_ hI_ (by exact hc_) (by omega) (by exact cgt_fr hc_.1 hI_ hg_ hF_) (by exact con_fr hc_.1 hI_ ho_ hF_)) (fun u_ Sx8_ px11_ => ?_)
        obtain ⟨rfl, hIx9_, hFx10_, px11_⟩ := px11_
        have hFx12_ : ai_fr (sx_W vw_510) S0_ Sx8_ := ai_fr_tr hF_ (fr_le hFx10_ rfl)
        have y223_ : Sx8_.2.2.1 223 0 c_.toNat = S_.2.2.1 223 0 c_.toNat := congrFun (fr_arr hFx10_ rfl) _
        have y224_ : Sx8_.2.2.1 224 0 c_.toNat = S_.2.2.1 224 0 c_.toNat := congrFun (fr_arr hFx10_ rfl) _
        have y228_ : Sx8_.2.2.1 228 0 c_.toNat = S_.2.2.1 228 0 c_.toNat := congrFun (fr_arr hFx10_ rfl) _
        refine sm_T_go 3 (c1 := (72, [some (.inr (.inr (some (13, 0)))), some (.inl c_), some (.inl a_), some (.inl b_), some (.inl n_), none], [.inl c_, .inr (.inr (some (223, 0)))], Sx8_)) rfl ?_
        refine sm_T_iald (n := 4) rfl rfl (by omega) (by omega) ?_
        have bx13_ : 0 ≤ Sx8_.2.2.1 223 0 c_.toNat ∧ Sx8_.2.2.1 223 0 c_.toNat ≤ 12 := hIx9_.2 223 0 _
        refine sm_T_go 3 (c1 := (78, [some (.inr (.inr (some (13, 0)))), some (.inl c_), some (.inl a_), some (.inl b_), some (.inl n_), none], [.inl c_, .inr (.inr (some (224, 0))), .inl (Sx8_.2.2.1 223 0 c_.toNat)], Sx8_)) rfl ?_
        refine sm_T_iald (n := 4) rfl rfl (by omega) (by omega) ?_
        have bx14_ : 0 ≤ Sx8_.2.2.1 224 0 c_.toNat ∧ Sx8_.2.2.1 224 0 c_.toNat ≤ 6 := hIx9_.2 224 0 _
        refine sm_T_bin (w := (Sx8_.2.2.1 223 0 c_.toNat) + (Sx8_.2.2.1 224 0 c_.toNat)) rfl (bi_add (by omega) (by omega) (by omega)) ?_ -- pc_ 79
        have hIx15_ : gi (sm_pI Sx8_ 13 0 214 0) := gi_pI hIx9_ (show 0 ≤ 0 ∧ 0 ≤ 20001 from ⟨by omega, by omega⟩)
        have hFx16_ : ai_fr (sx_W vw_510) S0_ (sm_pI Sx8_ 13 0 214 0) := ai_fr_tr hFx12_ (ai_fr_pI rfl)
        refine sm_T_go 6 (c1 := (90, [some (.inr (.inr (some (13, 0)))), some (.inl c_), some (.inl a_), some (.inl b_), some (.inl ((Sx8_.2.2.1 223 0 c_.toNat) + (Sx8_.2.2.1 224 0 c_.toNat))), some (.inl 0)], [], sm_pI Sx8_ 13 0 214 0)) rfl ?_
        refine ih_.2 ((Sx8_.2.2.1 223 0 c_.toNat) + (Sx8_.2.2.1 224 0 c_.toNat)) 0 (sm_pI Sx8_ 13 0 214 0) hIx15_ hFx16_ ⟨?_, trivial⟩ ?_
        · ((try simp only [rd_eq, rd_ne, rf_eq, rf_nk, rf_nt, rd_fa, rd_af, rd_fl, rd_al, rd_lf, rd_la, rd_leq, rd_lne, rd_fr, rd_ar, ne_eq, Nat.reduceEqDiff, not_false_eq_true]); omega)
        · omega
      · have cx7_ : ¬ (vx6_ ≤ n_) := of_decide_eq_false cx7_
        refine sm_T_go 6 (c1 := (37, [some (.inr (.inr (some (13, 0)))), some (.inl c_), some (.inl a_), some (.inl b_), some (.inl n_), none], [.inl n_, .inr (.inr (some (238, 0))), .inl n_, .inr (.inr (some (284, 0)))], S_)) rfl ?_
        refine sm_T_lald (n := 256) rfl rfl (by omega) (by omega) ?_
        refine sm_T_go 2 (c1 := (41, [some (.inr (.inr (some (13, 0)))), some (.inl c_), some (.inl a_), some (.inl b_), some (.inl n_), none], [.inl 63, .inl a_, .inr (.inl (S_.2.2.2 238 0 n_.toNat)), .inl n_, .inr (.inr (some (284, 0)))], S_)) rfl ?_
        refine sm_T_bin (w := (a_ % 64)) rfl (bi_msk (k := 6) (by decide)) ?_ -- pc_ 41
        refine sm_T_go 5 (c1 := (47, [some (.inr (.inr (some (13, 0)))), some (.inl c_), some (.inl a_), some (.inl b_), some (.inl n_), none], [.inl (sm_lcmp ((l_3 ((l_s2 ((S_.2.2.2 238 0 n_.toNat)) (a_ % 64))) 1)) 1), .inl n_, .inr (.inr (some (284, 0)))], S_)) rfl ?_
        refine sm_T_b0 (a := 1) (z := 7) rfl (fun cx17_ => ?_) (fun cx17_ => ?_)
        · have cx17_ : (sm_lcmp ((l_3 ((l_s2 ((S_.2.2.2 238 0 n_.toNat)) (a_ % 64))) 1)) 1) ≠ 0 := of_decide_eq_true cx17_
          refine sm_T_go 1 (c1 := (55, [some (.inr (.inr (some (13, 0)))), some (.inl c_), some (.inl a_), some (.inl b_), some (.inl n_), none], [.inl 0, .inl n_, .inr (.inr (some (284, 0)))], S_)) rfl ?_
          refine sm_T_zas1 (n := 256) rfl rfl (by omega) (by omega) (by omega) ?_
          have hIx18_ : gi (sm_aI S_ 284 0 n_.toNat 0) := gi_aI hI_ (show 0 ≤ 0 ∧ 0 ≤ 1 from ⟨by omega, by omega⟩)
          have hFx19_ : ai_fr (sx_W vw_510) S0_ (sm_aI S_ 284 0 n_.toNat 0) := ai_fr_tr hF_ (ai_fr_aI rfl)
          refine sm_T_inc (a := 4) (z := 1) (v := n_) (w := n_ + 1) rfl rfl (by omega) (by omega) (by omega) ?_ -- pc_ 56
          refine sm_T_go 1 (c1 := (15, [some (.inr (.inr (some (13, 0)))), some (.inl c_), some (.inl a_), some (.inl b_), some (.inl (n_ + 1)), none], [], sm_aI S_ 284 0 n_.toNat 0)) rfl ?_
          refine ih_.1 (n_ + 1) (sm_aI S_ 284 0 n_.toNat 0) hIx18_ hFx19_ ⟨?_, trivial⟩ ?_
          · ((try simp only [rd_eq, rd_ne, rf_eq, rf_nk, rf_nt, rd_fa, rd_af, rd_fl, rd_al, rd_lf, rd_la, rd_leq, rd_lne, rd_fr, rd_ar, ne_eq, Nat.reduceEqDiff, not_false_eq_true]); omega)
          · omega
        · have cx17_ : ¬ ((sm_lcmp ((l_3 ((l_s2 ((S_.2.2.2 238 0 n_.toNat)) (a_ % 64))) 1)) 1) ≠ 0) := of_decide_eq_false cx17_
          refine sm_T_go 2 (c1 := (55, [some (.inr (.inr (some (13, 0)))), some (.inl c_), some (.inl a_), some (.inl b_), some (.inl n_), none], [.inl 1, .inl n_, .inr (.inr (some (284, 0)))], S_)) rfl ?_
          refine sm_T_zas1 (n := 256) rfl rfl (by omega) (by omega) (by omega) ?_
          have hIx20_ : gi (sm_aI S_ 284 0 n_.toNat 1) := gi_aI hI_ (show 0 ≤ 1 ∧ 1 ≤ 1 from ⟨by omega, by omega⟩)
          have hFx21_ : ai_fr (sx_W vw_510) S0_ (sm_aI S_ 284 0 n_.toNat 1) := ai_fr_tr hF_ (ai_fr_aI rfl)
          refine sm_T_inc (a := 4) (z := 1) (v := n_) (w := n_ + 1) rfl rfl (by omega) (by omega) (by omega) ?_ -- pc_ 56
          refine sm_T_go 1 (c1 := (15, [some (.inr (.inr (some (13, 0)))), some (.inl c_), some (.inl a_), some (.inl b_), some (.inl (n_ + 1)), none], [], sm_aI S_ 284 0 n_.toNat 1)) rfl ?_
          refine ih_.1 (n_ + 1) (sm_aI S_ 284 0 n_.toNat 1) hIx20_ hFx21_ ⟨?_, trivial⟩ ?_
          · ((try simp only [rd_eq, rd_ne, rf_eq, rf_nk, rf_nt, rd_fa, rd_af, rd_fl, rd_al, rd_lf, rd_la, rd_leq, rd_lne, rd_fr, rd_ar, ne_eq, Nat.reduceEqDiff, not_false_eq_true]); omega)
          · omega
    · rintro fi_ n_ S_ hI_ hF_ ⟨h0_, -⟩ hm_
      have f223_ : S_.2.2.1 223 0 = S0_.2.2.1 223 0 := fr_arr hF_ rfl
      have f224_ : S_.2.2.1 224 0 = S0_.2.2.1 224 0 := fr_arr hF_ rfl
      have f225_ : S_.2.2.1 225 0 = S0_.2.2.1 225 0 := fr_arr hF_ rfl
      have f228_ : S_.2.2.1 228 0 = S0_.2.2.1 228 0 := fr_arr hF_ rfl
      have x223_ : S_.2.2.1 223 0 c_.toNat = S0_.2.2.1 223 0 c_.toNat := congrFun f223_ _
      have x224_ : S_.2.2.1 224 0 c_.toNat = S0_.2.2.1 224 0 c_.toNat := congrFun f224_ _
      have x225_ : S_.2.2.1 225 0 c_.toNat = S0_.2.2.1 225 0 c_.toNat := congrFun f225_ _
      have x228_ : S_.2.2.1 228 0 c_.toNat = S0_.2.2.1 228 0 c_.toNat := congrFun f228_ _
      have cA_ : 0 ≤ S_.2.2.1 223 0 c_.toNat ∧ S_.2.2.1 223 0 c_.toNat ≤ 12 := hI_.2 223 0 _
      have cB_ : 0 ≤ S_.2.2.1 224 0 c_.toNat ∧ S_.2.2.1 224 0 c_.toNat ≤ 6 := hI_.2 224 0 _
      have cG_ : 0 ≤ S_.2.2.1 228 0 c_.toNat ∧ S_.2.2.1 228 0 c_.toNat ≤ 150 := hI_.2 228 0 _
      have C9_ : 0 ≤ S_.1 13 0 214 ∧ S_.1 13 0 214 ≤ 20001 := hI_.1 13 0 214 rfl
      refine sm_T_go 3 (c1 := (94, [some (.inr (.inr (some (13, 0)))), some (.inl c_), some (.inl a_), some (.inl b_), some (.inl fi_), some (.inl n_)], [.inl c_, .inr (.inr (some (13, 0))), .inl n_], S_)) rfl ?_
      refine sm_T_cal (d1 := 0) (Q1 := vq_422 c_ S_) rfl rfl (by decide) (vc_422 c_ S_ hI_ (by omega)) (fun u_ Sx1_ px4_ => ?_)
      obtain ⟨rfl, vx6_, rfl, px4_⟩ := px4_
      refine sm_T_br (a := 3) (z := 117) rfl (fun cx7_ => ?_) (fun cx7_ => ?_)
      · have cx7_ : vx6_ ≤ n_ := of_decide_eq_true cx7_
        have bx8_ : 0 ≤ S_.1 13 0 214 ∧ S_.1 13 0 214 ≤ 20001 := hI_.1 13 0 214 rfl
        refine sm_T_go 3 (c1 := (221, [some (.inr (.inr (some (13, 0)))), some (.inl c_), some (.inl a_), some (.inl b_), some (.inl fi_), some (.inl n_)], [.inl 20000, .inl (S_.1 13 0 214)], S_)) rfl ?_
        refine sm_T_br (a := 5) (z := 7) rfl (fun cx9_ => ?_) (fun cx9_ => ?_)
        · have cx9_ : (S_.1 13 0 214) ≤ 20000 := of_decide_eq_true cx9_
          refine sm_T_go 1 (c1 := (229, [some (.inr (.inr (some (13, 0)))), some (.inl c_), some (.inl a_), some (.inl b_), some (.inl fi_), some (.inl n_)], [.inl 0], S_)) rfl ?_
          refine sm_T_rz rfl (by omega) ⟨_, _, rfl, _, rfl, hI_, hF_, ?_⟩
          omega
        · have cx9_ : ¬ ((S_.1 13 0 214) ≤ 20000) := of_decide_eq_false cx9_
          refine sm_T_go 2 (c1 := (229, [some (.inr (.inr (some (13, 0)))), some (.inl c_), some (.inl a_), some (.inl b_), some (.inl fi_), some (.inl n_)], [.inl 1], S_)) rfl ?_
          refine sm_T_rz rfl (by omega) ⟨_, _, rfl, _, rfl, hI_, hF_, ?_⟩
          omega
      · have cx7_ : ¬ (vx6_ ≤ n_) := of_decide_eq_false cx7_
        have bx10_ : 0 ≤ S_.1 13 0 214 ∧ S_.1 13 0 214 ≤ 20001 := hI_.1 13 0 214 rfl
        refine sm_T_go 5 (c1 := (110, [some (.inr (.inr (some (13, 0)))), some (.inl c_), some (.inl a_), some (.inl b_), some (.inl fi_), some (.inl n_)], [.inl (S_.1 13 0 214), .inl n_, .inr (.inr (some (286, 0)))], S_)) rfl ?_
        refine sm_T_iast (n := 257) rfl rfl (by omega) (by omega) ?_
        have hIx11_ : gi (sm_aI S_ 286 0 n_.toNat (S_.1 13 0 214)) := gi_aI hI_ (show 0 ≤ (S_.1 13 0 214) ∧ (S_.1 13 0 214) ≤ 20010 from ⟨by omega, by omega⟩)
        have hFx12_ : ai_fr (sx_W vw_510) S0_ (sm_aI S_ 286 0 n_.toNat (S_.1 13 0 214)) := ai_fr_tr hF_ (ai_fr_aI rfl)
        refine sm_T_go 2 (c1 := (115, [some (.inr (.inr (some (13, 0)))), some (.inl c_), some (.inl a_), some (.inl b_), some (.inl fi_), some (.inl n_)], [.inl fi_, .inl n_], sm_aI S_ 286 0 n_.toNat (S_.1 13 0 214))) rfl ?_
        refine sm_T_br (a := 3) (z := 48) rfl (fun cx13_ => ?_) (fun cx13_ => ?_)
        · have cx13_ : fi_ ≤ n_ := of_decide_eq_true cx13_
          refine sm_T_go 4 (c1 := (170, [some (.inr (.inr (some (13, 0)))), some (.inl c_), some (.inl a_), some (.inl b_), some (.inl fi_), some (.inl n_)], [.inl 1, .inl n_, .inr (.inr (some (286, 0)))], sm_aI S_ 286 0 n_.toNat (S_.1 13 0 214))) rfl ?_
          refine sm_T_bin (w := n_ + 1) rfl (bi_add (by omega) (by omega) (by omega)) ?_ -- pc_ 170
          refine sm_T_go 2 (c1 := (175, [some (.inr (.inr (some (13, 0)))), some (.inl c_), some (.inl a_), some (.inl b_), some (.inl fi_), some (.inl n_)], [.inl (S_.1 13 0 214), .inl (n_ + 1), .inr (.inr (some (286, 0)))], sm_aI S_ 286 0 n_.toNat (S_.1 13 0 214))) rfl ?_
          refine sm_T_iast (n := 257) rfl rfl (by omega) (by omega) ?_
          have hIx14_ : gi (sm_aI (sm_aI S_ 286 0 n_.toNat (S_.1 13 0 214)) 286 0 (n_ + 1).toNat (S_.1 13 0 214)) := gi_aI hIx11_ (show 0 ≤ (S_.1 13 0 214) ∧ (S_.1 13 0 214) ≤ 20010 from ⟨by omega, by omega⟩)
          have hFx15_ : ai_fr (sx_W vw_510) S0_ (sm_aI (sm_aI S_ 286 0 n_.toNat (S_.1 13 0 214)) 286 0 (n_ + 1).toNat (S_.1 13 0 214)) := ai_fr_tr hFx12_ (ai_fr_aI rfl)
          refine sm_T_go 2 (c1 := (180, [some (.inr (.inr (some (13, 0)))), some (.inl c_), some (.inl a_), some (.inl b_), some (.inl fi_), some (.inl n_)], [.inl fi_, .inl n_], sm_aI (sm_aI S_ 286 0 n_.toNat (S_.1 13 0 214)) 286 0 (n_ + 1).toNat (S_.1 13 0 214))) rfl ?_
          refine sm_T_br (a := 2) (z := 15) rfl (fun cx16_ => ?_) (fun cx16_ => ?_)
          · have cx16_ : n_ < fi_ := of_decide_eq_true cx16_
            exfalso; omega
          · have cx16_ : ¬ (n_ < fi_) := of_decide_eq_false cx16_
            refine sm_T_go 4 (c1 := (189, [some (.inr (.inr (some (13, 0)))), some (.inl c_), some (.inl a_), some (.inl b_), some (.inl fi_), some (.inl n_)], [.inl fi_, .inl n_, .inl c_, .inr (.inr (some (13, 0)))], sm_aI (sm_aI S_ 286 0 n_.toNat (S_.1 13 0 214)) 286 0 (n_ + 1).toNat (S_.1 13 0 214))) rfl ?_
            refine sm_T_bin (w := n_ - fi_) rfl (bi_sub (by omega) (by omega) (by omega)) ?_ -- pc_ 189
            refine sm_T_go 1 (c1 := (192, [some (.inr (.inr (some (13, 0)))), some (.inl c_), some (.inl a_), some (.inl b_), some (.inl fi_), some (.inl n_)], [.inl n_, .inl (n_ - fi_), .inl c_, .inr (.inr (some (13, 0)))], sm_aI (sm_aI S_ 286 0 n_.toNat (S_.1 13 0 214)) 286 0 (n_ + 1).toNat (S_.1 13 0 214))) rfl ?_
            refine sm_T_cal (d1 := 2) (Q1 := vq_509 c_ (n_ - fi_) n_ (sm_aI (sm_aI S_ 286 0 n_.toNat (S_.1 13 0 214)) 286 0 (n_ + 1).toNat (S_.1 13 0 214))) rfl rfl (by decide) (vc_509 c_ (n_ - fi_) n_ (sm_aI (sm_aI S_ 286 0 n_.toNat (S_.1 13 0 214)) 286 0 (n_ + 1).toNat (S_.1 13 0 214)) hIx14_ (by exact hc_) (by exact cgt_fr hc_.1 hIx14_ hg_ hFx15_) (by ((try simp only [rd_eq, rd_ne, rf_eq, rf_nk, rf_nt, rd_fa, rd_af, rd_fl, rd_al, rd_lf, rd_la, rd_leq, rd_lne, rd_fr, rd_ar, ne_eq, Nat.reduceEqDiff, not_false_eq_true]); omega)) (by omega) (by ((try simp only [rd_eq, rd_ne, rf_eq, rf_nk, rf_nt, rd_fa, rd_af, rd_fl, rd_al, rd_lf, rd_la, rd_leq, rd_lne, rd_fr, rd_ar, ne_eq, Nat.reduceEqDiff, not_false_eq_true]); omega))) (fun u_ Sx17_ px20_ => ?_)
            obtain ⟨rfl, hIx18_, hFx19_, px20_⟩ := px20_
            have hFx21_ : ai_fr (sx_W vw_510) S0_ Sx17_ := ai_fr_tr hFx15_ (fr_le hFx19_ rfl)
            have C8_ : 0 ≤ Sx17_.1 13 0 214 ∧ Sx17_.1 13 0 214 ≤ 20001 := hIx18_.1 13 0 214 rfl
            refine sm_T_go 4 (c1 := (202, [some (.inr (.inr (some (13, 0)))), some (.inl c_), some (.inl a_), some (.inl b_), some (.inl fi_), some (.inl n_)], [.inl 1, .inl n_, .inr (.inr (some (286, 0)))], Sx17_)) rfl ?_
            refine sm_T_bin (w := n_ + 1) rfl (bi_add (by omega) (by omega) (by omega)) ?_ -- pc_ 202
            have bx22_ : 0 ≤ Sx17_.1 13 0 214 ∧ Sx17_.1 13 0 214 ≤ 20001 := hIx18_.1 13 0 214 rfl
            refine sm_T_go 2 (c1 := (207, [some (.inr (.inr (some (13, 0)))), some (.inl c_), some (.inl a_), some (.inl b_), some (.inl fi_), some (.inl n_)], [.inl (Sx17_.1 13 0 214), .inl (n_ + 1), .inr (.inr (some (286, 0)))], Sx17_)) rfl ?_
            refine sm_T_iast (n := 257) rfl rfl (by omega) (by omega) ?_
            have hIx23_ : gi (sm_aI Sx17_ 286 0 (n_ + 1).toNat (Sx17_.1 13 0 214)) := gi_aI hIx18_ (show 0 ≤ (Sx17_.1 13 0 214) ∧ (Sx17_.1 13 0 214) ≤ 20010 from ⟨by omega, by omega⟩)
            have hFx24_ : ai_fr (sx_W vw_510) S0_ (sm_aI Sx17_ 286 0 (n_ + 1).toNat (Sx17_.1 13 0 214)) := ai_fr_tr hFx21_ (ai_fr_aI rfl)
            refine sm_T_inc (a := 5) (z := 1) (v := n_) (w := n_ + 1) rfl rfl (by omega) (by omega) (by omega) ?_ -- pc_ 208
            refine sm_T_go 1 (c1 := (90, [some (.inr (.inr (some (13, 0)))), some (.inl c_), some (.inl a_), some (.inl b_), some (.inl fi_), some (.inl (n_ + 1))], [], sm_aI Sx17_ 286 0 (n_ + 1).toNat (Sx17_.1 13 0 214))) rfl ?_
            refine ih_.2 fi_ (n_ + 1) (sm_aI Sx17_ 286 0 (n_ + 1).toNat (Sx17_.1 13 0 214)) hIx23_ hFx24_ ⟨?_, trivial⟩ ?_
            · ((try simp only [rd_eq, rd_ne, rf_eq, rf_nk, rf_nt, rd_fa, rd_af, rd_fl, rd_al, rd_lf, rd_la, rd_leq, rd_lne, rd_fr, rd_ar, ne_eq, Nat.reduceEqDiff, not_false_eq_true]); omega)
            · omega
        · have cx13_ : ¬ (fi_ ≤ n_) := of_decide_eq_false cx13_
          refine sm_T_go 3 (c1 := (124, [some (.inr (.inr (some (13, 0)))), some (.inl c_), some (.inl a_), some (.inl b_), some (.inl fi_), some (.inl n_)], [.inl n_, .inr (.inr (some (284, 0)))], sm_aI S_ 286 0 n_.toNat (S_.1 13 0 214))) rfl ?_
          refine sm_T_zald (n := 256) rfl rfl (by omega) (by omega) ?_
          have bx25_ : 0 ≤ S_.2.2.1 284 0 n_.toNat ∧ S_.2.2.1 284 0 n_.toNat ≤ 1 := hI_.2 284 0 _
          refine sm_T_go 2 (c1 := (128, [some (.inr (.inr (some (13, 0)))), some (.inl c_), some (.inl a_), some (.inl b_), some (.inl fi_), some (.inl n_)], [.inl n_, .inl b_, .inl (S_.2.2.1 284 0 n_.toNat)], sm_aI S_ 286 0 n_.toNat (S_.1 13 0 214))) rfl ?_
          refine sm_T_bin (w := (i_shr b_ n_)) rfl rfl ?_ -- pc_ 128
          first | have bx26_ := i_shr_p (x_ := b_) (e_ := n_) (by omega) (by omega) (by omega) | have bx26_ := i_shr_n b_ n_
          refine sm_T_go 1 (c1 := (130, [some (.inr (.inr (some (13, 0)))), some (.inl c_), some (.inl a_), some (.inl b_), some (.inl fi_), some (.inl n_)], [.inl 1, .inl (i_shr b_ n_), .inl (S_.2.2.1 284 0 n_.toNat)], sm_aI S_ 286 0 n_.toNat (S_.1 13 0 214))) rfl ?_
          refine sm_T_bin (w := ((i_shr b_ n_) % 2)) rfl (bi_msk (k := 1) (by decide)) ?_ -- pc_ 130
          refine sm_T_go 1 (c1 := (132, [some (.inr (.inr (some (13, 0)))), some (.inl c_), some (.inl a_), some (.inl b_), some (.inl fi_), some (.inl n_)], [.inl 1, .inl ((i_shr b_ n_) % 2), .inl (S_.2.2.1 284 0 n_.toNat)], sm_aI S_ 286 0 n_.toNat (S_.1 13 0 214))) rfl ?_
          refine sm_T_br (a := 1) (z := 7) rfl (fun cx27_ => ?_) (fun cx27_ => ?_)
          · have cx27_ : ((i_shr b_ n_) % 2) ≠ 1 := of_decide_eq_true cx27_
            refine sm_T_go 1 (c1 := (140, [some (.inr (.inr (some (13, 0)))), some (.inl c_), some (.inl a_), some (.inl b_), some (.inl fi_), some (.inl n_)], [.inl 0, .inl (S_.2.2.1 284 0 n_.toNat)], sm_aI S_ 286 0 n_.toNat (S_.1 13 0 214))) rfl ?_
            refine sm_T_br (a := 0) (z := 23) rfl (fun cx28_ => ?_) (fun cx28_ => ?_)
            · have cx28_ : (S_.2.2.1 284 0 n_.toNat) = 0 := of_decide_eq_true cx28_
              refine sm_T_go 4 (c1 := (170, [some (.inr (.inr (some (13, 0)))), some (.inl c_), some (.inl a_), some (.inl b_), some (.inl fi_), some (.inl n_)], [.inl 1, .inl n_, .inr (.inr (some (286, 0)))], sm_aI S_ 286 0 n_.toNat (S_.1 13 0 214))) rfl ?_
              refine sm_T_bin (w := n_ + 1) rfl (bi_add (by omega) (by omega) (by omega)) ?_ -- pc_ 170
              refine sm_T_go 2 (c1 := (175, [some (.inr (.inr (some (13, 0)))), some (.inl c_), some (.inl a_), some (.inl b_), some (.inl fi_), some (.inl n_)], [.inl (S_.1 13 0 214), .inl (n_ + 1), .inr (.inr (some (286, 0)))], sm_aI S_ 286 0 n_.toNat (S_.1 13 0 214))) rfl ?_
              refine sm_T_iast (n := 257) rfl rfl (by omega) (by omega) ?_
              have hIx29_ : gi (sm_aI (sm_aI S_ 286 0 n_.toNat (S_.1 13 0 214)) 286 0 (n_ + 1).toNat (S_.1 13 0 214)) := gi_aI hIx11_ (show 0 ≤ (S_.1 13 0 214) ∧ (S_.1 13 0 214) ≤ 20010 from ⟨by omega, by omega⟩)
              have hFx30_ : ai_fr (sx_W vw_510) S0_ (sm_aI (sm_aI S_ 286 0 n_.toNat (S_.1 13 0 214)) 286 0 (n_ + 1).toNat (S_.1 13 0 214)) := ai_fr_tr hFx12_ (ai_fr_aI rfl)
              refine sm_T_go 2 (c1 := (180, [some (.inr (.inr (some (13, 0)))), some (.inl c_), some (.inl a_), some (.inl b_), some (.inl fi_), some (.inl n_)], [.inl fi_, .inl n_], sm_aI (sm_aI S_ 286 0 n_.toNat (S_.1 13 0 214)) 286 0 (n_ + 1).toNat (S_.1 13 0 214))) rfl ?_
              refine sm_T_br (a := 2) (z := 15) rfl (fun cx31_ => ?_) (fun cx31_ => ?_)
              · have cx31_ : n_ < fi_ := of_decide_eq_true cx31_
                refine sm_T_go 4 (c1 := (202, [some (.inr (.inr (some (13, 0)))), some (.inl c_), some (.inl a_), some (.inl b_), some (.inl fi_), some (.inl n_)], [.inl 1, .inl n_, .inr (.inr (some (286, 0)))], sm_aI (sm_aI S_ 286 0 n_.toNat (S_.1 13 0 214)) 286 0 (n_ + 1).toNat (S_.1 13 0 214))) rfl ?_
                refine sm_T_bin (w := n_ + 1) rfl (bi_add (by omega) (by omega) (by omega)) ?_ -- pc_ 202
                refine sm_T_go 2 (c1 := (207, [some (.inr (.inr (some (13, 0)))), some (.inl c_), some (.inl a_), some (.inl b_), some (.inl fi_), some (.inl n_)], [.inl (S_.1 13 0 214), .inl (n_ + 1), .inr (.inr (some (286, 0)))], sm_aI (sm_aI S_ 286 0 n_.toNat (S_.1 13 0 214)) 286 0 (n_ + 1).toNat (S_.1 13 0 214))) rfl ?_
                refine sm_T_iast (n := 257) rfl rfl (by omega) (by omega) ?_
                have hIx32_ : gi (sm_aI (sm_aI (sm_aI S_ 286 0 n_.toNat (S_.1 13 0 214)) 286 0 (n_ + 1).toNat (S_.1 13 0 214)) 286 0 (n_ + 1).toNat (S_.1 13 0 214)) := gi_aI hIx29_ (show 0 ≤ (S_.1 13 0 214) ∧ (S_.1 13 0 214) ≤ 20010 from ⟨by omega, by omega⟩)
                have hFx33_ : ai_fr (sx_W vw_510) S0_ (sm_aI (sm_aI (sm_aI S_ 286 0 n_.toNat (S_.1 13 0 214)) 286 0 (n_ + 1).toNat (S_.1 13 0 214)) 286 0 (n_ + 1).toNat (S_.1 13 0 214)) := ai_fr_tr hFx30_ (ai_fr_aI rfl)
                refine sm_T_inc (a := 5) (z := 1) (v := n_) (w := n_ + 1) rfl rfl (by omega) (by omega) (by omega) ?_ -- pc_ 208
                refine sm_T_go 1 (c1 := (90, [some (.inr (.inr (some (13, 0)))), some (.inl c_), some (.inl a_), some (.inl b_), some (.inl fi_), some (.inl (n_ + 1))], [], sm_aI (sm_aI (sm_aI S_ 286 0 n_.toNat (S_.1 13 0 214)) 286 0 (n_ + 1).toNat (S_.1 13 0 214)) 286 0 (n_ + 1).toNat (S_.1 13 0 214))) rfl ?_
                refine ih_.2 fi_ (n_ + 1) (sm_aI (sm_aI (sm_aI S_ 286 0 n_.toNat (S_.1 13 0 214)) 286 0 (n_ + 1).toNat (S_.1 13 0 214)) 286 0 (n_ + 1).toNat (S_.1 13 0 214)) hIx32_ hFx33_ ⟨?_, trivial⟩ ?_
                · ((try simp only [rd_eq, rd_ne, rf_eq, rf_nk, rf_nt, rd_fa, rd_af, rd_fl, rd_al, rd_lf, rd_la, rd_leq, rd_lne, rd_fr, rd_ar, ne_eq, Nat.reduceEqDiff, not_false_eq_true]); omega)
                · omega
              · have cx31_ : ¬ (n_ < fi_) := of_decide_eq_false cx31_
                exfalso; omega
            · have cx28_ : ¬ ((S_.2.2.1 284 0 n_.toNat) = 0) := of_decide_eq_false cx28_
              refine sm_T_go 5 (c1 := (152, [some (.inr (.inr (some (13, 0)))), some (.inl c_), some (.inl a_), some (.inl b_), some (.inl fi_), some (.inl n_)], [.inl 0, .inl (S_.1 13 0 214), .inr (.inr (some (285, 0)))], sm_aI S_ 286 0 n_.toNat (S_.1 13 0 214))) rfl ?_
              refine sm_T_iast (n := 20010) rfl rfl (by omega) (by omega) ?_
              have hIx34_ : gi (sm_aI (sm_aI S_ 286 0 n_.toNat (S_.1 13 0 214)) 285 0 (S_.1 13 0 214).toNat 0) := gi_aI hIx11_ (show (-2147483648) ≤ 0 ∧ 0 ≤ 2147483647 from ⟨by omega, by omega⟩)
              have hFx35_ : ai_fr (sx_W vw_510) S0_ (sm_aI (sm_aI S_ 286 0 n_.toNat (S_.1 13 0 214)) 285 0 (S_.1 13 0 214).toNat 0) := ai_fr_tr hFx12_ (ai_fr_aI rfl)
              refine sm_T_go 4 (c1 := (159, [some (.inr (.inr (some (13, 0)))), some (.inl c_), some (.inl a_), some (.inl b_), some (.inl fi_), some (.inl n_)], [.inl 1, .inl (S_.1 13 0 214), .inr (.inr (some (13, 0)))], sm_aI (sm_aI S_ 286 0 n_.toNat (S_.1 13 0 214)) 285 0 (S_.1 13 0 214).toNat 0)) rfl ?_
              refine sm_T_bin (w := (S_.1 13 0 214) + 1) rfl (bi_add (by omega) (by omega) (by omega)) ?_ -- pc_ 159
              have hIx36_ : gi (sm_pI (sm_aI (sm_aI S_ 286 0 n_.toNat (S_.1 13 0 214)) 285 0 (S_.1 13 0 214).toNat 0) 13 0 214 ((S_.1 13 0 214) + 1)) := gi_pI hIx34_ (show 0 ≤ (S_.1 13 0 214) + 1 ∧ (S_.1 13 0 214) + 1 ≤ 20001 from ⟨by omega, by omega⟩)
              have hFx37_ : ai_fr (sx_W vw_510) S0_ (sm_pI (sm_aI (sm_aI S_ 286 0 n_.toNat (S_.1 13 0 214)) 285 0 (S_.1 13 0 214).toNat 0) 13 0 214 ((S_.1 13 0 214) + 1)) := ai_fr_tr hFx35_ (ai_fr_pI rfl)
              refine sm_T_go 5 (c1 := (170, [some (.inr (.inr (some (13, 0)))), some (.inl c_), some (.inl a_), some (.inl b_), some (.inl fi_), some (.inl n_)], [.inl 1, .inl n_, .inr (.inr (some (286, 0)))], sm_pI (sm_aI (sm_aI S_ 286 0 n_.toNat (S_.1 13 0 214)) 285 0 (S_.1 13 0 214).toNat 0) 13 0 214 ((S_.1 13 0 214) + 1))) rfl ?_
              refine sm_T_bin (w := n_ + 1) rfl (bi_add (by omega) (by omega) (by omega)) ?_ -- pc_ 170
              refine sm_T_go 2 (c1 := (175, [some (.inr (.inr (some (13, 0)))), some (.inl c_), some (.inl a_), some (.inl b_), some (.inl fi_), some (.inl n_)], [.inl ((S_.1 13 0 214) + 1), .inl (n_ + 1), .inr (.inr (some (286, 0)))], sm_pI (sm_aI (sm_aI S_ 286 0 n_.toNat (S_.1 13 0 214)) 285 0 (S_.1 13 0 214).toNat 0) 13 0 214 ((S_.1 13 0 214) + 1))) rfl ?_
              refine sm_T_iast (n := 257) rfl rfl (by omega) (by omega) ?_
              have hIx38_ : gi (sm_aI (sm_pI (sm_aI (sm_aI S_ 286 0 n_.toNat (S_.1 13 0 214)) 285 0 (S_.1 13 0 214).toNat 0) 13 0 214 ((S_.1 13 0 214) + 1)) 286 0 (n_ + 1).toNat ((S_.1 13 0 214) + 1)) := gi_aI hIx36_ (show 0 ≤ (S_.1 13 0 214) + 1 ∧ (S_.1 13 0 214) + 1 ≤ 20010 from ⟨by omega, by omega⟩)
              have hFx39_ : ai_fr (sx_W vw_510) S0_ (sm_aI (sm_pI (sm_aI (sm_aI S_ 286 0 n_.toNat (S_.1 13 0 214)) 285 0 (S_.1 13 0 214).toNat 0) 13 0 214 ((S_.1 13 0 214) + 1)) 286 0 (n_ + 1).toNat ((S_.1 13 0 214) + 1)) := ai_fr_tr hFx37_ (ai_fr_aI rfl)
              refine sm_T_go 2 (c1 := (180, [some (.inr (.inr (some (13, 0)))), some (.inl c_), some (.inl a_), some (.inl b_), some (.inl fi_), some (.inl n_)], [.inl fi_, .inl n_], sm_aI (sm_pI (sm_aI (sm_aI S_ 286 0 n_.toNat (S_.1 13 0 214)) 285 0 (S_.1 13 0 214).toNat 0) 13 0 214 ((S_.1 13 0 214) + 1)) 286 0 (n_ + 1).toNat ((S_.1 13 0 214) + 1))) rfl ?_
              refine sm_T_br (a := 2) (z := 15) rfl (fun cx40_ => ?_) (fun cx40_ => ?_)
              · have cx40_ : n_ < fi_ := of_decide_eq_true cx40_
                refine sm_T_go 4 (c1 := (202, [some (.inr (.inr (some (13, 0)))), some (.inl c_), some (.inl a_), some (.inl b_), some (.inl fi_), some (.inl n_)], [.inl 1, .inl n_, .inr (.inr (some (286, 0)))], sm_aI (sm_pI (sm_aI (sm_aI S_ 286 0 n_.toNat (S_.1 13 0 214)) 285 0 (S_.1 13 0 214).toNat 0) 13 0 214 ((S_.1 13 0 214) + 1)) 286 0 (n_ + 1).toNat ((S_.1 13 0 214) + 1))) rfl ?_
                refine sm_T_bin (w := n_ + 1) rfl (bi_add (by omega) (by omega) (by omega)) ?_ -- pc_ 202
                refine sm_T_go 2 (c1 := (207, [some (.inr (.inr (some (13, 0)))), some (.inl c_), some (.inl a_), some (.inl b_), some (.inl fi_), some (.inl n_)], [.inl ((S_.1 13 0 214) + 1), .inl (n_ + 1), .inr (.inr (some (286, 0)))], sm_aI (sm_pI (sm_aI (sm_aI S_ 286 0 n_.toNat (S_.1 13 0 214)) 285 0 (S_.1 13 0 214).toNat 0) 13 0 214 ((S_.1 13 0 214) + 1)) 286 0 (n_ + 1).toNat ((S_.1 13 0 214) + 1))) rfl ?_
                refine sm_T_iast (n := 257) rfl rfl (by omega) (by omega) ?_
                have hIx41_ : gi (sm_aI (sm_aI (sm_pI (sm_aI (sm_aI S_ 286 0 n_.toNat (S_.1 13 0 214)) 285 0 (S_.1 13 0 214).toNat 0) 13 0 214 ((S_.1 13 0 214) + 1)) 286 0 (n_ + 1).toNat ((S_.1 13 0 214) + 1)) 286 0 (n_ + 1).toNat ((S_.1 13 0 214) + 1)) := gi_aI hIx38_ (show 0 ≤ (S_.1 13 0 214) + 1 ∧ (S_.1 13 0 214) + 1 ≤ 20010 from ⟨by omega, by omega⟩)
                have hFx42_ : ai_fr (sx_W vw_510) S0_ (sm_aI (sm_aI (sm_pI (sm_aI (sm_aI S_ 286 0 n_.toNat (S_.1 13 0 214)) 285 0 (S_.1 13 0 214).toNat 0) 13 0 214 ((S_.1 13 0 214) + 1)) 286 0 (n_ + 1).toNat ((S_.1 13 0 214) + 1)) 286 0 (n_ + 1).toNat ((S_.1 13 0 214) + 1)) := ai_fr_tr hFx39_ (ai_fr_aI rfl)
                refine sm_T_inc (a := 5) (z := 1) (v := n_) (w := n_ + 1) rfl rfl (by omega) (by omega) (by omega) ?_ -- pc_ 208
                refine sm_T_go 1 (c1 := (90, [some (.inr (.inr (some (13, 0)))), some (.inl c_), some (.inl a_), some (.inl b_), some (.inl fi_), some (.inl (n_ + 1))], [], sm_aI (sm_aI (sm_pI (sm_aI (sm_aI S_ 286 0 n_.toNat (S_.1 13 0 214)) 285 0 (S_.1 13 0 214).toNat 0) 13 0 214 ((S_.1 13 0 214) + 1)) 286 0 (n_ + 1).toNat ((S_.1 13 0 214) + 1)) 286 0 (n_ + 1).toNat ((S_.1 13 0 214) + 1))) rfl ?_
                refine ih_.2 fi_ (n_ + 1) (sm_aI (sm_aI (sm_pI (sm_aI (sm_aI S_ 286 0 n_.toNat (S_.1 13 0 214)) 285 0 (S_.1 13 0 214).toNat 0) 13 0 214 ((S_.1 13 0 214) + 1)) 286 0 (n_ + 1).toNat ((S_.1 13 0 214) + 1)) 286 0 (n_ + 1).toNat ((S_.1 13 0 214) + 1)) hIx41_ hFx42_ ⟨?_, trivial⟩ ?_
                · ((try simp only [rd_eq, rd_ne, rf_eq, rf_nk, rf_nt, rd_fa, rd_af, rd_fl, rd_al, rd_lf, rd_la, rd_leq, rd_lne, rd_fr, rd_ar, ne_eq, Nat.reduceEqDiff, not_false_eq_true]); omega)
                · omega
              · have cx40_ : ¬ (n_ < fi_) := of_decide_eq_false cx40_
                exfalso; omega
          · have cx27_ : ¬ (((i_shr b_ n_) % 2) ≠ 1) := of_decide_eq_false cx27_
            refine sm_T_go 2 (c1 := (140, [some (.inr (.inr (some (13, 0)))), some (.inl c_), some (.inl a_), some (.inl b_), some (.inl fi_), some (.inl n_)], [.inl 1, .inl (S_.2.2.1 284 0 n_.toNat)], sm_aI S_ 286 0 n_.toNat (S_.1 13 0 214))) rfl ?_
            refine sm_T_br (a := 0) (z := 23) rfl (fun cx43_ => ?_) (fun cx43_ => ?_)
            · have cx43_ : (S_.2.2.1 284 0 n_.toNat) = 1 := of_decide_eq_true cx43_
              refine sm_T_go 4 (c1 := (170, [some (.inr (.inr (some (13, 0)))), some (.inl c_), some (.inl a_), some (.inl b_), some (.inl fi_), some (.inl n_)], [.inl 1, .inl n_, .inr (.inr (some (286, 0)))], sm_aI S_ 286 0 n_.toNat (S_.1 13 0 214))) rfl ?_
              refine sm_T_bin (w := n_ + 1) rfl (bi_add (by omega) (by omega) (by omega)) ?_ -- pc_ 170
              refine sm_T_go 2 (c1 := (175, [some (.inr (.inr (some (13, 0)))), some (.inl c_), some (.inl a_), some (.inl b_), some (.inl fi_), some (.inl n_)], [.inl (S_.1 13 0 214), .inl (n_ + 1), .inr (.inr (some (286, 0)))], sm_aI S_ 286 0 n_.toNat (S_.1 13 0 214))) rfl ?_
              refine sm_T_iast (n := 257) rfl rfl (by omega) (by omega) ?_
              have hIx44_ : gi (sm_aI (sm_aI S_ 286 0 n_.toNat (S_.1 13 0 214)) 286 0 (n_ + 1).toNat (S_.1 13 0 214)) := gi_aI hIx11_ (show 0 ≤ (S_.1 13 0 214) ∧ (S_.1 13 0 214) ≤ 20010 from ⟨by omega, by omega⟩)
              have hFx45_ : ai_fr (sx_W vw_510) S0_ (sm_aI (sm_aI S_ 286 0 n_.toNat (S_.1 13 0 214)) 286 0 (n_ + 1).toNat (S_.1 13 0 214)) := ai_fr_tr hFx12_ (ai_fr_aI rfl)
              refine sm_T_go 2 (c1 := (180, [some (.inr (.inr (some (13, 0)))), some (.inl c_), some (.inl a_), some (.inl b_), some (.inl fi_), some (.inl n_)], [.inl fi_, .inl n_], sm_aI (sm_aI S_ 286 0 n_.toNat (S_.1 13 0 214)) 286 0 (n_ + 1).toNat (S_.1 13 0 214))) rfl ?_
              refine sm_T_br (a := 2) (z := 15) rfl (fun cx46_ => ?_) (fun cx46_ => ?_)
              · have cx46_ : n_ < fi_ := of_decide_eq_true cx46_
                refine sm_T_go 4 (c1 := (202, [some (.inr (.inr (some (13, 0)))), some (.inl c_), some (.inl a_), some (.inl b_), some (.inl fi_), some (.inl n_)], [.inl 1, .inl n_, .inr (.inr (some (286, 0)))], sm_aI (sm_aI S_ 286 0 n_.toNat (S_.1 13 0 214)) 286 0 (n_ + 1).toNat (S_.1 13 0 214))) rfl ?_
                refine sm_T_bin (w := n_ + 1) rfl (bi_add (by omega) (by omega) (by omega)) ?_ -- pc_ 202
                refine sm_T_go 2 (c1 := (207, [some (.inr (.inr (some (13, 0)))), some (.inl c_), some (.inl a_), some (.inl b_), some (.inl fi_), some (.inl n_)], [.inl (S_.1 13 0 214), .inl (n_ + 1), .inr (.inr (some (286, 0)))], sm_aI (sm_aI S_ 286 0 n_.toNat (S_.1 13 0 214)) 286 0 (n_ + 1).toNat (S_.1 13 0 214))) rfl ?_
                refine sm_T_iast (n := 257) rfl rfl (by omega) (by omega) ?_
                have hIx47_ : gi (sm_aI (sm_aI (sm_aI S_ 286 0 n_.toNat (S_.1 13 0 214)) 286 0 (n_ + 1).toNat (S_.1 13 0 214)) 286 0 (n_ + 1).toNat (S_.1 13 0 214)) := gi_aI hIx44_ (show 0 ≤ (S_.1 13 0 214) ∧ (S_.1 13 0 214) ≤ 20010 from ⟨by omega, by omega⟩)
                have hFx48_ : ai_fr (sx_W vw_510) S0_ (sm_aI (sm_aI (sm_aI S_ 286 0 n_.toNat (S_.1 13 0 214)) 286 0 (n_ + 1).toNat (S_.1 13 0 214)) 286 0 (n_ + 1).toNat (S_.1 13 0 214)) := ai_fr_tr hFx45_ (ai_fr_aI rfl)
                refine sm_T_inc (a := 5) (z := 1) (v := n_) (w := n_ + 1) rfl rfl (by omega) (by omega) (by omega) ?_ -- pc_ 208
                refine sm_T_go 1 (c1 := (90, [some (.inr (.inr (some (13, 0)))), some (.inl c_), some (.inl a_), some (.inl b_), some (.inl fi_), some (.inl (n_ + 1))], [], sm_aI (sm_aI (sm_aI S_ 286 0 n_.toNat (S_.1 13 0 214)) 286 0 (n_ + 1).toNat (S_.1 13 0 214)) 286 0 (n_ + 1).toNat (S_.1 13 0 214))) rfl ?_
                refine ih_.2 fi_ (n_ + 1) (sm_aI (sm_aI (sm_aI S_ 286 0 n_.toNat (S_.1 13 0 214)) 286 0 (n_ + 1).toNat (S_.1 13 0 214)) 286 0 (n_ + 1).toNat (S_.1 13 0 214)) hIx47_ hFx48_ ⟨?_, trivial⟩ ?_
                · ((try simp only [rd_eq, rd_ne, rf_eq, rf_nk, rf_nt, rd_fa, rd_af, rd_fl, rd_al, rd_lf, rd_la, rd_leq, rd_lne, rd_fr, rd_ar, ne_eq, Nat.reduceEqDiff, not_false_eq_true]); omega)
                · omega
              · have cx46_ : ¬ (n_ < fi_) := of_decide_eq_false cx46_
                exfalso; omega
            · have cx43_ : ¬ ((S_.2.2.1 284 0 n_.toNat) = 1) := of_decide_eq_false cx43_
              refine sm_T_go 5 (c1 := (152, [some (.inr (.inr (some (13, 0)))), some (.inl c_), some (.inl a_), some (.inl b_), some (.inl fi_), some (.inl n_)], [.inl 0, .inl (S_.1 13 0 214), .inr (.inr (some (285, 0)))], sm_aI S_ 286 0 n_.toNat (S_.1 13 0 214))) rfl ?_
              refine sm_T_iast (n := 20010) rfl rfl (by omega) (by omega) ?_
              have hIx49_ : gi (sm_aI (sm_aI S_ 286 0 n_.toNat (S_.1 13 0 214)) 285 0 (S_.1 13 0 214).toNat 0) := gi_aI hIx11_ (show (-2147483648) ≤ 0 ∧ 0 ≤ 2147483647 from ⟨by omega, by omega⟩)
              have hFx50_ : ai_fr (sx_W vw_510) S0_ (sm_aI (sm_aI S_ 286 0 n_.toNat (S_.1 13 0 214)) 285 0 (S_.1 13 0 214).toNat 0) := ai_fr_tr hFx12_ (ai_fr_aI rfl)
              refine sm_T_go 4 (c1 := (159, [some (.inr (.inr (some (13, 0)))), some (.inl c_), some (.inl a_), some (.inl b_), some (.inl fi_), some (.inl n_)], [.inl 1, .inl (S_.1 13 0 214), .inr (.inr (some (13, 0)))], sm_aI (sm_aI S_ 286 0 n_.toNat (S_.1 13 0 214)) 285 0 (S_.1 13 0 214).toNat 0)) rfl ?_
              refine sm_T_bin (w := (S_.1 13 0 214) + 1) rfl (bi_add (by omega) (by omega) (by omega)) ?_ -- pc_ 159
              have hIx51_ : gi (sm_pI (sm_aI (sm_aI S_ 286 0 n_.toNat (S_.1 13 0 214)) 285 0 (S_.1 13 0 214).toNat 0) 13 0 214 ((S_.1 13 0 214) + 1)) := gi_pI hIx49_ (show 0 ≤ (S_.1 13 0 214) + 1 ∧ (S_.1 13 0 214) + 1 ≤ 20001 from ⟨by omega, by omega⟩)
              have hFx52_ : ai_fr (sx_W vw_510) S0_ (sm_pI (sm_aI (sm_aI S_ 286 0 n_.toNat (S_.1 13 0 214)) 285 0 (S_.1 13 0 214).toNat 0) 13 0 214 ((S_.1 13 0 214) + 1)) := ai_fr_tr hFx50_ (ai_fr_pI rfl)
              refine sm_T_go 5 (c1 := (170, [some (.inr (.inr (some (13, 0)))), some (.inl c_), some (.inl a_), some (.inl b_), some (.inl fi_), some (.inl n_)], [.inl 1, .inl n_, .inr (.inr (some (286, 0)))], sm_pI (sm_aI (sm_aI S_ 286 0 n_.toNat (S_.1 13 0 214)) 285 0 (S_.1 13 0 214).toNat 0) 13 0 214 ((S_.1 13 0 214) + 1))) rfl ?_
              refine sm_T_bin (w := n_ + 1) rfl (bi_add (by omega) (by omega) (by omega)) ?_ -- pc_ 170
              refine sm_T_go 2 (c1 := (175, [some (.inr (.inr (some (13, 0)))), some (.inl c_), some (.inl a_), some (.inl b_), some (.inl fi_), some (.inl n_)], [.inl ((S_.1 13 0 214) + 1), .inl (n_ + 1), .inr (.inr (some (286, 0)))], sm_pI (sm_aI (sm_aI S_ 286 0 n_.toNat (S_.1 13 0 214)) 285 0 (S_.1 13 0 214).toNat 0) 13 0 214 ((S_.1 13 0 214) + 1))) rfl ?_
              refine sm_T_iast (n := 257) rfl rfl (by omega) (by omega) ?_
              have hIx53_ : gi (sm_aI (sm_pI (sm_aI (sm_aI S_ 286 0 n_.toNat (S_.1 13 0 214)) 285 0 (S_.1 13 0 214).toNat 0) 13 0 214 ((S_.1 13 0 214) + 1)) 286 0 (n_ + 1).toNat ((S_.1 13 0 214) + 1)) := gi_aI hIx51_ (show 0 ≤ (S_.1 13 0 214) + 1 ∧ (S_.1 13 0 214) + 1 ≤ 20010 from ⟨by omega, by omega⟩)
              have hFx54_ : ai_fr (sx_W vw_510) S0_ (sm_aI (sm_pI (sm_aI (sm_aI S_ 286 0 n_.toNat (S_.1 13 0 214)) 285 0 (S_.1 13 0 214).toNat 0) 13 0 214 ((S_.1 13 0 214) + 1)) 286 0 (n_ + 1).toNat ((S_.1 13 0 214) + 1)) := ai_fr_tr hFx52_ (ai_fr_aI rfl)
              refine sm_T_go 2 (c1 := (180, [some (.inr (.inr (some (13, 0)))), some (.inl c_), some (.inl a_), some (.inl b_), some (.inl fi_), some (.inl n_)], [.inl fi_, .inl n_], sm_aI (sm_pI (sm_aI (sm_aI S_ 286 0 n_.toNat (S_.1 13 0 214)) 285 0 (S_.1 13 0 214).toNat 0) 13 0 214 ((S_.1 13 0 214) + 1)) 286 0 (n_ + 1).toNat ((S_.1 13 0 214) + 1))) rfl ?_
              refine sm_T_br (a := 2) (z := 15) rfl (fun cx55_ => ?_) (fun cx55_ => ?_)
              · have cx55_ : n_ < fi_ := of_decide_eq_true cx55_
                refine sm_T_go 4 (c1 := (202, [some (.inr (.inr (some (13, 0)))), some (.inl c_), some (.inl a_), some (.inl b_), some (.inl fi_), some (.inl n_)], [.inl 1, .inl n_, .inr (.inr (some (286, 0)))], sm_aI (sm_pI (sm_aI (sm_aI S_ 286 0 n_.toNat (S_.1 13 0 214)) 285 0 (S_.1 13 0 214).toNat 0) 13 0 214 ((S_.1 13 0 214) + 1)) 286 0 (n_ + 1).toNat ((S_.1 13 0 214) + 1))) rfl ?_
                refine sm_T_bin (w := n_ + 1) rfl (bi_add (by omega) (by omega) (by omega)) ?_ -- pc_ 202
                refine sm_T_go 2 (c1 := (207, [some (.inr (.inr (some (13, 0)))), some (.inl c_), some (.inl a_), some (.inl b_), some (.inl fi_), some (.inl n_)], [.inl ((S_.1 13 0 214) + 1), .inl (n_ + 1), .inr (.inr (some (286, 0)))], sm_aI (sm_pI (sm_aI (sm_aI S_ 286 0 n_.toNat (S_.1 13 0 214)) 285 0 (S_.1 13 0 214).toNat 0) 13 0 214 ((S_.1 13 0 214) + 1)) 286 0 (n_ + 1).toNat ((S_.1 13 0 214) + 1))) rfl ?_
                refine sm_T_iast (n := 257) rfl rfl (by omega) (by omega) ?_
                have hIx56_ : gi (sm_aI (sm_aI (sm_pI (sm_aI (sm_aI S_ 286 0 n_.toNat (S_.1 13 0 214)) 285 0 (S_.1 13 0 214).toNat 0) 13 0 214 ((S_.1 13 0 214) + 1)) 286 0 (n_ + 1).toNat ((S_.1 13 0 214) + 1)) 286 0 (n_ + 1).toNat ((S_.1 13 0 214) + 1)) := gi_aI hIx53_ (show 0 ≤ (S_.1 13 0 214) + 1 ∧ (S_.1 13 0 214) + 1 ≤ 20010 from ⟨by omega, by omega⟩)
                have hFx57_ : ai_fr (sx_W vw_510) S0_ (sm_aI (sm_aI (sm_pI (sm_aI (sm_aI S_ 286 0 n_.toNat (S_.1 13 0 214)) 285 0 (S_.1 13 0 214).toNat 0) 13 0 214 ((S_.1 13 0 214) + 1)) 286 0 (n_ + 1).toNat ((S_.1 13 0 214) + 1)) 286 0 (n_ + 1).toNat ((S_.1 13 0 214) + 1)) := ai_fr_tr hFx54_ (ai_fr_aI rfl)
                refine sm_T_inc (a := 5) (z := 1) (v := n_) (w := n_ + 1) rfl rfl (by omega) (by omega) (by omega) ?_ -- pc_ 208
                refine sm_T_go 1 (c1 := (90, [some (.inr (.inr (some (13, 0)))), some (.inl c_), some (.inl a_), some (.inl b_), some (.inl fi_), some (.inl (n_ + 1))], [], sm_aI (sm_aI (sm_pI (sm_aI (sm_aI S_ 286 0 n_.toNat (S_.1 13 0 214)) 285 0 (S_.1 13 0 214).toNat 0) 13 0 214 ((S_.1 13 0 214) + 1)) 286 0 (n_ + 1).toNat ((S_.1 13 0 214) + 1)) 286 0 (n_ + 1).toNat ((S_.1 13 0 214) + 1))) rfl ?_
                refine ih_.2 fi_ (n_ + 1) (sm_aI (sm_aI (sm_pI (sm_aI (sm_aI S_ 286 0 n_.toNat (S_.1 13 0 214)) 285 0 (S_.1 13 0 214).toNat 0) 13 0 214 ((S_.1 13 0 214) + 1)) 286 0 (n_ + 1).toNat ((S_.1 13 0 214) + 1)) 286 0 (n_ + 1).toNat ((S_.1 13 0 214) + 1)) hIx56_ hFx57_ ⟨?_, trivial⟩ ?_
                · ((try simp only [rd_eq, rd_ne, rf_eq, rf_nk, rf_nt, rd_fa, rd_af, rd_fl, rd_al, rd_lf, rd_la, rd_leq, rd_lne, rd_fr, rd_ar, ne_eq, Nat.reduceEqDiff, not_false_eq_true]); omega)
                · omega
              · have cx55_ : ¬ (n_ < fi_) := of_decide_eq_false cx55_
                exfalso; omega
set_option maxHeartbeats 1500000 in
set_option maxRecDepth 20000 in
theorem vc_510 {sc_ : Nat × (Nat → Int)} (c_ : Int) (a_ : Int) (b_ : Int) (S0_ : sm_S) (hI_ : gi S0_) (hc_ : 0 ≤ c_ ∧ c_ ≤ 3) (hx_ : S0_.2.2.1 223 0 c_.toNat + S0_.2.2.1 224 0 c_.toNat ≤ 12) (hg_ : cgt c_ S0_) (ho_ : con c_ S0_) (ha_ : 0 ≤ a_ ∧ a_ < 4096) (hb_ : 0 ≤ b_ ∧ b_ < 4096) : sm_T (mt_P sc_) 5 510 (0, [some (.inr (.inr (some (13, 0)))), some (.inl c_), some (.inl a_), some (.inl b_), none, none], [], S0_) (fun ro9_ => ∃ u_ S1_, ro9_ = (.inl u_, S1_, 0) ∧ vq_510 c_ a_ b_ S0_ u_ S1_) := by
  have hF_ : ai_fr (sx_W vw_510) S0_ S0_ := ai_fr_rf
  refine sm_T_go 4 (c1 := (5, [some (.inr (.inr (some (13, 0)))), some (.inl c_), some (.inl a_), some (.inl b_), none, none], [.inl 6, .inl a_, .inl c_, .inr (.inr (some (13, 0)))], S0_)) rfl ?_
  refine sm_T_bin (w := (a_ / 64)) rfl (bi_shr (k := 6) (by decide) (by omega) (by omega)) ?_ -- pc_ 5
  refine sm_T_go 3 (c1 := (9, [some (.inr (.inr (some (13, 0)))), some (.inl c_), some (.inl a_), some (.inl b_), none, none], [.inr (.inl 0), .inl (-1), .inl (-1), .inl (a_ / 64), .inl c_, .inr (.inr (some (13, 0)))], S0_)) rfl ?_
  refine sm_T_cal (d1 := 1) (Q1 := vq_430 c_ (a_ / 64) (-1) (-1) 0 S0_) rfl rfl (by decide) (vc_430 c_ (a_ / 64) (-1) (-1) 0 S0_ hI_ (by exact hc_) (by omega) (by exact hx_) (by exact hg_)) (fun u_ Sx1_ px4_ => ?_)
  obtain ⟨rfl, hIx2_, hFx3_, px4_⟩ := px4_
  have hFx5_ : ai_fr (sx_W vw_510) S0_ Sx1_ := ai_fr_tr hF_ (fr_le hFx3_ rfl)
  refine sm_T_go 2 (c1 := (15, [some (.inr (.inr (some (13, 0)))), some (.inl c_), some (.inl a_), some (.inl b_), some (.inl 0), none], [], Sx1_)) rfl ?_
  refine (vl_510 c_ a_ b_ S0_ hc_ hx_ hg_ ho_ ha_ hb_ _).1 0 Sx1_ hIx2_ hFx5_ ⟨?_, trivial⟩ (Nat.lt_succ_self _)
  · ((try simp only [rd_eq, rd_ne, rf_eq, rf_nk, rf_nt, rd_fa, rd_af, rd_fl, rd_al, rd_lf, rd_la, rd_leq, rd_lne, rd_fr, rd_ar, ne_eq, Nat.reduceEqDiff, not_false_eq_true]); omega)
/-! M_.arePatterns -/
def vw_511 : sx_Wl := ([], [], [])
def vq_511 (c_ : Int) (a_ : Int) (b_ : Int) (S0_ : sm_S) (u_ : Option sm_V) (S1_ : sm_S) : Prop := S0_ = S1_ ∧ ∃ v_ : Int, u_ = some (.inl v_) ∧ ((v_ = 1 ∧ 0 ≤ a_ ∧ a_ < 4096 ∧ 0 ≤ b_ ∧ b_ < 4096) ∨ v_ = 0)
set_option maxHeartbeats 400000 in
set_option maxRecDepth 20000 in
theorem vc_511 {sc_ : Nat × (Nat → Int)} (c_ : Int) (a_ : Int) (b_ : Int) (S0_ : sm_S) (hI_ : gi S0_) (hc_ : 0 ≤ c_ ∧ c_ ≤ 3) (hx_ : S0_.2.2.1 223 0 c_.toNat + S0_.2.2.1 224 0 c_.toNat ≤ 12) (ha_ : (-2147483648) ≤ a_ ∧ a_ ≤ 2147483647) (hb_ : (-2147483648) ≤ b_ ∧ b_ ≤ 2147483647) : sm_T (mt_P sc_) 1 511 (0, [some (.inr (.inr (some (13, 0)))), some (.inl c_), some (.inl a_), some (.inl b_)], [], S0_) (fun ro9_ => ∃ u_ S1_, ro9_ = (.inl u_, S1_, 0) ∧ vq_511 c_ a_ b_ S0_ u_ S1_) := by
  have hF_ : ai_fr (sx_W vw_511) S0_ S0_ := ai_fr_rf
  have cA_ : 0 ≤ S0_.2.2.1 223 0 c_.toNat ∧ S0_.2.2.1 223 0 c_.toNat ≤ 12 := hI_.2 223 0 _
  have cB_ : 0 ≤ S0_.2.2.1 224 0 c_.toNat ∧ S0_.2.2.1 224 0 c_.toNat ≤ 6 := hI_.2 224 0 _
  have cG_ : 0 ≤ S0_.2.2.1 228 0 c_.toNat ∧ S0_.2.2.1 228 0 c_.toNat ≤ 150 := hI_.2 228 0 _
  have w9_ := pw_le (n := (S0_.2.2.1 223 0 c_.toNat + S0_.2.2.1 224 0 c_.toNat).toNat) (m := 12) (by omega)
  refine sm_T_go 4 (c1 := (6, [some (.inr (.inr (some (13, 0)))), some (.inl c_), some (.inl a_), some (.inl b_)], [.inl c_, .inr (.inr (some (223, 0))), .inl a_], S0_)) rfl ?_
  refine sm_T_iald (n := 4) rfl rfl (by omega) (by omega) ?_
  have bx1_ : 0 ≤ S0_.2.2.1 223 0 c_.toNat ∧ S0_.2.2.1 223 0 c_.toNat ≤ 12 := hI_.2 223 0 _
  refine sm_T_go 3 (c1 := (12, [some (.inr (.inr (some (13, 0)))), some (.inl c_), some (.inl a_), some (.inl b_)], [.inl c_, .inr (.inr (some (224, 0))), .inl (S0_.2.2.1 223 0 c_.toNat), .inl a_], S0_)) rfl ?_
  refine sm_T_iald (n := 4) rfl rfl (by omega) (by omega) ?_
  have bx2_ : 0 ≤ S0_.2.2.1 224 0 c_.toNat ∧ S0_.2.2.1 224 0 c_.toNat ≤ 6 := hI_.2 224 0 _
  refine sm_T_bin (w := (S0_.2.2.1 223 0 c_.toNat) + (S0_.2.2.1 224 0 c_.toNat)) rfl (bi_add (by omega) (by omega) (by omega)) ?_ -- pc_ 13
  refine sm_T_cal (d1 := 0) (Q1 := vq_381 a_ ((S0_.2.2.1 223 0 c_.toNat) + (S0_.2.2.1 224 0 c_.toNat)) S0_) rfl rfl (by decide) (vc_381 a_ ((S0_.2.2.1 223 0 c_.toNat) + (S0_.2.2.1 224 0 c_.toNat)) S0_ hI_ (by omega) (by omega)) (fun u_ Sx3_ px6_ => ?_)
  obtain ⟨rfl, vx8_, rfl, px6_⟩ := px6_
  refine sm_T_b0 (a := 0) (z := 27) rfl (fun cx9_ => ?_) (fun cx9_ => ?_)
  · have cx9_ : vx8_ = 0 := of_decide_eq_true cx9_
    refine sm_T_go 1 (c1 := (45, [some (.inr (.inr (some (13, 0)))), some (.inl c_), some (.inl a_), some (.inl b_)], [.inl 0], S0_)) rfl ?_
    refine sm_T_rz rfl (by omega) ⟨_, _, rfl, rfl, _, rfl, ?_⟩
    omega
  · have cx9_ : ¬ (vx8_ = 0) := of_decide_eq_false cx9_
    refine sm_T_go 4 (c1 := (26, [some (.inr (.inr (some (13, 0)))), some (.inl c_), some (.inl a_), some (.inl b_)], [.inl c_, .inr (.inr (some (223, 0))), .inl b_], S0_)) rfl ?_
    refine sm_T_iald (n := 4) rfl rfl (by omega) (by omega) ?_
    refine sm_T_go 3 (c1 := (32, [some (.inr (.inr (some (13, 0)))), some (.inl c_), some (.inl a_), some (.inl b_)], [.inl c_, .inr (.inr (some (224, 0))), .inl (S0_.2.2.1 223 0 c_.toNat), .inl b_], S0_)) rfl ?_
    refine sm_T_iald (n := 4) rfl rfl (by omega) (by omega) ?_
    refine sm_T_bin (w := (S0_.2.2.1 223 0 c_.toNat) + (S0_.2.2.1 224 0 c_.toNat)) rfl (bi_add (by omega) (by omega) (by omega)) ?_ -- pc_ 33
    refine sm_T_cal (d1 := 0) (Q1 := vq_381 b_ ((S0_.2.2.1 223 0 c_.toNat) + (S0_.2.2.1 224 0 c_.toNat)) S0_) rfl rfl (by decide) (vc_381 b_ ((S0_.2.2.1 223 0 c_.toNat) + (S0_.2.2.1 224 0 c_.toNat)) S0_ hI_ (by omega) (by omega)) (fun u_ Sx10_ px13_ => ?_)
    obtain ⟨rfl, vx15_, rfl, px13_⟩ := px13_
    refine sm_T_b0 (a := 0) (z := 7) rfl (fun cx16_ => ?_) (fun cx16_ => ?_)
    · have cx16_ : vx15_ = 0 := of_decide_eq_true cx16_
      refine sm_T_go 1 (c1 := (45, [some (.inr (.inr (some (13, 0)))), some (.inl c_), some (.inl a_), some (.inl b_)], [.inl 0], S0_)) rfl ?_
      refine sm_T_rz rfl (by omega) ⟨_, _, rfl, rfl, _, rfl, ?_⟩
      omega
    · have cx16_ : ¬ (vx15_ = 0) := of_decide_eq_false cx16_
      refine sm_T_go 2 (c1 := (45, [some (.inr (.inr (some (13, 0)))), some (.inl c_), some (.inl a_), some (.inl b_)], [.inl 1], S0_)) rfl ?_
      refine sm_T_rz rfl (by omega) ⟨_, _, rfl, rfl, _, rfl, ?_⟩
      omega
/-! M_.wave -/
def vw_512 : sx_Wl := ([(13, 0), (13, 159), (13, 214)], [238, 243, 244, 245, 246, 247, 248, 249, 250, 270, 284, 285, 286, 287, 288], [])
def vq_512 (a1_ : Int) (a2_ : Int) (a3_ : Int) (a4_ : Int) (a5_ : Int) (S0_ : sm_S) (u_ : Option sm_V) (S1_ : sm_S) : Prop := ∃ v_ : Int, u_ = some (.inl v_) ∧ gi S1_ ∧ ai_fr (sx_W vw_512) S0_ S1_ ∧ ((-2147483648 ≤ v_ ∧ v_ ≤ 2147483647) ∧ jR S1_)
set_option maxHeartbeats 400000 in
set_option maxRecDepth 20000 in
theorem vl_512 {sc_ : Nat × (Nat → Int)} (a1_ : Int) (a2_ : Int) (a3_ : Int) (a4_ : Int) (a5_ : Int) (S0_ : sm_S) (ha1_ : (-2147483648) ≤ a1_ ∧ a1_ ≤ 2147483647) (ha2_ : (-2147483648) ≤ a2_ ∧ a2_ ≤ 2147483647) (ha3_ : (-2147483648) ≤ a3_ ∧ a3_ ≤ 2147483647) (ha4_ : (-2147483648) ≤ a4_ ∧ a4_ ≤ 2147483647) (ha5_ : (-2147483648) ≤ a5_ ∧ a5_ ≤ 2147483647) (hJ_ : jR S0_) : ∀ nn_ : Nat, (∀ (v9_ : Int) (k_ : Int) (S_ : sm_S), gi S_ → ai_fr (sx_W vw_512) S0_ S_ → ((0 ≤ a4_ ∧ a4_ < 168 ∧ 0 ≤ k_ ∧ k_ ≤ 20010) ∧ True) → ((90000 - k_).toNat) < nn_ → sm_T (mt_P sc_) 6 512 (86, [some (.inr (.inr (some (13, 0)))), some (.inl a1_), some (.inl a2_), some (.inl a3_), some (.inl a4_), some (.inl a5_), some (.inl v9_), some (.inl k_)], [], S_) (fun ro9_ => ∃ u_ S1_, ro9_ = (.inl u_, S1_, 0) ∧ vq_512 a1_ a2_ a3_ a4_ a5_ S0_ u_ S1_)) := by
  intro nn_
  induction nn_ with
  | zero => exact fun _ _ _ _ _ _ h_ => absurd h_ (Nat.not_lt_zero _)
  | succ nn_ ih_ =>
    rintro v9_ k_ S_ hI_ hF_ ⟨h0_, -⟩ hm_
    refine sm_T_go 5 (c1 := (95, [some (.inr (.inr (some (13, 0)))), some (.inl a1_), some (.inl a2_), some (.inl a3_), some (.inl a4_), some (.inl a5_), some (.inl v9_), some (.inl k_)], [.inl 1, .inl a4_, .inr (.inr (some (286, 0))), .inl k_], S_)) rfl ?_
    refine sm_T_bin (w := a4_ + 1) rfl (bi_add (by omega) (by omega) (by omega)) ?_ -- pc_ 95
    refine sm_T_iald (n := 257) rfl rfl (by omega) (by omega) ?_
    have bx1_ : 0 ≤ S_.2.2.1 286 0 (a4_ + 1).toNat ∧ S_.2.2.1 286 0 (a4_ + 1).toNat ≤ 20010 := hI_.2 286 0 _
    refine sm_T_br (a := 3) (z := 38) rfl (fun cx2_ => ?_) (fun cx2_ => ?_)
    · have cx2_ : (S_.2.2.1 286 0 (a4_ + 1).toNat) ≤ k_ := of_decide_eq_true cx2_
      refine sm_T_go 1 (c1 := (137, [some (.inr (.inr (some (13, 0)))), some (.inl a1_), some (.inl a2_), some (.inl a3_), some (.inl a4_), some (.inl a5_), some (.inl v9_), some (.inl k_)], [.inl v9_], S_)) rfl ?_
      refine sm_T_b0 (a := 0) (z := 7) rfl (fun cx3_ => ?_) (fun cx3_ => ?_)
      · have cx3_ : v9_ = 0 := of_decide_eq_true cx3_
        refine sm_T_go 1 (c1 := (145, [some (.inr (.inr (some (13, 0)))), some (.inl a1_), some (.inl a2_), some (.inl a3_), some (.inl a4_), some (.inl a5_), some (.inl v9_), some (.inl k_)], [.inl 0], S_)) rfl ?_
        refine sm_T_ri rfl ⟨_, _, rfl, _, rfl, hI_, hF_, ?_⟩
        exact ⟨⟨by omega, by omega⟩, jR_fr hJ_ hI_ hF_⟩
      · have cx3_ : ¬ (v9_ = 0) := of_decide_eq_false cx3_
        refine sm_T_go 2 (c1 := (145, [some (.inr (.inr (some (13, 0)))), some (.inl a1_), some (.inl a2_), some (.inl a3_), some (.inl a4_), some (.inl a5_), some (.inl v9_), some (.inl k_)], [.inl 1], S_)) rfl ?_
        refine sm_T_ri rfl ⟨_, _, rfl, _, rfl, hI_, hF_, ?_⟩
        exact ⟨⟨by omega, by omega⟩, jR_fr hJ_ hI_ hF_⟩
    · have cx2_ : ¬ ((S_.2.2.1 286 0 (a4_ + 1).toNat) ≤ k_) := of_decide_eq_false cx2_
      refine sm_T_go 3 (c1 := (106, [some (.inr (.inr (some (13, 0)))), some (.inl a1_), some (.inl a2_), some (.inl a3_), some (.inl a4_), some (.inl a5_), some (.inl v9_), some (.inl k_)], [.inl k_, .inr (.inr (some (285, 0)))], S_)) rfl ?_
      refine sm_T_iald (n := 20010) rfl rfl (by omega) (by omega) ?_
      have bx4_ : (-2147483648) ≤ S_.2.2.1 285 0 k_.toNat ∧ S_.2.2.1 285 0 k_.toNat ≤ 2147483647 := hI_.2 285 0 _
      refine sm_T_go 1 (c1 := (109, [some (.inr (.inr (some (13, 0)))), some (.inl a1_), some (.inl a2_), some (.inl a3_), some (.inl a4_), some (.inl a5_), some (.inl v9_), some (.inl k_)], [.inl a5_, .inl (S_.2.2.1 285 0 k_.toNat)], S_)) rfl ?_
      refine sm_T_br (a := 4) (z := 16) rfl (fun cx5_ => ?_) (fun cx5_ => ?_)
      · have cx5_ : a5_ < (S_.2.2.1 285 0 k_.toNat) := of_decide_eq_true cx5_
        refine sm_T_go 2 (c1 := (129, [some (.inr (.inr (some (13, 0)))), some (.inl a1_), some (.inl a2_), some (.inl a3_), some (.inl a4_), some (.inl a5_), some (.inl v9_), some (.inl k_)], [], S_)) rfl ?_
        refine sm_T_inc (a := 7) (z := 1) (v := k_) (w := k_ + 1) rfl rfl (by omega) (by omega) (by omega) ?_ -- pc_ 129
        refine sm_T_go 1 (c1 := (86, [some (.inr (.inr (some (13, 0)))), some (.inl a1_), some (.inl a2_), some (.inl a3_), some (.inl a4_), some (.inl a5_), some (.inl v9_), some (.inl (k_ + 1))], [], S_)) rfl ?_
        refine ih_ v9_ (k_ + 1) S_ hI_ hF_ ⟨?_, trivial⟩ ?_
        · omega
        · omega
      · have cx5_ : ¬ (a5_ < (S_.2.2.1 285 0 k_.toNat)) := of_decide_eq_false cx5_
        refine sm_T_go 1 (c1 := (114, [some (.inr (.inr (some (13, 0)))), some (.inl a1_), some (.inl a2_), some (.inl a3_), some (.inl a4_), some (.inl a5_), some (.inl v9_), some (.inl k_)], [.inl v9_], S_)) rfl ?_
        refine sm_T_b0 (a := 1) (z := 7) rfl (fun cx6_ => ?_) (fun cx6_ => ?_)
        · have cx6_ : v9_ ≠ 0 := of_decide_eq_true cx6_
          refine sm_T_go 3 (c1 := (129, [some (.inr (.inr (some (13, 0)))), some (.inl a1_), some (.inl a2_), some (.inl a3_), some (.inl a4_), some (.inl a5_), some (.inl 0), some (.inl k_)], [], S_)) rfl ?_
          refine sm_T_inc (a := 7) (z := 1) (v := k_) (w := k_ + 1) rfl rfl (by omega) (by omega) (by omega) ?_ -- pc_ 129
          refine sm_T_go 1 (c1 := (86, [some (.inr (.inr (some (13, 0)))), some (.inl a1_), some (.inl a2_), some (.inl a3_), some (.inl a4_), some (.inl a5_), some (.inl 0), some (.inl (k_ + 1))], [], S_)) rfl ?_
          refine ih_ 0 (k_ + 1) S_ hI_ hF_ ⟨?_, trivial⟩ ?_
          · omega
          · omega
        · have cx6_ : ¬ (v9_ ≠ 0) := of_decide_eq_false cx6_
          refine sm_T_go 3 (c1 := (129, [some (.inr (.inr (some (13, 0)))), some (.inl a1_), some (.inl a2_), some (.inl a3_), some (.inl a4_), some (.inl a5_), some (.inl 1), some (.inl k_)], [], S_)) rfl ?_
          refine sm_T_inc (a := 7) (z := 1) (v := k_) (w := k_ + 1) rfl rfl (by omega) (by omega) (by omega) ?_ -- pc_ 129
          refine sm_T_go 1 (c1 := (86, [some (.inr (.inr (some (13, 0)))), some (.inl a1_), some (.inl a2_), some (.inl a3_), some (.inl a4_), some (.inl a5_), some (.inl 1), some (.inl (k_ + 1))], [], S_)) rfl ?_
          refine ih_ 1 (k_ + 1) S_ hI_ hF_ ⟨?_, trivial⟩ ?_
          · omega
          · omega
set_option maxHeartbeats 400000 in
set_option maxRecDepth 20000 in
theorem vc_512 {sc_ : Nat × (Nat → Int)} (a1_ : Int) (a2_ : Int) (a3_ : Int) (a4_ : Int) (a5_ : Int) (S0_ : sm_S) (hI_ : gi S0_) (ha1_ : (-2147483648) ≤ a1_ ∧ a1_ ≤ 2147483647) (ha2_ : (-2147483648) ≤ a2_ ∧ a2_ ≤ 2147483647) (ha3_ : (-2147483648) ≤ a3_ ∧ a3_ ≤ 2147483647) (ha4_ : (-2147483648) ≤ a4_ ∧ a4_ ≤ 2147483647) (ha5_ : (-2147483648) ≤ a5_ ∧ a5_ ≤ 2147483647) (hJ_ : jR S0_) : sm_T (mt_P sc_) 6 512 (0, [some (.inr (.inr (some (13, 0)))), some (.inl a1_), some (.inl a2_), some (.inl a3_), some (.inl a4_), some (.inl a5_), none, none], [], S0_) (fun ro9_ => ∃ u_ S1_, ro9_ = (.inl u_, S1_, 0) ∧ vq_512 a1_ a2_ a3_ a4_ a5_ S0_ u_ S1_) := by
  have hF_ : ai_fr (sx_W vw_512) S0_ S0_ := ai_fr_rf
  refine sm_T_go 4 (c1 := (5, [some (.inr (.inr (some (13, 0)))), some (.inl a1_), some (.inl a2_), some (.inl a3_), some (.inl a4_), some (.inl a5_), none, none], [.inl a4_, .inl a1_, .inr (.inr (some (13, 0))), .inr (.inr (some (13, 0)))], S0_)) rfl ?_
  refine sm_T_cal (d1 := 1) (Q1 := vq_450 a1_ a4_ S0_) rfl rfl (by decide) (vc_450 a1_ a4_ S0_ hI_ (by omega) (by omega)) (fun u_ Sx1_ px4_ => ?_)
  obtain ⟨rfl, vx6_, rfl, px4_⟩ := px4_
  have e5_ := px4_
  refine sm_T_b0 (a := 1) (z := 7) rfl (fun cx7_ => ?_) (fun cx7_ => ?_)
  · have cx7_ : vx6_ ≠ 0 := of_decide_eq_true cx7_
    have K9_ : cRk a1_ S0_ := hJ_.2 a1_ (by omega) (by omega) (by omega)
    obtain ⟨K1_, K2_, K3_, K4_, K5_, K6_, K7_⟩ := K9_
    refine sm_T_go 4 (c1 := (19, [some (.inr (.inr (some (13, 0)))), some (.inl a1_), some (.inl a2_), some (.inl a3_), some (.inl a4_), some (.inl a5_), none, none], [.inl a3_, .inl a2_, .inl a1_, .inr (.inr (some (13, 0))), .inr (.inr (some (13, 0)))], S0_)) rfl ?_
    refine sm_T_cal (d1 := 1) (Q1 := vq_511 a1_ a2_ a3_ S0_) rfl rfl (by decide) (vc_511 a1_ a2_ a3_ S0_ hI_ (by omega) (by exact K1_) (by omega) (by omega)) (fun u_ Sx8_ px11_ => ?_)
    obtain ⟨rfl, vx13_, rfl, px11_⟩ := px11_
    have e19_ := px11_
    refine sm_T_b0 (a := 0) (z := 15) rfl (fun cx14_ => ?_) (fun cx14_ => ?_)
    · have cx14_ : vx13_ = 0 := of_decide_eq_true cx14_
      have hIx15_ : gi (sm_pI S0_ 13 0 0 2) := gi_pI hI_ (show 0 ≤ 2 ∧ 2 ≤ 4 from ⟨by omega, by omega⟩)
      have hFx16_ : ai_fr (sx_W vw_512) S0_ (sm_pI S0_ 13 0 0 2) := ai_fr_tr hF_ (ai_fr_pI rfl)
      refine sm_T_go 7 (c1 := (67, [some (.inr (.inr (some (13, 0)))), some (.inl a1_), some (.inl a2_), some (.inl a3_), some (.inl a4_), some (.inl a5_), none, none], [.inl 0], sm_pI S0_ 13 0 0 2)) rfl ?_
      refine sm_T_ri rfl ⟨_, _, rfl, _, rfl, hIx15_, hFx16_, ?_⟩
      exact ⟨⟨by omega, by omega⟩, jR_fr hJ_ hIx15_ hFx16_⟩
    · have cx14_ : ¬ (vx13_ = 0) := of_decide_eq_false cx14_
      refine sm_T_go 2 (c1 := (28, [some (.inr (.inr (some (13, 0)))), some (.inl a1_), some (.inl a2_), some (.inl a3_), some (.inl a4_), some (.inl a5_), none, none], [.inl (-1), .inl a5_, .inr (.inr (some (13, 0)))], S0_)) rfl ?_
      refine sm_T_nt (u := some (.inl 100000)) (S1 := S0_) rfl rfl rfl ?_
      refine sm_T_cal (d1 := 0) (Q1 := vq_278 a5_ (-1) 100000 S0_) rfl rfl (by decide) (vc_278 a5_ (-1) 100000 S0_ hI_ ) (fun u_ Sx17_ px20_ => ?_)
      obtain ⟨rfl, vx22_, rfl, px20_⟩ := px20_
      have e31_ := px20_
      refine sm_T_b0 (a := 1) (z := 7) rfl (fun cx23_ => ?_) (fun cx23_ => ?_)
      · have cx23_ : vx22_ ≠ 0 := of_decide_eq_true cx23_
        refine sm_T_go 4 (c1 := (45, [some (.inr (.inr (some (13, 0)))), some (.inl a1_), some (.inl a2_), some (.inl a3_), some (.inl a4_), some (.inl a5_), none, none], [.inl a3_, .inl a2_, .inl a1_, .inr (.inr (some (13, 0))), .inr (.inr (some (13, 0)))], S0_)) rfl ?_
        refine sm_T_cal (d1 := 5) (Q1 := vq_510 a1_ a2_ a3_ S0_) rfl rfl (by decide) (vc_510 a1_ a2_ a3_ S0_ hI_ (by omega) (by exact K1_) (by exact K4_) (by exact K5_) (by omega) (by omega)) (fun u_ Sx24_ px27_ => ?_)
        obtain ⟨vx29_, rfl, hIx25_, hFx26_, px27_⟩ := px27_
        have hFx28_ : ai_fr (sx_W vw_512) S0_ Sx24_ := ai_fr_tr hF_ (fr_le hFx26_ rfl)
        refine sm_T_b0 (a := 0) (z := 7) rfl (fun cx30_ => ?_) (fun cx30_ => ?_)
        · have cx30_ : vx29_ = 0 := of_decide_eq_true cx30_
          have hIx31_ : gi (sm_pI Sx24_ 13 0 0 0) := gi_pI hIx25_ (show 0 ≤ 0 ∧ 0 ≤ 4 from ⟨by omega, by omega⟩)
          have hFx32_ : ai_fr (sx_W vw_512) S0_ (sm_pI Sx24_ 13 0 0 0) := ai_fr_tr hFx28_ (ai_fr_pI rfl)
          refine sm_T_go 8 (c1 := (74, [some (.inr (.inr (some (13, 0)))), some (.inl a1_), some (.inl a2_), some (.inl a3_), some (.inl a4_), some (.inl a5_), none, none], [.inl a4_, .inr (.inr (some (284, 0)))], sm_pI Sx24_ 13 0 0 0)) rfl ?_
          refine sm_T_zald (n := 256) rfl rfl (by omega) (by omega) ?_
          have bx33_ : 0 ≤ Sx24_.2.2.1 284 0 a4_.toNat ∧ Sx24_.2.2.1 284 0 a4_.toNat ≤ 1 := hIx25_.2 284 0 _
          refine sm_T_go 4 (c1 := (83, [some (.inr (.inr (some (13, 0)))), some (.inl a1_), some (.inl a2_), some (.inl a3_), some (.inl a4_), some (.inl a5_), some (.inl (Sx24_.2.2.1 284 0 a4_.toNat)), none], [.inl a4_, .inr (.inr (some (286, 0)))], sm_pI Sx24_ 13 0 0 0)) rfl ?_
          refine sm_T_iald (n := 257) rfl rfl (by omega) (by omega) ?_
          have bx34_ : 0 ≤ Sx24_.2.2.1 286 0 a4_.toNat ∧ Sx24_.2.2.1 286 0 a4_.toNat ≤ 20010 := hIx25_.2 286 0 _
          refine sm_T_go 1 (c1 := (86, [some (.inr (.inr (some (13, 0)))), some (.inl a1_), some (.inl a2_), some (.inl a3_), some (.inl a4_), some (.inl a5_), some (.inl (Sx24_.2.2.1 284 0 a4_.toNat)), some (.inl (Sx24_.2.2.1 286 0 a4_.toNat))], [], sm_pI Sx24_ 13 0 0 0)) rfl ?_
          refine (vl_512 a1_ a2_ a3_ a4_ a5_ S0_ ha1_ ha2_ ha3_ ha4_ ha5_ hJ_ _) (Sx24_.2.2.1 284 0 a4_.toNat) (Sx24_.2.2.1 286 0 a4_.toNat) (sm_pI Sx24_ 13 0 0 0) hIx31_ hFx32_ ⟨?_, trivial⟩ (Nat.lt_succ_self _)
          · omega
        · have cx30_ : ¬ (vx29_ = 0) := of_decide_eq_false cx30_
          have hIx35_ : gi (sm_pI Sx24_ 13 0 0 3) := gi_pI hIx25_ (show 0 ≤ 3 ∧ 3 ≤ 4 from ⟨by omega, by omega⟩)
          have hFx36_ : ai_fr (sx_W vw_512) S0_ (sm_pI Sx24_ 13 0 0 3) := ai_fr_tr hFx28_ (ai_fr_pI rfl)
          refine sm_T_go 7 (c1 := (67, [some (.inr (.inr (some (13, 0)))), some (.inl a1_), some (.inl a2_), some (.inl a3_), some (.inl a4_), some (.inl a5_), none, none], [.inl 0], sm_pI Sx24_ 13 0 0 3)) rfl ?_
          refine sm_T_ri rfl ⟨_, _, rfl, _, rfl, hIx35_, hFx36_, ?_⟩
          exact ⟨⟨by omega, by omega⟩, jR_fr hJ_ hIx35_ hFx36_⟩
      · have cx23_ : ¬ (vx22_ ≠ 0) := of_decide_eq_false cx23_
        have hIx37_ : gi (sm_pI S0_ 13 0 0 2) := gi_pI hI_ (show 0 ≤ 2 ∧ 2 ≤ 4 from ⟨by omega, by omega⟩)
        have hFx38_ : ai_fr (sx_W vw_512) S0_ (sm_pI S0_ 13 0 0 2) := ai_fr_tr hF_ (ai_fr_pI rfl)
        refine sm_T_go 7 (c1 := (67, [some (.inr (.inr (some (13, 0)))), some (.inl a1_), some (.inl a2_), some (.inl a3_), some (.inl a4_), some (.inl a5_), none, none], [.inl 0], sm_pI S0_ 13 0 0 2)) rfl ?_
        refine sm_T_ri rfl ⟨_, _, rfl, _, rfl, hIx37_, hFx38_, ?_⟩
        exact ⟨⟨by omega, by omega⟩, jR_fr hJ_ hIx37_ hFx38_⟩
  · have cx7_ : ¬ (vx6_ ≠ 0) := of_decide_eq_false cx7_
    have hIx39_ : gi (sm_pI S0_ 13 0 0 1) := gi_pI hI_ (show 0 ≤ 1 ∧ 1 ≤ 4 from ⟨by omega, by omega⟩)
    have hFx40_ : ai_fr (sx_W vw_512) S0_ (sm_pI S0_ 13 0 0 1) := ai_fr_tr hF_ (ai_fr_pI rfl)
    refine sm_T_go 7 (c1 := (67, [some (.inr (.inr (some (13, 0)))), some (.inl a1_), some (.inl a2_), some (.inl a3_), some (.inl a4_), some (.inl a5_), none, none], [.inl 0], sm_pI S0_ 13 0 0 1)) rfl ?_
    refine sm_T_ri rfl ⟨_, _, rfl, _, rfl, hIx39_, hFx40_, ?_⟩
    exact ⟨⟨by omega, by omega⟩, jR_fr hJ_ hIx39_ hFx40_⟩
/-! M_.changes -/
def vw_513 : sx_Wl := ([(13, 0), (13, 159), (13, 214)], [238, 243, 244, 245, 246, 247, 248, 249, 250, 270, 284, 285, 286, 287, 288], [])
def vq_513 (a1_ : Int) (a2_ : Int) (a3_ : Int) (a4_ : Int) (S0_ : sm_S) (u_ : Option sm_V) (S1_ : sm_S) : Prop := ∃ v_ : Int, u_ = some (.inl v_) ∧ gi S1_ ∧ ai_fr (sx_W vw_513) S0_ S1_ ∧ ((-2147483648 ≤ v_ ∧ v_ ≤ 2147483647) ∧ jR S1_)
set_option maxHeartbeats 400000 in
set_option maxRecDepth 20000 in
theorem vl_513 {sc_ : Nat × (Nat → Int)} (a1_ : Int) (a2_ : Int) (a3_ : Int) (a4_ : Int) (S0_ : sm_S) (ha1_ : (-2147483648) ≤ a1_ ∧ a1_ ≤ 2147483647) (ha2_ : (-2147483648) ≤ a2_ ∧ a2_ ≤ 2147483647) (ha3_ : (-2147483648) ≤ a3_ ∧ a3_ ≤ 2147483647) (ha4_ : (-2147483648) ≤ a4_ ∧ a4_ ≤ 2147483647) (hJ_ : jR S0_) : ∀ nn_ : Nat, (∀ (la_ : Int) (k_ : Int) (S_ : sm_S), gi S_ → ai_fr (sx_W vw_513) S0_ S_ → ((-1 ≤ a4_ ∧ a4_ < 168 ∧ 0 ≤ k_ ∧ k_ ≤ 20010 ∧ -2147483648 ≤ la_ ∧ la_ ≤ 2147483647) ∧ True) → ((90000 - k_).toNat) < nn_ → sm_T (mt_P sc_) 6 513 (76, [some (.inr (.inr (some (13, 0)))), some (.inl a1_), some (.inl a2_), some (.inl a3_), some (.inl a4_), some (.inl la_), some (.inl k_)], [], S_) (fun ro9_ => ∃ u_ S1_, ro9_ = (.inl u_, S1_, 0) ∧ vq_513 a1_ a2_ a3_ a4_ S0_ u_ S1_)) := by
  intro nn_
  induction nn_ with
  | zero => exact fun _ _ _ _ _ _ h_ => absurd h_ (Nat.not_lt_zero _)
  | succ nn_ ih_ =>
    rintro la_ k_ S_ hI_ hF_ ⟨h0_, -⟩ hm_
    have bx1_ : 0 ≤ S_.1 13 0 214 ∧ S_.1 13 0 214 ≤ 20001 := hI_.1 13 0 214 rfl
    refine sm_T_go 3 (c1 := (82, [some (.inr (.inr (some (13, 0)))), some (.inl a1_), some (.inl a2_), some (.inl a3_), some (.inl a4_), some (.inl la_), some (.inl k_)], [.inl (S_.1 13 0 214), .inl k_], S_)) rfl ?_
    refine sm_T_br (a := 3) (z := 35) rfl (fun cx2_ => ?_) (fun cx2_ => ?_)
    · have cx2_ : (S_.1 13 0 214) ≤ k_ := of_decide_eq_true cx2_
      refine sm_T_go 2 (c1 := (120, [some (.inr (.inr (some (13, 0)))), some (.inl a1_), some (.inl a2_), some (.inl a3_), some (.inl a4_), some (.inl la_), some (.inl k_)], [.inl (-1), .inl a4_], S_)) rfl ?_
      refine sm_T_br (a := 1) (z := 8) rfl (fun cx3_ => ?_) (fun cx3_ => ?_)
      · have cx3_ : a4_ ≠ (-1) := of_decide_eq_true cx3_
        refine sm_T_go 4 (c1 := (135, [some (.inr (.inr (some (13, 0)))), some (.inl a1_), some (.inl a2_), some (.inl a3_), some (.inl a4_), some (.inl la_), some (.inl k_)], [.inl 1, .inl a4_, .inr (.inr (some (286, 0)))], S_)) rfl ?_
        refine sm_T_bin (w := a4_ + 1) rfl (bi_add (by omega) (by omega) (by omega)) ?_ -- pc_ 135
        refine sm_T_iald (n := 257) rfl rfl (by omega) (by omega) ?_
        have bx4_ : 0 ≤ S_.2.2.1 286 0 (a4_ + 1).toNat ∧ S_.2.2.1 286 0 (a4_ + 1).toNat ≤ 20010 := hI_.2 286 0 _
        refine sm_T_go 3 (c1 := (143, [some (.inr (.inr (some (13, 0)))), some (.inl a1_), some (.inl a2_), some (.inl a3_), some (.inl a4_), some (.inl la_), some (.inl k_)], [.inl a4_, .inr (.inr (some (286, 0))), .inl (S_.2.2.1 286 0 (a4_ + 1).toNat)], S_)) rfl ?_
        refine sm_T_iald (n := 257) rfl rfl (by omega) (by omega) ?_
        have bx5_ : 0 ≤ S_.2.2.1 286 0 a4_.toNat ∧ S_.2.2.1 286 0 a4_.toNat ≤ 20010 := hI_.2 286 0 _
        refine sm_T_bin (w := (S_.2.2.1 286 0 (a4_ + 1).toNat) - (S_.2.2.1 286 0 a4_.toNat)) rfl (bi_sub (by omega) (by omega) (by omega)) ?_ -- pc_ 144
        refine sm_T_ri rfl ⟨_, _, rfl, _, rfl, hI_, hF_, ?_⟩
        exact ⟨⟨by omega, by omega⟩, jR_fr hJ_ hI_ hF_⟩
      · have cx3_ : ¬ (a4_ ≠ (-1)) := of_decide_eq_false cx3_
        refine sm_T_go 2 (c1 := (145, [some (.inr (.inr (some (13, 0)))), some (.inl a1_), some (.inl a2_), some (.inl a3_), some (.inl a4_), some (.inl la_), some (.inl k_)], [.inl la_], S_)) rfl ?_
        refine sm_T_ri rfl ⟨_, _, rfl, _, rfl, hI_, hF_, ?_⟩
        exact ⟨⟨by omega, by omega⟩, jR_fr hJ_ hI_ hF_⟩
    · have cx2_ : ¬ ((S_.1 13 0 214) ≤ k_) := of_decide_eq_false cx2_
      refine sm_T_go 3 (c1 := (91, [some (.inr (.inr (some (13, 0)))), some (.inl a1_), some (.inl a2_), some (.inl a3_), some (.inl a4_), some (.inl la_), some (.inl k_)], [.inl k_, .inr (.inr (some (285, 0)))], S_)) rfl ?_
      refine sm_T_iald (n := 20010) rfl rfl (by omega) (by omega) ?_
      have bx6_ : (-2147483648) ≤ S_.2.2.1 285 0 k_.toNat ∧ S_.2.2.1 285 0 k_.toNat ≤ 2147483647 := hI_.2 285 0 _
      refine sm_T_go 1 (c1 := (94, [some (.inr (.inr (some (13, 0)))), some (.inl a1_), some (.inl a2_), some (.inl a3_), some (.inl a4_), some (.inl la_), some (.inl k_)], [.inl la_, .inl (S_.2.2.1 285 0 k_.toNat)], S_)) rfl ?_
      refine sm_T_br (a := 5) (z := 13) rfl (fun cx7_ => ?_) (fun cx7_ => ?_)
      · have cx7_ : (S_.2.2.1 285 0 k_.toNat) ≤ la_ := of_decide_eq_true cx7_
        refine sm_T_go 2 (c1 := (111, [some (.inr (.inr (some (13, 0)))), some (.inl a1_), some (.inl a2_), some (.inl a3_), some (.inl a4_), some (.inl la_), some (.inl k_)], [], S_)) rfl ?_
        refine sm_T_inc (a := 6) (z := 1) (v := k_) (w := k_ + 1) rfl rfl (by omega) (by omega) (by omega) ?_ -- pc_ 111
        refine sm_T_go 1 (c1 := (76, [some (.inr (.inr (some (13, 0)))), some (.inl a1_), some (.inl a2_), some (.inl a3_), some (.inl a4_), some (.inl la_), some (.inl (k_ + 1))], [], S_)) rfl ?_
        refine ih_ la_ (k_ + 1) S_ hI_ hF_ ⟨?_, trivial⟩ ?_
        · omega
        · omega
      · have cx7_ : ¬ ((S_.2.2.1 285 0 k_.toNat) ≤ la_) := of_decide_eq_false cx7_
        refine sm_T_go 3 (c1 := (103, [some (.inr (.inr (some (13, 0)))), some (.inl a1_), some (.inl a2_), some (.inl a3_), some (.inl a4_), some (.inl la_), some (.inl k_)], [.inl k_, .inr (.inr (some (285, 0)))], S_)) rfl ?_
        refine sm_T_iald (n := 20010) rfl rfl (by omega) (by omega) ?_
        refine sm_T_go 2 (c1 := (111, [some (.inr (.inr (some (13, 0)))), some (.inl a1_), some (.inl a2_), some (.inl a3_), some (.inl a4_), some (.inl (S_.2.2.1 285 0 k_.toNat)), some (.inl k_)], [], S_)) rfl ?_
        refine sm_T_inc (a := 6) (z := 1) (v := k_) (w := k_ + 1) rfl rfl (by omega) (by omega) (by omega) ?_ -- pc_ 111
        refine sm_T_go 1 (c1 := (76, [some (.inr (.inr (some (13, 0)))), some (.inl a1_), some (.inl a2_), some (.inl a3_), some (.inl a4_), some (.inl (S_.2.2.1 285 0 k_.toNat)), some (.inl (k_ + 1))], [], S_)) rfl ?_
        refine ih_ (S_.2.2.1 285 0 k_.toNat) (k_ + 1) S_ hI_ hF_ ⟨?_, trivial⟩ ?_
        · omega
        · omega
set_option maxHeartbeats 400000 in
set_option maxRecDepth 20000 in
theorem vc_513 {sc_ : Nat × (Nat → Int)} (a1_ : Int) (a2_ : Int) (a3_ : Int) (a4_ : Int) (S0_ : sm_S) (hI_ : gi S0_) (ha1_ : (-2147483648) ≤ a1_ ∧ a1_ ≤ 2147483647) (ha2_ : (-2147483648) ≤ a2_ ∧ a2_ ≤ 2147483647) (ha3_ : (-2147483648) ≤ a3_ ∧ a3_ ≤ 2147483647) (ha4_ : (-2147483648) ≤ a4_ ∧ a4_ ≤ 2147483647) (hJ_ : jR S0_) : sm_T (mt_P sc_) 6 513 (0, [some (.inr (.inr (some (13, 0)))), some (.inl a1_), some (.inl a2_), some (.inl a3_), some (.inl a4_), none, none], [], S0_) (fun ro9_ => ∃ u_ S1_, ro9_ = (.inl u_, S1_, 0) ∧ vq_513 a1_ a2_ a3_ a4_ S0_ u_ S1_) := by
  have hF_ : ai_fr (sx_W vw_513) S0_ S0_ := ai_fr_rf
  refine sm_T_go 3 (c1 := (3, [some (.inr (.inr (some (13, 0)))), some (.inl a1_), some (.inl a2_), some (.inl a3_), some (.inl a4_), none, none], [.inl a1_, .inr (.inr (some (13, 0))), .inr (.inr (some (13, 0)))], S0_)) rfl ?_
  refine sm_T_cal (d1 := 0) (Q1 := vq_371 a1_ S0_) rfl rfl (by decide) (vc_371 a1_ S0_ hI_ (by omega)) (fun u_ Sx1_ px4_ => ?_)
  obtain ⟨rfl, vx6_, rfl, px4_⟩ := px4_
  have d3_ := px4_
  refine sm_T_b0 (a := 0) (z := 19) rfl (fun cx7_ => ?_) (fun cx7_ => ?_)
  · have cx7_ : vx6_ = 0 := of_decide_eq_true cx7_
    have hIx8_ : gi (sm_pI S0_ 13 0 0 1) := gi_pI hI_ (show 0 ≤ 1 ∧ 1 ≤ 4 from ⟨by omega, by omega⟩)
    have hFx9_ : ai_fr (sx_W vw_513) S0_ (sm_pI S0_ 13 0 0 1) := ai_fr_tr hF_ (ai_fr_pI rfl)
    refine sm_T_go 7 (c1 := (69, [some (.inr (.inr (some (13, 0)))), some (.inl a1_), some (.inl a2_), some (.inl a3_), some (.inl a4_), none, none], [.inl 0], sm_pI S0_ 13 0 0 1)) rfl ?_
    refine sm_T_ri rfl ⟨_, _, rfl, _, rfl, hIx8_, hFx9_, ?_⟩
    exact ⟨⟨by omega, by omega⟩, jR_fr hJ_ hIx8_ hFx9_⟩
  · have cx7_ : ¬ (vx6_ = 0) := of_decide_eq_false cx7_
    have K9_ : cRk a1_ S0_ := hJ_.2 a1_ (by omega) (by omega) (by omega)
    obtain ⟨K1_, K2_, K3_, K4_, K5_, K6_, K7_⟩ := K9_
    refine sm_T_go 2 (c1 := (12, [some (.inr (.inr (some (13, 0)))), some (.inl a1_), some (.inl a2_), some (.inl a3_), some (.inl a4_), none, none], [.inl (-1), .inl a4_, .inr (.inr (some (13, 0)))], S0_)) rfl ?_
    refine sm_T_br (a := 0) (z := 17) rfl (fun cx10_ => ?_) (fun cx10_ => ?_)
    · have cx10_ : a4_ = (-1) := of_decide_eq_true cx10_
      refine sm_T_go 4 (c1 := (33, [some (.inr (.inr (some (13, 0)))), some (.inl a1_), some (.inl a2_), some (.inl a3_), some (.inl a4_), none, none], [.inl a3_, .inl a2_, .inl a1_, .inr (.inr (some (13, 0))), .inr (.inr (some (13, 0)))], S0_)) rfl ?_
      refine sm_T_cal (d1 := 1) (Q1 := vq_511 a1_ a2_ a3_ S0_) rfl rfl (by decide) (vc_511 a1_ a2_ a3_ S0_ hI_ (by omega) (by exact K1_) (by omega) (by omega)) (fun u_ Sx11_ px14_ => ?_)
      obtain ⟨rfl, vx16_, rfl, px14_⟩ := px14_
      have e33_ := px14_
      refine sm_T_b0 (a := 1) (z := 7) rfl (fun cx17_ => ?_) (fun cx17_ => ?_)
      · have cx17_ : vx16_ ≠ 0 := of_decide_eq_true cx17_
        refine sm_T_go 4 (c1 := (47, [some (.inr (.inr (some (13, 0)))), some (.inl a1_), some (.inl a2_), some (.inl a3_), some (.inl a4_), none, none], [.inl a3_, .inl a2_, .inl a1_, .inr (.inr (some (13, 0))), .inr (.inr (some (13, 0)))], S0_)) rfl ?_
        refine sm_T_cal (d1 := 5) (Q1 := vq_510 a1_ a2_ a3_ S0_) rfl rfl (by decide) (vc_510 a1_ a2_ a3_ S0_ hI_ (by omega) (by exact K1_) (by exact K4_) (by exact K5_) (by omega) (by omega)) (fun u_ Sx18_ px21_ => ?_)
        obtain ⟨vx23_, rfl, hIx19_, hFx20_, px21_⟩ := px21_
        have hFx22_ : ai_fr (sx_W vw_513) S0_ Sx18_ := ai_fr_tr hF_ (fr_le hFx20_ rfl)
        refine sm_T_b0 (a := 0) (z := 7) rfl (fun cx24_ => ?_) (fun cx24_ => ?_)
        · have cx24_ : vx23_ = 0 := of_decide_eq_true cx24_
          have hIx25_ : gi (sm_pI Sx18_ 13 0 0 0) := gi_pI hIx19_ (show 0 ≤ 0 ∧ 0 ≤ 4 from ⟨by omega, by omega⟩)
          have hFx26_ : ai_fr (sx_W vw_513) S0_ (sm_pI Sx18_ 13 0 0 0) := ai_fr_tr hFx22_ (ai_fr_pI rfl)
          refine sm_T_go 9 (c1 := (76, [some (.inr (.inr (some (13, 0)))), some (.inl a1_), some (.inl a2_), some (.inl a3_), some (.inl a4_), some (.inl 0), some (.inl 0)], [], sm_pI Sx18_ 13 0 0 0)) rfl ?_
          refine (vl_513 a1_ a2_ a3_ a4_ S0_ ha1_ ha2_ ha3_ ha4_ hJ_ _) 0 0 (sm_pI Sx18_ 13 0 0 0) hIx25_ hFx26_ ⟨?_, trivial⟩ (Nat.lt_succ_self _)
          · omega
        · have cx24_ : ¬ (vx23_ = 0) := of_decide_eq_false cx24_
          have hIx27_ : gi (sm_pI Sx18_ 13 0 0 3) := gi_pI hIx19_ (show 0 ≤ 3 ∧ 3 ≤ 4 from ⟨by omega, by omega⟩)
          have hFx28_ : ai_fr (sx_W vw_513) S0_ (sm_pI Sx18_ 13 0 0 3) := ai_fr_tr hFx22_ (ai_fr_pI rfl)
          refine sm_T_go 7 (c1 := (69, [some (.inr (.inr (some (13, 0)))), some (.inl a1_), some (.inl a2_), some (.inl a3_), some (.inl a4_), none, none], [.inl 0], sm_pI Sx18_ 13 0 0 3)) rfl ?_
          refine sm_T_ri rfl ⟨_, _, rfl, _, rfl, hIx27_, hFx28_, ?_⟩
          exact ⟨⟨by omega, by omega⟩, jR_fr hJ_ hIx27_ hFx28_⟩
      · have cx17_ : ¬ (vx16_ ≠ 0) := of_decide_eq_false cx17_
        have hIx29_ : gi (sm_pI S0_ 13 0 0 2) := gi_pI hI_ (show 0 ≤ 2 ∧ 2 ≤ 4 from ⟨by omega, by omega⟩)
        have hFx30_ : ai_fr (sx_W vw_513) S0_ (sm_pI S0_ 13 0 0 2) := ai_fr_tr hF_ (ai_fr_pI rfl)
        refine sm_T_go 7 (c1 := (69, [some (.inr (.inr (some (13, 0)))), some (.inl a1_), some (.inl a2_), some (.inl a3_), some (.inl a4_), none, none], [.inl 0], sm_pI S0_ 13 0 0 2)) rfl ?_
        refine sm_T_ri rfl ⟨_, _, rfl, _, rfl, hIx29_, hFx30_, ?_⟩
        exact ⟨⟨by omega, by omega⟩, jR_fr hJ_ hIx29_ hFx30_⟩
    · have cx10_ : ¬ (a4_ = (-1)) := of_decide_eq_false cx10_
      refine sm_T_go 3 (c1 := (19, [some (.inr (.inr (some (13, 0)))), some (.inl a1_), some (.inl a2_), some (.inl a3_), some (.inl a4_), none, none], [.inl a4_, .inl a1_, .inr (.inr (some (13, 0))), .inr (.inr (some (13, 0)))], S0_)) rfl ?_
      refine sm_T_cal (d1 := 1) (Q1 := vq_450 a1_ a4_ S0_) rfl rfl (by decide) (vc_450 a1_ a4_ S0_ hI_ (by omega) (by omega)) (fun u_ Sx31_ px34_ => ?_)
      obtain ⟨rfl, vx36_, rfl, px34_⟩ := px34_
      have e19_ := px34_
      refine sm_T_b0 (a := 1) (z := 7) rfl (fun cx37_ => ?_) (fun cx37_ => ?_)
      · have cx37_ : vx36_ ≠ 0 := of_decide_eq_true cx37_
        refine sm_T_go 4 (c1 := (33, [some (.inr (.inr (some (13, 0)))), some (.inl a1_), some (.inl a2_), some (.inl a3_), some (.inl a4_), none, none], [.inl a3_, .inl a2_, .inl a1_, .inr (.inr (some (13, 0))), .inr (.inr (some (13, 0)))], S0_)) rfl ?_
        refine sm_T_cal (d1 := 1) (Q1 := vq_511 a1_ a2_ a3_ S0_) rfl rfl (by decide) (vc_511 a1_ a2_ a3_ S0_ hI_ (by omega) (by exact K1_) (by omega) (by omega)) (fun u_ Sx38_ px41_ => ?_)
        obtain ⟨rfl, vx43_, rfl, px41_⟩ := px41_
        have e33_ := px41_
        refine sm_T_b0 (a := 1) (z := 7) rfl (fun cx44_ => ?_) (fun cx44_ => ?_)
        · have cx44_ : vx43_ ≠ 0 := of_decide_eq_true cx44_
          refine sm_T_go 4 (c1 := (47, [some (.inr (.inr (some (13, 0)))), some (.inl a1_), some (.inl a2_), some (.inl a3_), some (.inl a4_), none, none], [.inl a3_, .inl a2_, .inl a1_, .inr (.inr (some (13, 0))), .inr (.inr (some (13, 0)))], S0_)) rfl ?_
          refine sm_T_cal (d1 := 5) (Q1 := vq_510 a1_ a2_ a3_ S0_) rfl rfl (by decide) (vc_510 a1_ a2_ a3_ S0_ hI_ (by omega) (by exact K1_) (by exact K4_) (by exact K5_) (by omega) (by omega)) (fun u_ Sx45_ px48_ => ?_)
          obtain ⟨vx50_, rfl, hIx46_, hFx47_, px48_⟩ := px48_
          have hFx49_ : ai_fr (sx_W vw_513) S0_ Sx45_ := ai_fr_tr hF_ (fr_le hFx47_ rfl)
          refine sm_T_b0 (a := 0) (z := 7) rfl (fun cx51_ => ?_) (fun cx51_ => ?_)
          · have cx51_ : vx50_ = 0 := of_decide_eq_true cx51_
            have hIx52_ : gi (sm_pI Sx45_ 13 0 0 0) := gi_pI hIx46_ (show 0 ≤ 0 ∧ 0 ≤ 4 from ⟨by omega, by omega⟩)
            have hFx53_ : ai_fr (sx_W vw_513) S0_ (sm_pI Sx45_ 13 0 0 0) := ai_fr_tr hFx49_ (ai_fr_pI rfl)
            refine sm_T_go 9 (c1 := (76, [some (.inr (.inr (some (13, 0)))), some (.inl a1_), some (.inl a2_), some (.inl a3_), some (.inl a4_), some (.inl 0), some (.inl 0)], [], sm_pI Sx45_ 13 0 0 0)) rfl ?_
            refine (vl_513 a1_ a2_ a3_ a4_ S0_ ha1_ ha2_ ha3_ ha4_ hJ_ _) 0 0 (sm_pI Sx45_ 13 0 0 0) hIx52_ hFx53_ ⟨?_, trivial⟩ (Nat.lt_succ_self _)
            · omega
          · have cx51_ : ¬ (vx50_ = 0) := of_decide_eq_false cx51_
            have hIx54_ : gi (sm_pI Sx45_ 13 0 0 3) := gi_pI hIx46_ (show 0 ≤ 3 ∧ 3 ≤ 4 from ⟨by omega, by omega⟩)
            have hFx55_ : ai_fr (sx_W vw_513) S0_ (sm_pI Sx45_ 13 0 0 3) := ai_fr_tr hFx49_ (ai_fr_pI rfl)
            refine sm_T_go 7 (c1 := (69, [some (.inr (.inr (some (13, 0)))), some (.inl a1_), some (.inl a2_), some (.inl a3_), some (.inl a4_), none, none], [.inl 0], sm_pI Sx45_ 13 0 0 3)) rfl ?_
            refine sm_T_ri rfl ⟨_, _, rfl, _, rfl, hIx54_, hFx55_, ?_⟩
            exact ⟨⟨by omega, by omega⟩, jR_fr hJ_ hIx54_ hFx55_⟩
        · have cx44_ : ¬ (vx43_ ≠ 0) := of_decide_eq_false cx44_
          have hIx56_ : gi (sm_pI S0_ 13 0 0 2) := gi_pI hI_ (show 0 ≤ 2 ∧ 2 ≤ 4 from ⟨by omega, by omega⟩)
          have hFx57_ : ai_fr (sx_W vw_513) S0_ (sm_pI S0_ 13 0 0 2) := ai_fr_tr hF_ (ai_fr_pI rfl)
          refine sm_T_go 7 (c1 := (69, [some (.inr (.inr (some (13, 0)))), some (.inl a1_), some (.inl a2_), some (.inl a3_), some (.inl a4_), none, none], [.inl 0], sm_pI S0_ 13 0 0 2)) rfl ?_
          refine sm_T_ri rfl ⟨_, _, rfl, _, rfl, hIx56_, hFx57_, ?_⟩
          exact ⟨⟨by omega, by omega⟩, jR_fr hJ_ hIx56_ hFx57_⟩
      · have cx37_ : ¬ (vx36_ ≠ 0) := of_decide_eq_false cx37_
        have hIx58_ : gi (sm_pI S0_ 13 0 0 1) := gi_pI hI_ (show 0 ≤ 1 ∧ 1 ≤ 4 from ⟨by omega, by omega⟩)
        have hFx59_ : ai_fr (sx_W vw_513) S0_ (sm_pI S0_ 13 0 0 1) := ai_fr_tr hF_ (ai_fr_pI rfl)
        refine sm_T_go 7 (c1 := (69, [some (.inr (.inr (some (13, 0)))), some (.inl a1_), some (.inl a2_), some (.inl a3_), some (.inl a4_), none, none], [.inl 0], sm_pI S0_ 13 0 0 1)) rfl ?_
        refine sm_T_ri rfl ⟨_, _, rfl, _, rfl, hIx58_, hFx59_, ?_⟩
        exact ⟨⟨by omega, by omega⟩, jR_fr hJ_ hIx58_ hFx59_⟩
end
