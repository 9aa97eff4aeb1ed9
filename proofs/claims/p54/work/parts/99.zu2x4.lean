/-! the reference: what a gate tells; written by wip/p55/gen/vg -/

/-! what the_ reference's gates tell -/
def tix (x_ y_ z_ : Bool) : Nat := (if x_ = true then 1 else 0) + (if y_ = true then 2 else 0) + (if z_ = true then 4 else 0)
theorem tix_c {x_ y_ z_ : Bool} : ((tix x_ y_ z_ : Nat) : Int) = (if x_ = true then 1 else 0) + (if y_ = true then 2 else 0) + (if z_ = true then 4 else 0) := by
  cases x_ <;> cases y_ <;> cases z_ <;> rfl
def tld (fn_ s_ : Int) (x_ y_ z_ : Bool) : Bool := decide (((tix x_ y_ z_ : Nat) : Int) < s_) && Nat.testBit fn_.toNat (tix x_ y_ z_)
theorem tld_b {fn_ s_ : Int} (hf_ : 0 ≤ fn_ ∧ fn_ ≤ 255) (hs_ : 0 ≤ s_ ∧ s_ ≤ 7) : i_shr fn_ s_ % 2 = if Nat.testBit fn_.toNat s_.toNat = true then 1 else 0 := by
  obtain ⟨u_, rfl⟩ : ∃ u_ : Nat, fn_ = (u_ : Int) := ⟨fn_.toNat, by omega⟩
  obtain ⟨k_, rfl⟩ : ∃ k_ : Nat, s_ = (k_ : Int) := ⟨s_.toNat, by omega⟩
  rw [i_shrv (by omega) (by omega) (by omega), Int.toNat_natCast, Int.toNat_natCast, Nat.testBit_eq_decide_div_mod_eq]
  have e_ : (u_ : Int) / 2 ^ k_ % 2 = ((u_ / 2 ^ k_ % 2 : Nat) : Int) := by
    push_cast
    rfl
  rw [e_]
  by_cases c_ : u_ / 2 ^ k_ % 2 = 1
  · rw [if_pos (decide_eq_true c_), c_]
    rfl
  · rw [if_neg (by rw [decide_eq_false c_]; decide)]
    omega
theorem tld_0 {fn_ s_ : Int} {x_ y_ z_ : Bool} (hf_ : 0 ≤ fn_ ∧ fn_ ≤ 255) (hs_ : 0 ≤ s_ ∧ s_ ≤ 7) (h_ : i_shr fn_ s_ % 2 ≠ 1) : (tld fn_ s_ x_ y_ z_ || false) = tld fn_ (s_ + 1) x_ y_ z_ := by
  rw [tld_b hf_ hs_] at h_
  rw [Bool.or_false]
  unfold tld
  by_cases c_ : ((tix x_ y_ z_ : Nat) : Int) = s_
  · have b_ : Nat.testBit fn_.toNat (tix x_ y_ z_) = false := by
      cases d_ : Nat.testBit fn_.toNat (tix x_ y_ z_)
      · rfl
      · rw [show s_.toNat = tix x_ y_ z_ by omega, d_, if_pos rfl] at h_
        exact absurd rfl h_
    rw [b_, Bool.and_false, Bool.and_false]
  · rw [decide_eq_decide.mpr (show ((tix x_ y_ z_ : Nat) : Int) < s_ ↔ ((tix x_ y_ z_ : Nat) : Int) < s_ + 1 by omega)]
theorem tld_1 {fn_ s_ : Int} {x_ y_ z_ w_ : Bool} (hf_ : 0 ≤ fn_ ∧ fn_ ≤ 255) (hs_ : 0 ≤ s_ ∧ s_ ≤ 7) (h_ : i_shr fn_ s_ % 2 = 1) (hw_ : w_ = decide (((tix x_ y_ z_ : Nat) : Int) = s_)) : (tld fn_ s_ x_ y_ z_ || w_) = tld fn_ (s_ + 1) x_ y_ z_ := by
  rw [tld_b hf_ hs_] at h_
  rw [hw_]
  unfold tld
  by_cases c_ : ((tix x_ y_ z_ : Nat) : Int) = s_
  · have b_ : Nat.testBit fn_.toNat (tix x_ y_ z_) = true := by
      cases d_ : Nat.testBit fn_.toNat (tix x_ y_ z_)
      · rw [show s_.toNat = tix x_ y_ z_ by omega, d_, if_neg (by decide)] at h_
        exact absurd h_ (by decide)
      · rfl
    rw [b_, decide_eq_true c_, decide_eq_true (show ((tix x_ y_ z_ : Nat) : Int) < s_ + 1 by omega), Bool.or_true]
    rfl
  · rw [decide_eq_false c_, Bool.or_false, decide_eq_decide.mpr (show ((tix x_ y_ z_ : Nat) : Int) < s_ ↔ ((tix x_ y_ z_ : Nat) : Int) < s_ + 1 by omega)]
theorem tix_b {x_ y_ z_ : Bool} {m_ : Int} (h_ : 1 ≤ m_) : ((tix x_ (decide (2 ≤ m_) && y_) (decide (3 ≤ m_) && z_) : Nat) : Int) < (if m_ < 2 then 2 else if m_ < 3 then 4 else 8) := by
  rw [tix_c]
  by_cases c2_ : m_ < 2
  · rw [if_pos c2_, decide_eq_false (show ¬ 2 ≤ m_ by omega), decide_eq_false (show ¬ 3 ≤ m_ by omega), Bool.false_and, Bool.false_and]
    cases x_ <;> decide
  · rw [if_neg c2_, decide_eq_true (show 2 ≤ m_ by omega), Bool.true_and]
    by_cases c3_ : m_ < 3
    · rw [if_pos c3_, decide_eq_false (show ¬ 3 ≤ m_ by omega), Bool.false_and]
      cases x_ <;> cases y_ <;> decide
    · rw [if_neg c3_, decide_eq_true (show 3 ≤ m_ by omega), Bool.true_and]
      cases x_ <;> cases y_ <;> cases z_ <;> decide
theorem pw_123 {m_ : Int} (h_ : 1 ≤ m_ ∧ m_ ≤ 3) : (2 : Int) ^ m_.toNat = (if m_ < 2 then 2 else if m_ < 3 then 4 else 8) := by
  have q_ : m_ = 1 ∨ m_ = 2 ∨ m_ = 3 := by omega
  rcases q_ with rfl | rfl | rfl <;> decide
/-- a_ gate more -/
theorem kpr_s {F_ g_ q_ i_ : Nat} {T_ m_ : Nat → Int} {a_ : Nat → Nat → Int} {R_ R'_ : Nat → Int} {x_ : Int} (h_ : cvq F_ g_ T_ m_ a_ q_ (fun n_ => lbt (R_ n_) i_)) (hr_ : ∀ k_, R'_ k_ = if k_ = F_ + g_ then x_ else R_ k_) (hb_ : 1 ≤ m_ g_ → lbt x_ i_ = gvl (fun n_ => lbt (R_ n_) i_) (T_ g_) (m_ g_) (a_ g_)) : cvq F_ (g_ + 1) T_ m_ a_ q_ (fun n_ => lbt (R'_ n_) i_) := by
  have lo_ : ∀ n_, n_ < F_ + g_ → lbt (R'_ n_) i_ = lbt (R_ n_) i_ := fun n_ hn_ => by
    rw [hr_, if_neg (by omega)]
  refine cvq_s (cvq_cg h_ lo_) (fun o_ => ?_)
  show lbt (R'_ (F_ + g_)) i_ = _
  rw [hr_, if_pos rfl, hb_ o_.1]
  exact gvl_cg o_ (fun n_ hn_ => (lo_ n_ hn_).symm)
theorem nev_r1 {v_ : Nat → Bool} {n_ : Int} (h_ : n_ = -1) : (if nev v_ n_ = true then (1 : Int) else 0) = 0 := by
  subst h_
  have e_ : nev v_ (-1) = false := by
    unfold nev
    rw [if_pos rfl]
  rw [e_]
  rfl
theorem nev_r2 {v_ : Nat → Bool} {n_ : Int} (h_ : n_ = -2) : (if nev v_ n_ = true then (1 : Int) else 0) = 1 := by
  subst h_
  have e_ : nev v_ (-2) = true := by
    unfold nev
    rw [if_neg (by decide), if_pos rfl]
  rw [e_]
  rfl
theorem nev_r3 {R_ : Nat → Int} {n_ k_ : Int} (hk_ : 0 ≤ k_ ∧ k_ ≤ 63) (h_ : 0 ≤ n_) : l_l2i (l_3 (l_s2 (R_ n_.toNat) k_) 1) = if nev (fun m_ => lbt (R_ m_) k_.toNat) n_ = true then 1 else 0 := by
  obtain ⟨q_, rfl⟩ : ∃ q_ : Nat, k_ = (q_ : Int) := ⟨k_.toNat, by omega⟩
  have e_ : nev (fun m_ => lbt (R_ m_) q_) n_ = lbt (R_ n_.toNat) q_ := by
    unfold nev
    rw [if_neg (by omega), if_neg (by omega)]
  rw [Int.toNat_natCast, e_, bitv, lbt_s2 (by omega)]
def krT (c_ : Int) (S_ : sm_S) (g_ : Nat) : Int := S_.2.2.1 235 0 (12 * c_ + S_.2.2.1 229 0 (150 * c_ + (g_ : Int)).toNat).toNat
def krN (c_ : Int) (S_ : sm_S) (g_ : Nat) : Int := S_.2.2.1 234 0 (12 * c_ + S_.2.2.1 229 0 (150 * c_ + (g_ : Int)).toNat).toNat
def krA (c_ : Int) (S_ : sm_S) (g_ k_ : Nat) : Int := S_.2.2.1 230 0 (450 * c_ + 3 * (g_ : Int) + (k_ : Int)).toNat
theorem krX_fr {w_ : sx_Wl} {c_ : Int} {S_ S'_ : sm_S} (f_ : ai_fr (sx_W w_) S_ S'_) (h1_ : (sx_W w_).2.1 229 = false := by rfl) (h2_ : (sx_W w_).2.1 230 = false := by rfl) (h3_ : (sx_W w_).2.1 234 = false := by rfl) (h4_ : (sx_W w_).2.1 235 = false := by rfl) : krT c_ S'_ = krT c_ S_ ∧ krN c_ S'_ = krN c_ S_ ∧ krA c_ S'_ = krA c_ S_ := by
  refine ⟨funext fun g_ => ?_, funext fun g_ => ?_, funext fun g_ => funext fun k_ => ?_⟩
  · unfold krT
    rw [fr_arr (t := 229) (i := 0) f_ h1_, fr_arr (t := 235) (i := 0) f_ h4_]
  · unfold krN
    rw [fr_arr (t := 229) (i := 0) f_ h1_, fr_arr (t := 234) (i := 0) f_ h3_]
  · unfold krA
    rw [fr_arr (t := 230) (i := 0) f_ h2_]
/-! M_.toldBy -/
def vw_429n : sx_Wl := ([], [], [])
def vq_429n (fn_ : Int) (ip_ : Int) (la_ : Int) (lb_ : Int) (ld_ : Int) (S0_ : sm_S) (u_ : Option sm_V) (S1_ : sm_S) : Prop := ∃ v_ : Int, u_ = some (.inr (.inl v_)) ∧ gi S1_ ∧ ai_fr (sx_W vw_429n) S0_ S1_ ∧ (1 ≤ ip_ → ∀ i9_ : Nat, i9_ < 64 → lbt v_ i9_ = tbt fn_ (lbt la_ i9_) (decide (2 ≤ ip_) && lbt lb_ i9_) (decide (3 ≤ ip_) && lbt ld_ i9_))
set_option maxHeartbeats 400000 in
set_option maxRecDepth 20000 in
theorem vl_429n {sc_ : Nat × (Nat → Int)} (fn_ : Int) (ip_ : Int) (la_ : Int) (lb_ : Int) (ld_ : Int) (S0_ : sm_S) (hf_ : 0 ≤ fn_ ∧ fn_ ≤ 255) (hi_ : 0 ≤ ip_ ∧ ip_ ≤ 3) : ∀ nn_ : Nat, (∀ (xa_ : Int) (xb_ : Int) (xd_ : Int) (lt_ : Int) (s_ : Int) (S_ : sm_S), gi S_ → ai_fr (sx_W vw_429n) S0_ S_ → ((0 ≤ s_ ∧ s_ ≤ 8) ∧ (xa_ = la_ ∧ xb_ = lb_ ∧ xd_ = ld_) ∧ (∀ i9_ : Nat, i9_ < 64 → lbt lt_ i9_ = tld fn_ s_ (lbt la_ i9_) (decide (2 ≤ ip_) && lbt lb_ i9_) (decide (3 ≤ ip_) && lbt ld_ i9_)) ∧ True) → ((100 - s_).toNat) < nn_ → sm_T (mt_P sc_) 0 429 (6, [some (.inl fn_), some (.inl ip_), some (.inr (.inl xa_)), none, some (.inr (.inl xb_)), none, some (.inr (.inl xd_)), none, some (.inr (.inl lt_)), none, some (.inl s_), none, none], [], S_) (fun ro9_ => ∃ u_ S1_, ro9_ = (.inl u_, S1_, 0) ∧ vq_429n fn_ ip_ la_ lb_ ld_ S0_ u_ S1_)) := by
  intro nn_
  induction nn_ with
  | zero => exact fun _ _ _ _ _ _ _ _ _ h_ => absurd h_ (Nat.not_lt_zero _)
  | succ nn_ ih_ =>
    rintro xa_ xb_ xd_ lt_ s_ S_ hI_ hF_ ⟨h0_, hx_, h1_, -⟩ hm_
    have s9_ := i_shl1 (e := ip_) (by omega) (by omega)
    have w9_ := pw_le (n := ip_.toNat) (m := 3) (by omega)
    have w7_ : ip_ < 3 → (2 : Int) ^ ip_.toNat ≤ 4 := fun q9_ => pw_le (n := ip_.toNat) (m := 2) (by omega)
    have w6_ : ip_ < 2 → (2 : Int) ^ ip_.toNat ≤ 2 := fun q9_ => pw_le (n := ip_.toNat) (m := 1) (by omega)
    refine sm_T_go 3 (c1 := (10, [some (.inl fn_), some (.inl ip_), some (.inr (.inl xa_)), none, some (.inr (.inl xb_)), none, some (.inr (.inl xd_)), none, some (.inr (.inl lt_)), none, some (.inl s_), none, none], [.inl ip_, .inl 1, .inl s_], S_)) rfl ?_
    refine sm_T_bin (w := (i_shl 1 ip_)) rfl rfl ?_ -- pc_ 10
    first | have bx1_ := i_shl_1 (x_ := 1) (e_ := ip_) (by omega) (by omega) | have bx1_ := i_shl_n 1 ip_
    refine sm_T_br (a := 3) (z := 123) rfl (fun cx2_ => ?_) (fun cx2_ => ?_)
    · have cx2_ : (i_shl 1 ip_) ≤ s_ := of_decide_eq_true cx2_
      refine sm_T_go 1 (c1 := (136, [some (.inl fn_), some (.inl ip_), some (.inr (.inl xa_)), none, some (.inr (.inl xb_)), none, some (.inr (.inl xd_)), none, some (.inr (.inl lt_)), none, some (.inl s_), none, none], [.inr (.inl lt_)], S_)) rfl ?_
      refine sm_T_rl rfl ⟨_, _, rfl, _, rfl, hI_, hF_, ?_⟩
      intro p9_ i9_ hi9_
      rw [h1_ i9_ hi9_]
      have t9_ := tix_b (x_ := lbt la_ i9_) (y_ := lbt lb_ i9_) (z_ := lbt ld_ i9_) p9_
      have w8_ := pw_123 (m_ := ip_) (by omega)
      unfold tld
      rw [decide_eq_true (by omega), Bool.true_and]
      rfl
    · have cx2_ : ¬ ((i_shl 1 ip_) ≤ s_) := of_decide_eq_false cx2_
      refine sm_T_go 2 (c1 := (17, [some (.inl fn_), some (.inl ip_), some (.inr (.inl xa_)), none, some (.inr (.inl xb_)), none, some (.inr (.inl xd_)), none, some (.inr (.inl lt_)), none, some (.inl s_), none, none], [.inl 1, .inl s_], S_)) rfl ?_
      refine sm_T_bin (w := (s_ % 2)) rfl (bi_msk (k := 1) (by decide)) ?_ -- pc_ 17
      refine sm_T_go 1 (c1 := (19, [some (.inl fn_), some (.inl ip_), some (.inr (.inl xa_)), none, some (.inr (.inl xb_)), none, some (.inr (.inl xd_)), none, some (.inr (.inl lt_)), none, some (.inl s_), none, none], [.inl 1, .inl (s_ % 2)], S_)) rfl ?_
      refine sm_T_br (a := 1) (z := 7) rfl (fun cx3_ => ?_) (fun cx3_ => ?_)
      · have cx3_ : (s_ % 2) ≠ 1 := of_decide_eq_true cx3_
        refine sm_T_go 1 (c1 := (27, [some (.inl fn_), some (.inl ip_), some (.inr (.inl xa_)), none, some (.inr (.inl xb_)), none, some (.inr (.inl xd_)), none, some (.inr (.inl lt_)), none, some (.inl s_), none, none], [.inr (.inl xa_)], S_)) rfl ?_
        refine sm_T_nt (u := some (.inr (.inl (-1)))) (S1 := S_) rfl rfl rfl ?_
        refine sm_T_go 5 (c1 := (37, [some (.inl fn_), some (.inl ip_), some (.inr (.inl xa_)), none, some (.inr (.inl xb_)), none, some (.inr (.inl xd_)), none, some (.inr (.inl lt_)), none, some (.inl s_), some (.inr (.inl (l_5 xa_ (-1)))), none], [.inl 2, .inl ip_, .inr (.inl (l_5 xa_ (-1)))], S_)) rfl ?_
        refine sm_T_br (a := 3) (z := 9) rfl (fun cx4_ => ?_) (fun cx4_ => ?_)
        · have cx4_ : 2 ≤ ip_ := of_decide_eq_true cx4_
          refine sm_T_go 2 (c1 := (49, [some (.inl fn_), some (.inl ip_), some (.inr (.inl xa_)), none, some (.inr (.inl xb_)), none, some (.inr (.inl xd_)), none, some (.inr (.inl lt_)), none, some (.inl s_), some (.inr (.inl (l_5 xa_ (-1)))), none], [.inl 1, .inl s_, .inr (.inl (l_5 xa_ (-1)))], S_)) rfl ?_
          refine sm_T_bin (w := (s_ / 2)) rfl (bi_shr (k := 1) (by decide) (by omega) (by omega)) ?_ -- pc_ 49
          refine sm_T_go 1 (c1 := (51, [some (.inl fn_), some (.inl ip_), some (.inr (.inl xa_)), none, some (.inr (.inl xb_)), none, some (.inr (.inl xd_)), none, some (.inr (.inl lt_)), none, some (.inl s_), some (.inr (.inl (l_5 xa_ (-1)))), none], [.inl 1, .inl (s_ / 2), .inr (.inl (l_5 xa_ (-1)))], S_)) rfl ?_
          refine sm_T_bin (w := ((s_ / 2) % 2)) rfl (bi_msk (k := 1) (by decide)) ?_ -- pc_ 51
          refine sm_T_go 1 (c1 := (53, [some (.inl fn_), some (.inl ip_), some (.inr (.inl xa_)), none, some (.inr (.inl xb_)), none, some (.inr (.inl xd_)), none, some (.inr (.inl lt_)), none, some (.inl s_), some (.inr (.inl (l_5 xa_ (-1)))), none], [.inl 1, .inl ((s_ / 2) % 2), .inr (.inl (l_5 xa_ (-1)))], S_)) rfl ?_
          refine sm_T_br (a := 1) (z := 8) rfl (fun cx5_ => ?_) (fun cx5_ => ?_)
          · have cx5_ : ((s_ / 2) % 2) ≠ 1 := of_decide_eq_true cx5_
            refine sm_T_go 1 (c1 := (63, [some (.inl fn_), some (.inl ip_), some (.inr (.inl xa_)), none, some (.inr (.inl xb_)), none, some (.inr (.inl xd_)), none, some (.inr (.inl lt_)), none, some (.inl s_), some (.inr (.inl (l_5 xa_ (-1)))), none], [.inr (.inl xb_), .inr (.inl (l_5 xa_ (-1)))], S_)) rfl ?_
            refine sm_T_nt (u := some (.inr (.inl (-1)))) (S1 := S_) rfl rfl rfl ?_
            refine sm_T_go 6 (c1 := (74, [some (.inl fn_), some (.inl ip_), some (.inr (.inl xa_)), none, some (.inr (.inl xb_)), none, some (.inr (.inl xd_)), none, some (.inr (.inl lt_)), none, some (.inl s_), some (.inr (.inl (l_3 ((l_5 xa_ (-1))) ((l_5 xb_ (-1)))))), none], [.inl 3, .inl ip_, .inr (.inl (l_3 ((l_5 xa_ (-1))) ((l_5 xb_ (-1)))))], S_)) rfl ?_
            refine sm_T_br (a := 3) (z := 9) rfl (fun cx6_ => ?_) (fun cx6_ => ?_)
            · have cx6_ : 3 ≤ ip_ := of_decide_eq_true cx6_
              refine sm_T_go 2 (c1 := (86, [some (.inl fn_), some (.inl ip_), some (.inr (.inl xa_)), none, some (.inr (.inl xb_)), none, some (.inr (.inl xd_)), none, some (.inr (.inl lt_)), none, some (.inl s_), some (.inr (.inl (l_3 ((l_5 xa_ (-1))) ((l_5 xb_ (-1)))))), none], [.inl 2, .inl s_, .inr (.inl (l_3 ((l_5 xa_ (-1))) ((l_5 xb_ (-1)))))], S_)) rfl ?_
              refine sm_T_bin (w := (s_ / 4)) rfl (bi_shr (k := 2) (by decide) (by omega) (by omega)) ?_ -- pc_ 86
              refine sm_T_go 1 (c1 := (88, [some (.inl fn_), some (.inl ip_), some (.inr (.inl xa_)), none, some (.inr (.inl xb_)), none, some (.inr (.inl xd_)), none, some (.inr (.inl lt_)), none, some (.inl s_), some (.inr (.inl (l_3 ((l_5 xa_ (-1))) ((l_5 xb_ (-1)))))), none], [.inl 1, .inl (s_ / 4), .inr (.inl (l_3 ((l_5 xa_ (-1))) ((l_5 xb_ (-1)))))], S_)) rfl ?_
              refine sm_T_bin (w := ((s_ / 4) % 2)) rfl (bi_msk (k := 1) (by decide)) ?_ -- pc_ 88
              refine sm_T_go 1 (c1 := (90, [some (.inl fn_), some (.inl ip_), some (.inr (.inl xa_)), none, some (.inr (.inl xb_)), none, some (.inr (.inl xd_)), none, some (.inr (.inl lt_)), none, some (.inl s_), some (.inr (.inl (l_3 ((l_5 xa_ (-1))) ((l_5 xb_ (-1)))))), none], [.inl 1, .inl ((s_ / 4) % 2), .inr (.inl (l_3 ((l_5 xa_ (-1))) ((l_5 xb_ (-1)))))], S_)) rfl ?_
              refine sm_T_br (a := 1) (z := 8) rfl (fun cx7_ => ?_) (fun cx7_ => ?_)
              · have cx7_ : ((s_ / 4) % 2) ≠ 1 := of_decide_eq_true cx7_
                refine sm_T_go 1 (c1 := (100, [some (.inl fn_), some (.inl ip_), some (.inr (.inl xa_)), none, some (.inr (.inl xb_)), none, some (.inr (.inl xd_)), none, some (.inr (.inl lt_)), none, some (.inl s_), some (.inr (.inl (l_3 ((l_5 xa_ (-1))) ((l_5 xb_ (-1)))))), none], [.inr (.inl xd_), .inr (.inl (l_3 ((l_5 xa_ (-1))) ((l_5 xb_ (-1)))))], S_)) rfl ?_
                refine sm_T_nt (u := some (.inr (.inl (-1)))) (S1 := S_) rfl rfl rfl ?_
                refine sm_T_go 6 (c1 := (112, [some (.inl fn_), some (.inl ip_), some (.inr (.inl xa_)), none, some (.inr (.inl xb_)), none, some (.inr (.inl xd_)), none, some (.inr (.inl lt_)), none, some (.inl s_), some (.inr (.inl (l_3 ((l_3 ((l_5 xa_ (-1))) ((l_5 xb_ (-1))))) ((l_5 xd_ (-1)))))), none], [.inl s_, .inl fn_, .inr (.inl lt_)], S_)) rfl ?_
                refine sm_T_bin (w := (i_shr fn_ s_)) rfl rfl ?_ -- pc_ 112
                first | have bx8_ := i_shr_p (x_ := fn_) (e_ := s_) (by omega) (by omega) (by omega) | have bx8_ := i_shr_n fn_ s_
                refine sm_T_go 1 (c1 := (114, [some (.inl fn_), some (.inl ip_), some (.inr (.inl xa_)), none, some (.inr (.inl xb_)), none, some (.inr (.inl xd_)), none, some (.inr (.inl lt_)), none, some (.inl s_), some (.inr (.inl (l_3 ((l_3 ((l_5 xa_ (-1))) ((l_5 xb_ (-1))))) ((l_5 xd_ (-1)))))), none], [.inl 1, .inl (i_shr fn_ s_), .inr (.inl lt_)], S_)) rfl ?_
                refine sm_T_bin (w := ((i_shr fn_ s_) % 2)) rfl (bi_msk (k := 1) (by decide)) ?_ -- pc_ 114
                refine sm_T_go 1 (c1 := (116, [some (.inl fn_), some (.inl ip_), some (.inr (.inl xa_)), none, some (.inr (.inl xb_)), none, some (.inr (.inl xd_)), none, some (.inr (.inl lt_)), none, some (.inl s_), some (.inr (.inl (l_3 ((l_3 ((l_5 xa_ (-1))) ((l_5 xb_ (-1))))) ((l_5 xd_ (-1)))))), none], [.inl 1, .inl ((i_shr fn_ s_) % 2), .inr (.inl lt_)], S_)) rfl ?_
                refine sm_T_br (a := 1) (z := 8) rfl (fun cx9_ => ?_) (fun cx9_ => ?_)
                · have cx9_ : ((i_shr fn_ s_) % 2) ≠ 1 := of_decide_eq_true cx9_
                  refine sm_T_go 3 (c1 := (128, [some (.inl fn_), some (.inl ip_), some (.inr (.inl xa_)), none, some (.inr (.inl xb_)), none, some (.inr (.inl xd_)), none, some (.inr (.inl (l_4 lt_ 0))), none, some (.inl s_), some (.inr (.inl (l_3 ((l_3 ((l_5 xa_ (-1))) ((l_5 xb_ (-1))))) ((l_5 xd_ (-1)))))), none], [], S_)) rfl ?_
                  refine sm_T_inc (a := 10) (z := 1) (v := s_) (w := s_ + 1) rfl rfl (by omega) (by omega) (by omega) ?_ -- pc_ 128
                  refine sm_T_go 1 (c1 := (6, [some (.inl fn_), some (.inl ip_), some (.inr (.inl xa_)), none, some (.inr (.inl xb_)), none, some (.inr (.inl xd_)), none, some (.inr (.inl (l_4 lt_ 0))), none, some (.inl (s_ + 1)), some (.inr (.inl (l_3 ((l_3 ((l_5 xa_ (-1))) ((l_5 xb_ (-1))))) ((l_5 xd_ (-1)))))), none], [], S_)) rfl ?_
                  refine sm_T_wk [some (.inl fn_), some (.inl ip_), some (.inr (.inl xa_)), none, some (.inr (.inl xb_)), none, some (.inr (.inl xd_)), none, some (.inr (.inl (l_4 lt_ 0))), none, some (.inl (s_ + 1)), none, none] (by exact ⟨rfl, rfl, rfl, rfl, rfl, rfl, rfl, trivial⟩) ?_
                  refine ih_ xa_ xb_ xd_ ((l_4 lt_ 0)) (s_ + 1) S_ hI_ hF_ ⟨?_, ?_, ?_, trivial⟩ ?_
                  · omega
                  · exact hx_
                  · intro i9_ hi9_
                    rw [lbt_4, h1_ i9_ hi9_]
                    first | (rw [lbt_0]; exact tld_0 hf_ (by omega) (by omega)) | (refine tld_1 hf_ (by omega) (by omega) ?_; simp only [lbt_3, lbt_n hi9_, lbt_m hi9_, hx_.1, hx_.2.1, hx_.2.2]; (first | rw [decide_eq_true (show 2 ≤ ip_ by omega), Bool.true_and] | rw [decide_eq_false (show ¬ 2 ≤ ip_ by omega), Bool.false_and]); (first | rw [decide_eq_true (show 3 ≤ ip_ by omega), Bool.true_and] | rw [decide_eq_false (show ¬ 3 ≤ ip_ by omega), Bool.false_and]); cases lbt la_ i9_ <;> cases lbt lb_ i9_ <;> cases lbt ld_ i9_ <;> first | exact (decide_eq_true (by (rw [tix_c]; simp only [Bool.and_true, Bool.and_false, Bool.true_and, Bool.false_and, Bool.false_eq_true, if_true, if_false, reduceIte]; omega))).symm | exact (decide_eq_false (by (rw [tix_c]; simp only [Bool.and_true, Bool.and_false, Bool.true_and, Bool.false_and, Bool.false_eq_true, if_true, if_false, reduceIte]; omega))).symm)
                  · omega
                · have cx9_ : ¬ (((i_shr fn_ s_) % 2) ≠ 1) := of_decide_eq_false cx9_
                  refine sm_T_go 4 (c1 := (128, [some (.inl fn_), some (.inl ip_), some (.inr (.inl xa_)), none, some (.inr (.inl xb_)), none, some (.inr (.inl xd_)), none, some (.inr (.inl (l_4 lt_ ((l_3 ((l_3 ((l_5 xa_ (-1))) ((l_5 xb_ (-1))))) ((l_5 xd_ (-1)))))))), none, some (.inl s_), some (.inr (.inl (l_3 ((l_3 ((l_5 xa_ (-1))) ((l_5 xb_ (-1))))) ((l_5 xd_ (-1)))))), none], [], S_)) rfl ?_
                  refine sm_T_inc (a := 10) (z := 1) (v := s_) (w := s_ + 1) rfl rfl (by omega) (by omega) (by omega) ?_ -- pc_ 128
                  refine sm_T_go 1 (c1 := (6, [some (.inl fn_), some (.inl ip_), some (.inr (.inl xa_)), none, some (.inr (.inl xb_)), none, some (.inr (.inl xd_)), none, some (.inr (.inl (l_4 lt_ ((l_3 ((l_3 ((l_5 xa_ (-1))) ((l_5 xb_ (-1))))) ((l_5 xd_ (-1)))))))), none, some (.inl (s_ + 1)), some (.inr (.inl (l_3 ((l_3 ((l_5 xa_ (-1))) ((l_5 xb_ (-1))))) ((l_5 xd_ (-1)))))), none], [], S_)) rfl ?_
                  refine sm_T_wk [some (.inl fn_), some (.inl ip_), some (.inr (.inl xa_)), none, some (.inr (.inl xb_)), none, some (.inr (.inl xd_)), none, some (.inr (.inl (l_4 lt_ ((l_3 ((l_3 ((l_5 xa_ (-1))) ((l_5 xb_ (-1))))) ((l_5 xd_ (-1)))))))), none, some (.inl (s_ + 1)), none, none] (by exact ⟨rfl, rfl, rfl, rfl, rfl, rfl, rfl, trivial⟩) ?_
                  refine ih_ xa_ xb_ xd_ ((l_4 lt_ ((l_3 ((l_3 ((l_5 xa_ (-1))) ((l_5 xb_ (-1))))) ((l_5 xd_ (-1))))))) (s_ + 1) S_ hI_ hF_ ⟨?_, ?_, ?_, trivial⟩ ?_
                  · omega
                  · exact hx_
                  · intro i9_ hi9_
                    rw [lbt_4, h1_ i9_ hi9_]
                    first | (rw [lbt_0]; exact tld_0 hf_ (by omega) (by omega)) | (refine tld_1 hf_ (by omega) (by omega) ?_; simp only [lbt_3, lbt_n hi9_, lbt_m hi9_, hx_.1, hx_.2.1, hx_.2.2]; (first | rw [decide_eq_true (show 2 ≤ ip_ by omega), Bool.true_and] | rw [decide_eq_false (show ¬ 2 ≤ ip_ by omega), Bool.false_and]); (first | rw [decide_eq_true (show 3 ≤ ip_ by omega), Bool.true_and] | rw [decide_eq_false (show ¬ 3 ≤ ip_ by omega), Bool.false_and]); cases lbt la_ i9_ <;> cases lbt lb_ i9_ <;> cases lbt ld_ i9_ <;> first | exact (decide_eq_true (by (rw [tix_c]; simp only [Bool.and_true, Bool.and_false, Bool.true_and, Bool.false_and, Bool.false_eq_true, if_true, if_false, reduceIte]; omega))).symm | exact (decide_eq_false (by (rw [tix_c]; simp only [Bool.and_true, Bool.and_false, Bool.true_and, Bool.false_and, Bool.false_eq_true, if_true, if_false, reduceIte]; omega))).symm)
                  · omega
              · have cx7_ : ¬ (((s_ / 4) % 2) ≠ 1) := of_decide_eq_false cx7_
                refine sm_T_go 7 (c1 := (112, [some (.inl fn_), some (.inl ip_), some (.inr (.inl xa_)), none, some (.inr (.inl xb_)), none, some (.inr (.inl xd_)), none, some (.inr (.inl lt_)), none, some (.inl s_), some (.inr (.inl (l_3 ((l_3 ((l_5 xa_ (-1))) ((l_5 xb_ (-1))))) xd_))), none], [.inl s_, .inl fn_, .inr (.inl lt_)], S_)) rfl ?_
                refine sm_T_bin (w := (i_shr fn_ s_)) rfl rfl ?_ -- pc_ 112
                first | have bx10_ := i_shr_p (x_ := fn_) (e_ := s_) (by omega) (by omega) (by omega) | have bx10_ := i_shr_n fn_ s_
                refine sm_T_go 1 (c1 := (114, [some (.inl fn_), some (.inl ip_), some (.inr (.inl xa_)), none, some (.inr (.inl xb_)), none, some (.inr (.inl xd_)), none, some (.inr (.inl lt_)), none, some (.inl s_), some (.inr (.inl (l_3 ((l_3 ((l_5 xa_ (-1))) ((l_5 xb_ (-1))))) xd_))), none], [.inl 1, .inl (i_shr fn_ s_), .inr (.inl lt_)], S_)) rfl ?_
                refine sm_T_bin (w := ((i_shr fn_ s_) % 2)) rfl (bi_msk (k := 1) (by decide)) ?_ -- pc_ 114
                refine sm_T_go 1 (c1 := (116, [some (.inl fn_), some (.inl ip_), some (.inr (.inl xa_)), none, some (.inr (.inl xb_)), none, some (.inr (.inl xd_)), none, some (.inr (.inl lt_)), none, some (.inl s_), some (.inr (.inl (l_3 ((l_3 ((l_5 xa_ (-1))) ((l_5 xb_ (-1))))) xd_))), none], [.inl 1, .inl ((i_shr fn_ s_) % 2), .inr (.inl lt_)], S_)) rfl ?_
                refine sm_T_br (a := 1) (z := 8) rfl (fun cx11_ => ?_) (fun cx11_ => ?_)
                · have cx11_ : ((i_shr fn_ s_) % 2) ≠ 1 := of_decide_eq_true cx11_
                  refine sm_T_go 3 (c1 := (128, [some (.inl fn_), some (.inl ip_), some (.inr (.inl xa_)), none, some (.inr (.inl xb_)), none, some (.inr (.inl xd_)), none, some (.inr (.inl (l_4 lt_ 0))), none, some (.inl s_), some (.inr (.inl (l_3 ((l_3 ((l_5 xa_ (-1))) ((l_5 xb_ (-1))))) xd_))), none], [], S_)) rfl ?_
                  refine sm_T_inc (a := 10) (z := 1) (v := s_) (w := s_ + 1) rfl rfl (by omega) (by omega) (by omega) ?_ -- pc_ 128
                  refine sm_T_go 1 (c1 := (6, [some (.inl fn_), some (.inl ip_), some (.inr (.inl xa_)), none, some (.inr (.inl xb_)), none, some (.inr (.inl xd_)), none, some (.inr (.inl (l_4 lt_ 0))), none, some (.inl (s_ + 1)), some (.inr (.inl (l_3 ((l_3 ((l_5 xa_ (-1))) ((l_5 xb_ (-1))))) xd_))), none], [], S_)) rfl ?_
                  refine sm_T_wk [some (.inl fn_), some (.inl ip_), some (.inr (.inl xa_)), none, some (.inr (.inl xb_)), none, some (.inr (.inl xd_)), none, some (.inr (.inl (l_4 lt_ 0))), none, some (.inl (s_ + 1)), none, none] (by exact ⟨rfl, rfl, rfl, rfl, rfl, rfl, rfl, trivial⟩) ?_
                  refine ih_ xa_ xb_ xd_ ((l_4 lt_ 0)) (s_ + 1) S_ hI_ hF_ ⟨?_, ?_, ?_, trivial⟩ ?_
                  · omega
                  · exact hx_
                  · intro i9_ hi9_
                    rw [lbt_4, h1_ i9_ hi9_]
                    first | (rw [lbt_0]; exact tld_0 hf_ (by omega) (by omega)) | (refine tld_1 hf_ (by omega) (by omega) ?_; simp only [lbt_3, lbt_n hi9_, lbt_m hi9_, hx_.1, hx_.2.1, hx_.2.2]; (first | rw [decide_eq_true (show 2 ≤ ip_ by omega), Bool.true_and] | rw [decide_eq_false (show ¬ 2 ≤ ip_ by omega), Bool.false_and]); (first | rw [decide_eq_true (show 3 ≤ ip_ by omega), Bool.true_and] | rw [decide_eq_false (show ¬ 3 ≤ ip_ by omega), Bool.false_and]); cases lbt la_ i9_ <;> cases lbt lb_ i9_ <;> cases lbt ld_ i9_ <;> first | exact (decide_eq_true (by (rw [tix_c]; simp only [Bool.and_true, Bool.and_false, Bool.true_and, Bool.false_and, Bool.false_eq_true, if_true, if_false, reduceIte]; omega))).symm | exact (decide_eq_false (by (rw [tix_c]; simp only [Bool.and_true, Bool.and_false, Bool.true_and, Bool.false_and, Bool.false_eq_true, if_true, if_false, reduceIte]; omega))).symm)
                  · omega
                · have cx11_ : ¬ (((i_shr fn_ s_) % 2) ≠ 1) := of_decide_eq_false cx11_
                  refine sm_T_go 4 (c1 := (128, [some (.inl fn_), some (.inl ip_), some (.inr (.inl xa_)), none, some (.inr (.inl xb_)), none, some (.inr (.inl xd_)), none, some (.inr (.inl (l_4 lt_ ((l_3 ((l_3 ((l_5 xa_ (-1))) ((l_5 xb_ (-1))))) xd_))))), none, some (.inl s_), some (.inr (.inl (l_3 ((l_3 ((l_5 xa_ (-1))) ((l_5 xb_ (-1))))) xd_))), none], [], S_)) rfl ?_
                  refine sm_T_inc (a := 10) (z := 1) (v := s_) (w := s_ + 1) rfl rfl (by omega) (by omega) (by omega) ?_ -- pc_ 128
                  refine sm_T_go 1 (c1 := (6, [some (.inl fn_), some (.inl ip_), some (.inr (.inl xa_)), none, some (.inr (.inl xb_)), none, some (.inr (.inl xd_)), none, some (.inr (.inl (l_4 lt_ ((l_3 ((l_3 ((l_5 xa_ (-1))) ((l_5 xb_ (-1))))) xd_))))), none, some (.inl (s_ + 1)), some (.inr (.inl (l_3 ((l_3 ((l_5 xa_ (-1))) ((l_5 xb_ (-1))))) xd_))), none], [], S_)) rfl ?_
                  refine sm_T_wk [some (.inl fn_), some (.inl ip_), some (.inr (.inl xa_)), none, some (.inr (.inl xb_)), none, some (.inr (.inl xd_)), none, some (.inr (.inl (l_4 lt_ ((l_3 ((l_3 ((l_5 xa_ (-1))) ((l_5 xb_ (-1))))) xd_))))), none, some (.inl (s_ + 1)), none, none] (by exact ⟨rfl, rfl, rfl, rfl, rfl, rfl, rfl, trivial⟩) ?_
                  refine ih_ xa_ xb_ xd_ ((l_4 lt_ ((l_3 ((l_3 ((l_5 xa_ (-1))) ((l_5 xb_ (-1))))) xd_)))) (s_ + 1) S_ hI_ hF_ ⟨?_, ?_, ?_, trivial⟩ ?_
                  · omega
                  · exact hx_
                  · intro i9_ hi9_
                    rw [lbt_4, h1_ i9_ hi9_]
                    first | (rw [lbt_0]; exact tld_0 hf_ (by omega) (by omega)) | (refine tld_1 hf_ (by omega) (by omega) ?_; simp only [lbt_3, lbt_n hi9_, lbt_m hi9_, hx_.1, hx_.2.1, hx_.2.2]; (first | rw [decide_eq_true (show 2 ≤ ip_ by omega), Bool.true_and] | rw [decide_eq_false (show ¬ 2 ≤ ip_ by omega), Bool.false_and]); (first | rw [decide_eq_true (show 3 ≤ ip_ by omega), Bool.true_and] | rw [decide_eq_false (show ¬ 3 ≤ ip_ by omega), Bool.false_and]); cases lbt la_ i9_ <;> cases lbt lb_ i9_ <;> cases lbt ld_ i9_ <;> first | exact (decide_eq_true (by (rw [tix_c]; simp only [Bool.and_true, Bool.and_false, Bool.true_and, Bool.false_and, Bool.false_eq_true, if_true, if_false, reduceIte]; omega))).symm | exact (decide_eq_false (by (rw [tix_c]; simp only [Bool.and_true, Bool.and_false, Bool.true_and, Bool.false_and, Bool.false_eq_true, if_true, if_false, reduceIte]; omega))).symm)
                  · omega
            · have cx6_ : ¬ (3 ≤ ip_) := of_decide_eq_false cx6_
              refine sm_T_nt (u := some (.inr (.inl (-1)))) (S1 := S_) rfl rfl rfl ?_
              refine sm_T_go 6 (c1 := (112, [some (.inl fn_), some (.inl ip_), some (.inr (.inl xa_)), none, some (.inr (.inl xb_)), none, some (.inr (.inl xd_)), none, some (.inr (.inl lt_)), none, some (.inl s_), some (.inr (.inl (l_3 ((l_3 ((l_5 xa_ (-1))) ((l_5 xb_ (-1))))) (-1)))), none], [.inl s_, .inl fn_, .inr (.inl lt_)], S_)) rfl ?_
              refine sm_T_bin (w := (i_shr fn_ s_)) rfl rfl ?_ -- pc_ 112
              first | have bx12_ := i_shr_p (x_ := fn_) (e_ := s_) (by omega) (by omega) (by omega) | have bx12_ := i_shr_n fn_ s_
              refine sm_T_go 1 (c1 := (114, [some (.inl fn_), some (.inl ip_), some (.inr (.inl xa_)), none, some (.inr (.inl xb_)), none, some (.inr (.inl xd_)), none, some (.inr (.inl lt_)), none, some (.inl s_), some (.inr (.inl (l_3 ((l_3 ((l_5 xa_ (-1))) ((l_5 xb_ (-1))))) (-1)))), none], [.inl 1, .inl (i_shr fn_ s_), .inr (.inl lt_)], S_)) rfl ?_
              refine sm_T_bin (w := ((i_shr fn_ s_) % 2)) rfl (bi_msk (k := 1) (by decide)) ?_ -- pc_ 114
              refine sm_T_go 1 (c1 := (116, [some (.inl fn_), some (.inl ip_), some (.inr (.inl xa_)), none, some (.inr (.inl xb_)), none, some (.inr (.inl xd_)), none, some (.inr (.inl lt_)), none, some (.inl s_), some (.inr (.inl (l_3 ((l_3 ((l_5 xa_ (-1))) ((l_5 xb_ (-1))))) (-1)))), none], [.inl 1, .inl ((i_shr fn_ s_) % 2), .inr (.inl lt_)], S_)) rfl ?_
              refine sm_T_br (a := 1) (z := 8) rfl (fun cx13_ => ?_) (fun cx13_ => ?_)
              · have cx13_ : ((i_shr fn_ s_) % 2) ≠ 1 := of_decide_eq_true cx13_
                refine sm_T_go 3 (c1 := (128, [some (.inl fn_), some (.inl ip_), some (.inr (.inl xa_)), none, some (.inr (.inl xb_)), none, some (.inr (.inl xd_)), none, some (.inr (.inl (l_4 lt_ 0))), none, some (.inl s_), some (.inr (.inl (l_3 ((l_3 ((l_5 xa_ (-1))) ((l_5 xb_ (-1))))) (-1)))), none], [], S_)) rfl ?_
                refine sm_T_inc (a := 10) (z := 1) (v := s_) (w := s_ + 1) rfl rfl (by omega) (by omega) (by omega) ?_ -- pc_ 128
                refine sm_T_go 1 (c1 := (6, [some (.inl fn_), some (.inl ip_), some (.inr (.inl xa_)), none, some (.inr (.inl xb_)), none, some (.inr (.inl xd_)), none, some (.inr (.inl (l_4 lt_ 0))), none, some (.inl (s_ + 1)), some (.inr (.inl (l_3 ((l_3 ((l_5 xa_ (-1))) ((l_5 xb_ (-1))))) (-1)))), none], [], S_)) rfl ?_
                refine sm_T_wk [some (.inl fn_), some (.inl ip_), some (.inr (.inl xa_)), none, some (.inr (.inl xb_)), none, some (.inr (.inl xd_)), none, some (.inr (.inl (l_4 lt_ 0))), none, some (.inl (s_ + 1)), none, none] (by exact ⟨rfl, rfl, rfl, rfl, rfl, rfl, rfl, trivial⟩) ?_
                refine ih_ xa_ xb_ xd_ ((l_4 lt_ 0)) (s_ + 1) S_ hI_ hF_ ⟨?_, ?_, ?_, trivial⟩ ?_
                · omega
                · exact hx_
                · intro i9_ hi9_
                  rw [lbt_4, h1_ i9_ hi9_]
                  first | (rw [lbt_0]; exact tld_0 hf_ (by omega) (by omega)) | (refine tld_1 hf_ (by omega) (by omega) ?_; simp only [lbt_3, lbt_n hi9_, lbt_m hi9_, hx_.1, hx_.2.1, hx_.2.2]; (first | rw [decide_eq_true (show 2 ≤ ip_ by omega), Bool.true_and] | rw [decide_eq_false (show ¬ 2 ≤ ip_ by omega), Bool.false_and]); (first | rw [decide_eq_true (show 3 ≤ ip_ by omega), Bool.true_and] | rw [decide_eq_false (show ¬ 3 ≤ ip_ by omega), Bool.false_and]); cases lbt la_ i9_ <;> cases lbt lb_ i9_ <;> cases lbt ld_ i9_ <;> first | exact (decide_eq_true (by (rw [tix_c]; simp only [Bool.and_true, Bool.and_false, Bool.true_and, Bool.false_and, Bool.false_eq_true, if_true, if_false, reduceIte]; omega))).symm | exact (decide_eq_false (by (rw [tix_c]; simp only [Bool.and_true, Bool.and_false, Bool.true_and, Bool.false_and, Bool.false_eq_true, if_true, if_false, reduceIte]; omega))).symm)
                · omega
              · have cx13_ : ¬ (((i_shr fn_ s_) % 2) ≠ 1) := of_decide_eq_false cx13_
                refine sm_T_go 4 (c1 := (128, [some (.inl fn_), some (.inl ip_), some (.inr (.inl xa_)), none, some (.inr (.inl xb_)), none, some (.inr (.inl xd_)), none, some (.inr (.inl (l_4 lt_ ((l_3 ((l_3 ((l_5 xa_ (-1))) ((l_5 xb_ (-1))))) (-1)))))), none, some (.inl s_), some (.inr (.inl (l_3 ((l_3 ((l_5 xa_ (-1))) ((l_5 xb_ (-1))))) (-1)))), none], [], S_)) rfl ?_
                refine sm_T_inc (a := 10) (z := 1) (v := s_) (w := s_ + 1) rfl rfl (by omega) (by omega) (by omega) ?_ -- pc_ 128
                refine sm_T_go 1 (c1 := (6, [some (.inl fn_), some (.inl ip_), some (.inr (.inl xa_)), none, some (.inr (.inl xb_)), none, some (.inr (.inl xd_)), none, some (.inr (.inl (l_4 lt_ ((l_3 ((l_3 ((l_5 xa_ (-1))) ((l_5 xb_ (-1))))) (-1)))))), none, some (.inl (s_ + 1)), some (.inr (.inl (l_3 ((l_3 ((l_5 xa_ (-1))) ((l_5 xb_ (-1))))) (-1)))), none], [], S_)) rfl ?_
                refine sm_T_wk [some (.inl fn_), some (.inl ip_), some (.inr (.inl xa_)), none, some (.inr (.inl xb_)), none, some (.inr (.inl xd_)), none, some (.inr (.inl (l_4 lt_ ((l_3 ((l_3 ((l_5 xa_ (-1))) ((l_5 xb_ (-1))))) (-1)))))), none, some (.inl (s_ + 1)), none, none] (by exact ⟨rfl, rfl, rfl, rfl, rfl, rfl, rfl, trivial⟩) ?_
                refine ih_ xa_ xb_ xd_ ((l_4 lt_ ((l_3 ((l_3 ((l_5 xa_ (-1))) ((l_5 xb_ (-1))))) (-1))))) (s_ + 1) S_ hI_ hF_ ⟨?_, ?_, ?_, trivial⟩ ?_
                · omega
                · exact hx_
                · intro i9_ hi9_
                  rw [lbt_4, h1_ i9_ hi9_]
                  first | (rw [lbt_0]; exact tld_0 hf_ (by omega) (by omega)) | (refine tld_1 hf_ (by omega) (by omega) ?_; simp only [lbt_3, lbt_n hi9_, lbt_m hi9_, hx_.1, hx_.2.1, hx_.2.2]; (first | rw [decide_eq_true (show 2 ≤ ip_ by omega), Bool.true_and] | rw [decide_eq_false (show ¬ 2 ≤ ip_ by omega), Bool.false_and]); (first | rw [decide_eq_true (show 3 ≤ ip_ by omega), Bool.true_and] | rw [decide_eq_false (show ¬ 3 ≤ ip_ by omega), Bool.false_and]); cases lbt la_ i9_ <;> cases lbt lb_ i9_ <;> cases lbt ld_ i9_ <;> first | exact (decide_eq_true (by (rw [tix_c]; simp only [Bool.and_true, Bool.and_false, Bool.true_and, Bool.false_and, Bool.false_eq_true, if_true, if_false, reduceIte]; omega))).symm | exact (decide_eq_false (by (rw [tix_c]; simp only [Bool.and_true, Bool.and_false, Bool.true_and, Bool.false_and, Bool.false_eq_true, if_true, if_false, reduceIte]; omega))).symm)
                · omega
          · have cx5_ : ¬ (((s_ / 2) % 2) ≠ 1) := of_decide_eq_false cx5_
            refine sm_T_go 7 (c1 := (74, [some (.inl fn_), some (.inl ip_), some (.inr (.inl xa_)), none, some (.inr (.inl xb_)), none, some (.inr (.inl xd_)), none, some (.inr (.inl lt_)), none, some (.inl s_), some (.inr (.inl (l_3 ((l_5 xa_ (-1))) xb_))), none], [.inl 3, .inl ip_, .inr (.inl (l_3 ((l_5 xa_ (-1))) xb_))], S_)) rfl ?_
            refine sm_T_br (a := 3) (z := 9) rfl (fun cx14_ => ?_) (fun cx14_ => ?_)
            · have cx14_ : 3 ≤ ip_ := of_decide_eq_true cx14_
              refine sm_T_go 2 (c1 := (86, [some (.inl fn_), some (.inl ip_), some (.inr (.inl xa_)), none, some (.inr (.inl xb_)), none, some (.inr (.inl xd_)), none, some (.inr (.inl lt_)), none, some (.inl s_), some (.inr (.inl (l_3 ((l_5 xa_ (-1))) xb_))), none], [.inl 2, .inl s_, .inr (.inl (l_3 ((l_5 xa_ (-1))) xb_))], S_)) rfl ?_
              refine sm_T_bin (w := (s_ / 4)) rfl (bi_shr (k := 2) (by decide) (by omega) (by omega)) ?_ -- pc_ 86
              refine sm_T_go 1 (c1 := (88, [some (.inl fn_), some (.inl ip_), some (.inr (.inl xa_)), none, some (.inr (.inl xb_)), none, some (.inr (.inl xd_)), none, some (.inr (.inl lt_)), none, some (.inl s_), some (.inr (.inl (l_3 ((l_5 xa_ (-1))) xb_))), none], [.inl 1, .inl (s_ / 4), .inr (.inl (l_3 ((l_5 xa_ (-1))) xb_))], S_)) rfl ?_
              refine sm_T_bin (w := ((s_ / 4) % 2)) rfl (bi_msk (k := 1) (by decide)) ?_ -- pc_ 88
              refine sm_T_go 1 (c1 := (90, [some (.inl fn_), some (.inl ip_), some (.inr (.inl xa_)), none, some (.inr (.inl xb_)), none, some (.inr (.inl xd_)), none, some (.inr (.inl lt_)), none, some (.inl s_), some (.inr (.inl (l_3 ((l_5 xa_ (-1))) xb_))), none], [.inl 1, .inl ((s_ / 4) % 2), .inr (.inl (l_3 ((l_5 xa_ (-1))) xb_))], S_)) rfl ?_
              refine sm_T_br (a := 1) (z := 8) rfl (fun cx15_ => ?_) (fun cx15_ => ?_)
              · have cx15_ : ((s_ / 4) % 2) ≠ 1 := of_decide_eq_true cx15_
                refine sm_T_go 1 (c1 := (100, [some (.inl fn_), some (.inl ip_), some (.inr (.inl xa_)), none, some (.inr (.inl xb_)), none, some (.inr (.inl xd_)), none, some (.inr (.inl lt_)), none, some (.inl s_), some (.inr (.inl (l_3 ((l_5 xa_ (-1))) xb_))), none], [.inr (.inl xd_), .inr (.inl (l_3 ((l_5 xa_ (-1))) xb_))], S_)) rfl ?_
                refine sm_T_nt (u := some (.inr (.inl (-1)))) (S1 := S_) rfl rfl rfl ?_
                refine sm_T_go 6 (c1 := (112, [some (.inl fn_), some (.inl ip_), some (.inr (.inl xa_)), none, some (.inr (.inl xb_)), none, some (.inr (.inl xd_)), none, some (.inr (.inl lt_)), none, some (.inl s_), some (.inr (.inl (l_3 ((l_3 ((l_5 xa_ (-1))) xb_)) ((l_5 xd_ (-1)))))), none], [.inl s_, .inl fn_, .inr (.inl lt_)], S_)) rfl ?_
                refine sm_T_bin (w := (i_shr fn_ s_)) rfl rfl ?_ -- pc_ 112
                first | have bx16_ := i_shr_p (x_ := fn_) (e_ := s_) (by omega) (by omega) (by omega) | have bx16_ := i_shr_n fn_ s_
                refine sm_T_go 1 (c1 := (114, [some (.inl fn_), some (.inl ip_), some (.inr (.inl xa_)), none, some (.inr (.inl xb_)), none, some (.inr (.inl xd_)), none, some (.inr (.inl lt_)), none, some (.inl s_), some (.inr (.inl (l_3 ((l_3 ((l_5 xa_ (-1))) xb_)) ((l_5 xd_ (-1)))))), none], [.inl 1, .inl (i_shr fn_ s_), .inr (.inl lt_)], S_)) rfl ?_
                refine sm_T_bin (w := ((i_shr fn_ s_) % 2)) rfl (bi_msk (k := 1) (by decide)) ?_ -- pc_ 114
                refine sm_T_go 1 (c1 := (116, [some (.inl fn_), some (.inl ip_), some (.inr (.inl xa_)), none, some (.inr (.inl xb_)), none, some (.inr (.inl xd_)), none, some (.inr (.inl lt_)), none, some (.inl s_), some (.inr (.inl (l_3 ((l_3 ((l_5 xa_ (-1))) xb_)) ((l_5 xd_ (-1)))))), none], [.inl 1, .inl ((i_shr fn_ s_) % 2), .inr (.inl lt_)], S_)) rfl ?_
                refine sm_T_br (a := 1) (z := 8) rfl (fun cx17_ => ?_) (fun cx17_ => ?_)
                · have cx17_ : ((i_shr fn_ s_) % 2) ≠ 1 := of_decide_eq_true cx17_
                  refine sm_T_go 3 (c1 := (128, [some (.inl fn_), some (.inl ip_), some (.inr (.inl xa_)), none, some (.inr (.inl xb_)), none, some (.inr (.inl xd_)), none, some (.inr (.inl (l_4 lt_ 0))), none, some (.inl s_), some (.inr (.inl (l_3 ((l_3 ((l_5 xa_ (-1))) xb_)) ((l_5 xd_ (-1)))))), none], [], S_)) rfl ?_
                  refine sm_T_inc (a := 10) (z := 1) (v := s_) (w := s_ + 1) rfl rfl (by omega) (by omega) (by omega) ?_ -- pc_ 128
                  refine sm_T_go 1 (c1 := (6, [some (.inl fn_), some (.inl ip_), some (.inr (.inl xa_)), none, some (.inr (.inl xb_)), none, some (.inr (.inl xd_)), none, some (.inr (.inl (l_4 lt_ 0))), none, some (.inl (s_ + 1)), some (.inr (.inl (l_3 ((l_3 ((l_5 xa_ (-1))) xb_)) ((l_5 xd_ (-1)))))), none], [], S_)) rfl ?_
                  refine sm_T_wk [some (.inl fn_), some (.inl ip_), some (.inr (.inl xa_)), none, some (.inr (.inl xb_)), none, some (.inr (.inl xd_)), none, some (.inr (.inl (l_4 lt_ 0))), none, some (.inl (s_ + 1)), none, none] (by exact ⟨rfl, rfl, rfl, rfl, rfl, rfl, rfl, trivial⟩) ?_
                  refine ih_ xa_ xb_ xd_ ((l_4 lt_ 0)) (s_ + 1) S_ hI_ hF_ ⟨?_, ?_, ?_, trivial⟩ ?_
                  · omega
                  · exact hx_
                  · intro i9_ hi9_
                    rw [lbt_4, h1_ i9_ hi9_]
                    first | (rw [lbt_0]; exact tld_0 hf_ (by omega) (by omega)) | (refine tld_1 hf_ (by omega) (by omega) ?_; simp only [lbt_3, lbt_n hi9_, lbt_m hi9_, hx_.1, hx_.2.1, hx_.2.2]; (first | rw [decide_eq_true (show 2 ≤ ip_ by omega), Bool.true_and] | rw [decide_eq_false (show ¬ 2 ≤ ip_ by omega), Bool.false_and]); (first | rw [decide_eq_true (show 3 ≤ ip_ by omega), Bool.true_and] | rw [decide_eq_false (show ¬ 3 ≤ ip_ by omega), Bool.false_and]); cases lbt la_ i9_ <;> cases lbt lb_ i9_ <;> cases lbt ld_ i9_ <;> first | exact (decide_eq_true (by (rw [tix_c]; simp only [Bool.and_true, Bool.and_false, Bool.true_and, Bool.false_and, Bool.false_eq_true, if_true, if_false, reduceIte]; omega))).symm | exact (decide_eq_false (by (rw [tix_c]; simp only [Bool.and_true, Bool.and_false, Bool.true_and, Bool.false_and, Bool.false_eq_true, if_true, if_false, reduceIte]; omega))).symm)
                  · omega
                · have cx17_ : ¬ (((i_shr fn_ s_) % 2) ≠ 1) := of_decide_eq_false cx17_
                  refine sm_T_go 4 (c1 := (128, [some (.inl fn_), some (.inl ip_), some (.inr (.inl xa_)), none, some (.inr (.inl xb_)), none, some (.inr (.inl xd_)), none, some (.inr (.inl (l_4 lt_ ((l_3 ((l_3 ((l_5 xa_ (-1))) xb_)) ((l_5 xd_ (-1)))))))), none, some (.inl s_), some (.inr (.inl (l_3 ((l_3 ((l_5 xa_ (-1))) xb_)) ((l_5 xd_ (-1)))))), none], [], S_)) rfl ?_
                  refine sm_T_inc (a := 10) (z := 1) (v := s_) (w := s_ + 1) rfl rfl (by omega) (by omega) (by omega) ?_ -- pc_ 128
                  refine sm_T_go 1 (c1 := (6, [some (.inl fn_), some (.inl ip_), some (.inr (.inl xa_)), none, some (.inr (.inl xb_)), none, some (.inr (.inl xd_)), none, some (.inr (.inl (l_4 lt_ ((l_3 ((l_3 ((l_5 xa_ (-1))) xb_)) ((l_5 xd_ (-1)))))))), none, some (.inl (s_ + 1)), some (.inr (.inl (l_3 ((l_3 ((l_5 xa_ (-1))) xb_)) ((l_5 xd_ (-1)))))), none], [], S_)) rfl ?_
                  refine sm_T_wk [some (.inl fn_), some (.inl ip_), some (.inr (.inl xa_)), none, some (.inr (.inl xb_)), none, some (.inr (.inl xd_)), none, some (.inr (.inl (l_4 lt_ ((l_3 ((l_3 ((l_5 xa_ (-1))) xb_)) ((l_5 xd_ (-1)))))))), none, some (.inl (s_ + 1)), none, none] (by exact ⟨rfl, rfl, rfl, rfl, rfl, rfl, rfl, trivial⟩) ?_
                  refine ih_ xa_ xb_ xd_ ((l_4 lt_ ((l_3 ((l_3 ((l_5 xa_ (-1))) xb_)) ((l_5 xd_ (-1))))))) (s_ + 1) S_ hI_ hF_ ⟨?_, ?_, ?_, trivial⟩ ?_
                  · omega
                  · exact hx_
                  · intro i9_ hi9_
                    rw [lbt_4, h1_ i9_ hi9_]
                    first | (rw [lbt_0]; exact tld_0 hf_ (by omega) (by omega)) | (refine tld_1 hf_ (by omega) (by omega) ?_; simp only [lbt_3, lbt_n hi9_, lbt_m hi9_, hx_.1, hx_.2.1, hx_.2.2]; (first | rw [decide_eq_true (show 2 ≤ ip_ by omega), Bool.true_and] | rw [decide_eq_false (show ¬ 2 ≤ ip_ by omega), Bool.false_and]); (first | rw [decide_eq_true (show 3 ≤ ip_ by omega), Bool.true_and] | rw [decide_eq_false (show ¬ 3 ≤ ip_ by omega), Bool.false_and]); cases lbt la_ i9_ <;> cases lbt lb_ i9_ <;> cases lbt ld_ i9_ <;> first | exact (decide_eq_true (by (rw [tix_c]; simp only [Bool.and_true, Bool.and_false, Bool.true_and, Bool.false_and, Bool.false_eq_true, if_true, if_false, reduceIte]; omega))).symm | exact (decide_eq_false (by (rw [tix_c]; simp only [Bool.and_true, Bool.and_false, Bool.true_and, Bool.false_and, Bool.false_eq_true, if_true, if_false, reduceIte]; omega))).symm)
                  · omega
              · have cx15_ : ¬ (((s_ / 4) % 2) ≠ 1) := of_decide_eq_false cx15_
                refine sm_T_go 7 (c1 := (112, [some (.inl fn_), some (.inl ip_), some (.inr (.inl xa_)), none, some (.inr (.inl xb_)), none, some (.inr (.inl xd_)), none, some (.inr (.inl lt_)), none, some (.inl s_), some (.inr (.inl (l_3 ((l_3 ((l_5 xa_ (-1))) xb_)) xd_))), none], [.inl s_, .inl fn_, .inr (.inl lt_)], S_)) rfl ?_
                refine sm_T_bin (w := (i_shr fn_ s_)) rfl rfl ?_ -- pc_ 112
                first | have bx18_ := i_shr_p (x_ := fn_) (e_ := s_) (by omega) (by omega) (by omega) | have bx18_ := i_shr_n fn_ s_
                refine sm_T_go 1 (c1 := (114, [some (.inl fn_), some (.inl ip_), some (.inr (.inl xa_)), none, some (.inr (.inl xb_)), none, some (.inr (.inl xd_)), none, some (.inr (.inl lt_)), none, some (.inl s_), some (.inr (.inl (l_3 ((l_3 ((l_5 xa_ (-1))) xb_)) xd_))), none], [.inl 1, .inl (i_shr fn_ s_), .inr (.inl lt_)], S_)) rfl ?_
                refine sm_T_bin (w := ((i_shr fn_ s_) % 2)) rfl (bi_msk (k := 1) (by decide)) ?_ -- pc_ 114
                refine sm_T_go 1 (c1 := (116, [some (.inl fn_), some (.inl ip_), some (.inr (.inl xa_)), none, some (.inr (.inl xb_)), none, some (.inr (.inl xd_)), none, some (.inr (.inl lt_)), none, some (.inl s_), some (.inr (.inl (l_3 ((l_3 ((l_5 xa_ (-1))) xb_)) xd_))), none], [.inl 1, .inl ((i_shr fn_ s_) % 2), .inr (.inl lt_)], S_)) rfl ?_
                refine sm_T_br (a := 1) (z := 8) rfl (fun cx19_ => ?_) (fun cx19_ => ?_)
                · have cx19_ : ((i_shr fn_ s_) % 2) ≠ 1 := of_decide_eq_true cx19_
                  refine sm_T_go 3 (c1 := (128, [some (.inl fn_), some (.inl ip_), some (.inr (.inl xa_)), none, some (.inr (.inl xb_)), none, some (.inr (.inl xd_)), none, some (.inr (.inl (l_4 lt_ 0))), none, some (.inl s_), some (.inr (.inl (l_3 ((l_3 ((l_5 xa_ (-1))) xb_)) xd_))), none], [], S_)) rfl ?_
                  refine sm_T_inc (a := 10) (z := 1) (v := s_) (w := s_ + 1) rfl rfl (by omega) (by omega) (by omega) ?_ -- pc_ 128
                  refine sm_T_go 1 (c1 := (6, [some (.inl fn_), some (.inl ip_), some (.inr (.inl xa_)), none, some (.inr (.inl xb_)), none, some (.inr (.inl xd_)), none, some (.inr (.inl (l_4 lt_ 0))), none, some (.inl (s_ + 1)), some (.inr (.inl (l_3 ((l_3 ((l_5 xa_ (-1))) xb_)) xd_))), none], [], S_)) rfl ?_
                  refine sm_T_wk [some (.inl fn_), some (.inl ip_), some (.inr (.inl xa_)), none, some (.inr (.inl xb_)), none, some (.inr (.inl xd_)), none, some (.inr (.inl (l_4 lt_ 0))), none, some (.inl (s_ + 1)), none, none] (by exact ⟨rfl, rfl, rfl, rfl, rfl, rfl, rfl, trivial⟩) ?_
                  refine ih_ xa_ xb_ xd_ ((l_4 lt_ 0)) (s_ + 1) S_ hI_ hF_ ⟨?_, ?_, ?_, trivial⟩ ?_
                  · omega
                  · exact hx_
                  · intro i9_ hi9_
                    rw [lbt_4, h1_ i9_ hi9_]
                    first | (rw [lbt_0]; exact tld_0 hf_ (by omega) (by omega)) | (refine tld_1 hf_ (by omega) (by omega) ?_; simp only [lbt_3, lbt_n hi9_, lbt_m hi9_, hx_.1, hx_.2.1, hx_.2.2]; (first | rw [decide_eq_true (show 2 ≤ ip_ by omega), Bool.true_and] | rw [decide_eq_false (show ¬ 2 ≤ ip_ by omega), Bool.false_and]); (first | rw [decide_eq_true (show 3 ≤ ip_ by omega), Bool.true_and] | rw [decide_eq_false (show ¬ 3 ≤ ip_ by omega), Bool.false_and]); cases lbt la_ i9_ <;> cases lbt lb_ i9_ <;> cases lbt ld_ i9_ <;> first | exact (decide_eq_true (by (rw [tix_c]; simp only [Bool.and_true, Bool.and_false, Bool.true_and, Bool.false_and, Bool.false_eq_true, if_true, if_false, reduceIte]; omega))).symm | exact (decide_eq_false (by (rw [tix_c]; simp only [Bool.and_true, Bool.and_false, Bool.true_and, Bool.false_and, Bool.false_eq_true, if_true, if_false, reduceIte]; omega))).symm)
                  · omega
                · have cx19_ : ¬ (((i_shr fn_ s_) % 2) ≠ 1) := of_decide_eq_false cx19_
                  refine sm_T_go 4 (c1 := (128, [some (.inl fn_), some (.inl ip_), some (.inr (.inl xa_)), none, some (.inr (.inl xb_)), none, some (.inr (.inl xd_)), none, some (.inr (.inl (l_4 lt_ ((l_3 ((l_3 ((l_5 xa_ (-1))) xb_)) xd_))))), none, some (.inl s_), some (.inr (.inl (l_3 ((l_3 ((l_5 xa_ (-1))) xb_)) xd_))), none], [], S_)) rfl ?_
                  refine sm_T_inc (a := 10) (z := 1) (v := s_) (w := s_ + 1) rfl rfl (by omega) (by omega) (by omega) ?_ -- pc_ 128
                  refine sm_T_go 1 (c1 := (6, [some (.inl fn_), some (.inl ip_), some (.inr (.inl xa_)), none, some (.inr (.inl xb_)), none, some (.inr (.inl xd_)), none, some (.inr (.inl (l_4 lt_ ((l_3 ((l_3 ((l_5 xa_ (-1))) xb_)) xd_))))), none, some (.inl (s_ + 1)), some (.inr (.inl (l_3 ((l_3 ((l_5 xa_ (-1))) xb_)) xd_))), none], [], S_)) rfl ?_
                  refine sm_T_wk [some (.inl fn_), some (.inl ip_), some (.inr (.inl xa_)), none, some (.inr (.inl xb_)), none, some (.inr (.inl xd_)), none, some (.inr (.inl (l_4 lt_ ((l_3 ((l_3 ((l_5 xa_ (-1))) xb_)) xd_))))), none, some (.inl (s_ + 1)), none, none] (by exact ⟨rfl, rfl, rfl, rfl, rfl, rfl, rfl, trivial⟩) ?_
                  refine ih_ xa_ xb_ xd_ ((l_4 lt_ ((l_3 ((l_3 ((l_5 xa_ (-1))) xb_)) xd_)))) (s_ + 1) S_ hI_ hF_ ⟨?_, ?_, ?_, trivial⟩ ?_
                  · omega
                  · exact hx_
                  · intro i9_ hi9_
                    rw [lbt_4, h1_ i9_ hi9_]
                    first | (rw [lbt_0]; exact tld_0 hf_ (by omega) (by omega)) | (refine tld_1 hf_ (by omega) (by omega) ?_; simp only [lbt_3, lbt_n hi9_, lbt_m hi9_, hx_.1, hx_.2.1, hx_.2.2]; (first | rw [decide_eq_true (show 2 ≤ ip_ by omega), Bool.true_and] | rw [decide_eq_false (show ¬ 2 ≤ ip_ by omega), Bool.false_and]); (first | rw [decide_eq_true (show 3 ≤ ip_ by omega), Bool.true_and] | rw [decide_eq_false (show ¬ 3 ≤ ip_ by omega), Bool.false_and]); cases lbt la_ i9_ <;> cases lbt lb_ i9_ <;> cases lbt ld_ i9_ <;> first | exact (decide_eq_true (by (rw [tix_c]; simp only [Bool.and_true, Bool.and_false, Bool.true_and, Bool.false_and, Bool.false_eq_true, if_true, if_false, reduceIte]; omega))).symm | exact (decide_eq_false (by (rw [tix_c]; simp only [Bool.and_true, Bool.and_false, Bool.true_and, Bool.false_and, Bool.false_eq_true, if_true, if_false, reduceIte]; omega))).symm)
                  · omega
            · have cx14_ : ¬ (3 ≤ ip_) := of_decide_eq_false cx14_
              refine sm_T_nt (u := some (.inr (.inl (-1)))) (S1 := S_) rfl rfl rfl ?_
              refine sm_T_go 6 (c1 := (112, [some (.inl fn_), some (.inl ip_), some (.inr (.inl xa_)), none, some (.inr (.inl xb_)), none, some (.inr (.inl xd_)), none, some (.inr (.inl lt_)), none, some (.inl s_), some (.inr (.inl (l_3 ((l_3 ((l_5 xa_ (-1))) xb_)) (-1)))), none], [.inl s_, .inl fn_, .inr (.inl lt_)], S_)) rfl ?_
              refine sm_T_bin (w := (i_shr fn_ s_)) rfl rfl ?_ -- pc_ 112
              first | have bx20_ := i_shr_p (x_ := fn_) (e_ := s_) (by omega) (by omega) (by omega) | have bx20_ := i_shr_n fn_ s_
              refine sm_T_go 1 (c1 := (114, [some (.inl fn_), some (.inl ip_), some (.inr (.inl xa_)), none, some (.inr (.inl xb_)), none, some (.inr (.inl xd_)), none, some (.inr (.inl lt_)), none, some (.inl s_), some (.inr (.inl (l_3 ((l_3 ((l_5 xa_ (-1))) xb_)) (-1)))), none], [.inl 1, .inl (i_shr fn_ s_), .inr (.inl lt_)], S_)) rfl ?_
              refine sm_T_bin (w := ((i_shr fn_ s_) % 2)) rfl (bi_msk (k := 1) (by decide)) ?_ -- pc_ 114
              refine sm_T_go 1 (c1 := (116, [some (.inl fn_), some (.inl ip_), some (.inr (.inl xa_)), none, some (.inr (.inl xb_)), none, some (.inr (.inl xd_)), none, some (.inr (.inl lt_)), none, some (.inl s_), some (.inr (.inl (l_3 ((l_3 ((l_5 xa_ (-1))) xb_)) (-1)))), none], [.inl 1, .inl ((i_shr fn_ s_) % 2), .inr (.inl lt_)], S_)) rfl ?_
              refine sm_T_br (a := 1) (z := 8) rfl (fun cx21_ => ?_) (fun cx21_ => ?_)
              · have cx21_ : ((i_shr fn_ s_) % 2) ≠ 1 := of_decide_eq_true cx21_
                refine sm_T_go 3 (c1 := (128, [some (.inl fn_), some (.inl ip_), some (.inr (.inl xa_)), none, some (.inr (.inl xb_)), none, some (.inr (.inl xd_)), none, some (.inr (.inl (l_4 lt_ 0))), none, some (.inl s_), some (.inr (.inl (l_3 ((l_3 ((l_5 xa_ (-1))) xb_)) (-1)))), none], [], S_)) rfl ?_
                refine sm_T_inc (a := 10) (z := 1) (v := s_) (w := s_ + 1) rfl rfl (by omega) (by omega) (by omega) ?_ -- pc_ 128
                refine sm_T_go 1 (c1 := (6, [some (.inl fn_), some (.inl ip_), some (.inr (.inl xa_)), none, some (.inr (.inl xb_)), none, some (.inr (.inl xd_)), none, some (.inr (.inl (l_4 lt_ 0))), none, some (.inl (s_ + 1)), some (.inr (.inl (l_3 ((l_3 ((l_5 xa_ (-1))) xb_)) (-1)))), none], [], S_)) rfl ?_
                refine sm_T_wk [some (.inl fn_), some (.inl ip_), some (.inr (.inl xa_)), none, some (.inr (.inl xb_)), none, some (.inr (.inl xd_)), none, some (.inr (.inl (l_4 lt_ 0))), none, some (.inl (s_ + 1)), none, none] (by exact ⟨rfl, rfl, rfl, rfl, rfl, rfl, rfl, trivial⟩) ?_
                refine ih_ xa_ xb_ xd_ ((l_4 lt_ 0)) (s_ + 1) S_ hI_ hF_ ⟨?_, ?_, ?_, trivial⟩ ?_
                · omega
                · exact hx_
                · intro i9_ hi9_
                  rw [lbt_4, h1_ i9_ hi9_]
                  first | (rw [lbt_0]; exact tld_0 hf_ (by omega) (by omega)) | (refine tld_1 hf_ (by omega) (by omega) ?_; simp only [lbt_3, lbt_n hi9_, lbt_m hi9_, hx_.1, hx_.2.1, hx_.2.2]; (first | rw [decide_eq_true (show 2 ≤ ip_ by omega), Bool.true_and] | rw [decide_eq_false (show ¬ 2 ≤ ip_ by omega), Bool.false_and]); (first | rw [decide_eq_true (show 3 ≤ ip_ by omega), Bool.true_and] | rw [decide_eq_false (show ¬ 3 ≤ ip_ by omega), Bool.false_and]); cases lbt la_ i9_ <;> cases lbt lb_ i9_ <;> cases lbt ld_ i9_ <;> first | exact (decide_eq_true (by (rw [tix_c]; simp only [Bool.and_true, Bool.and_false, Bool.true_and, Bool.false_and, Bool.false_eq_true, if_true, if_false, reduceIte]; omega))).symm | exact (decide_eq_false (by (rw [tix_c]; simp only [Bool.and_true, Bool.and_false, Bool.true_and, Bool.false_and, Bool.false_eq_true, if_true, if_false, reduceIte]; omega))).symm)
                · omega
              · have cx21_ : ¬ (((i_shr fn_ s_) % 2) ≠ 1) := of_decide_eq_false cx21_
                refine sm_T_go 4 (c1 := (128, [some (.inl fn_), some (.inl ip_), some (.inr (.inl xa_)), none, some (.inr (.inl xb_)), none, some (.inr (.inl xd_)), none, some (.inr (.inl (l_4 lt_ ((l_3 ((l_3 ((l_5 xa_ (-1))) xb_)) (-1)))))), none, some (.inl s_), some (.inr (.inl (l_3 ((l_3 ((l_5 xa_ (-1))) xb_)) (-1)))), none], [], S_)) rfl ?_
                refine sm_T_inc (a := 10) (z := 1) (v := s_) (w := s_ + 1) rfl rfl (by omega) (by omega) (by omega) ?_ -- pc_ 128
                refine sm_T_go 1 (c1 := (6, [some (.inl fn_), some (.inl ip_), some (.inr (.inl xa_)), none, some (.inr (.inl xb_)), none, some (.inr (.inl xd_)), none, some (.inr (.inl (l_4 lt_ ((l_3 ((l_3 ((l_5 xa_ (-1))) xb_)) (-1)))))), none, some (.inl (s_ + 1)), some (.inr (.inl (l_3 ((l_3 ((l_5 xa_ (-1))) xb_)) (-1)))), none], [], S_)) rfl ?_
                refine sm_T_wk [some (.inl fn_), some (.inl ip_), some (.inr (.inl xa_)), none, some (.inr (.inl xb_)), none, some (.inr (.inl xd_)), none, some (.inr (.inl (l_4 lt_ ((l_3 ((l_3 ((l_5 xa_ (-1))) xb_)) (-1)))))), none, some (.inl (s_ + 1)), none, none] (by exact ⟨rfl, rfl, rfl, rfl, rfl, rfl, rfl, trivial⟩) ?_
                refine ih_ xa_ xb_ xd_ ((l_4 lt_ ((l_3 ((l_3 ((l_5 xa_ (-1))) xb_)) (-1))))) (s_ + 1) S_ hI_ hF_ ⟨?_, ?_, ?_, trivial⟩ ?_
                · omega
                · exact hx_
                · intro i9_ hi9_
                  rw [lbt_4, h1_ i9_ hi9_]
                  first | (rw [lbt_0]; exact tld_0 hf_ (by omega) (by omega)) | (refine tld_1 hf_ (by omega) (by omega) ?_; simp only [lbt_3, lbt_n hi9_, lbt_m hi9_, hx_.1, hx_.2.1, hx_.2.2]; (first | rw [decide_eq_true (show 2 ≤ ip_ by omega), Bool.true_and] | rw [decide_eq_false (show ¬ 2 ≤ ip_ by omega), Bool.false_and]); (first | rw [decide_eq_true (show 3 ≤ ip_ by omega), Bool.true_and] | rw [decide_eq_false (show ¬ 3 ≤ ip_ by omega), Bool.false_and]); cases lbt la_ i9_ <;> cases lbt lb_ i9_ <;> cases lbt ld_ i9_ <;> first | exact (decide_eq_true (by (rw [tix_c]; simp only [Bool.and_true, Bool.and_false, Bool.true_and, Bool.false_and, Bool.false_eq_true, if_true, if_false, reduceIte]; omega))).symm | exact (decide_eq_false (by (rw [tix_c]; simp only [Bool.and_true, Bool.and_false, Bool.true_and, Bool.false_and, Bool.false_eq_true, if_true, if_false, reduceIte]; omega))).symm)
                · omega
        · have cx4_ : ¬ (2 ≤ ip_) := of_decide_eq_false cx4_
          refine sm_T_nt (u := some (.inr (.inl (-1)))) (S1 := S_) rfl rfl rfl ?_
          refine sm_T_go 6 (c1 := (74, [some (.inl fn_), some (.inl ip_), some (.inr (.inl xa_)), none, some (.inr (.inl xb_)), none, some (.inr (.inl xd_)), none, some (.inr (.inl lt_)), none, some (.inl s_), some (.inr (.inl (l_3 ((l_5 xa_ (-1))) (-1)))), none], [.inl 3, .inl ip_, .inr (.inl (l_3 ((l_5 xa_ (-1))) (-1)))], S_)) rfl ?_
          refine sm_T_br (a := 3) (z := 9) rfl (fun cx22_ => ?_) (fun cx22_ => ?_)
          · have cx22_ : 3 ≤ ip_ := of_decide_eq_true cx22_
            exfalso; omega
          · have cx22_ : ¬ (3 ≤ ip_) := of_decide_eq_false cx22_
            refine sm_T_nt (u := some (.inr (.inl (-1)))) (S1 := S_) rfl rfl rfl ?_
            refine sm_T_go 6 (c1 := (112, [some (.inl fn_), some (.inl ip_), some (.inr (.inl xa_)), none, some (.inr (.inl xb_)), none, some (.inr (.inl xd_)), none, some (.inr (.inl lt_)), none, some (.inl s_), some (.inr (.inl (l_3 ((l_3 ((l_5 xa_ (-1))) (-1))) (-1)))), none], [.inl s_, .inl fn_, .inr (.inl lt_)], S_)) rfl ?_
            refine sm_T_bin (w := (i_shr fn_ s_)) rfl rfl ?_ -- pc_ 112
            first | have bx23_ := i_shr_p (x_ := fn_) (e_ := s_) (by omega) (by omega) (by omega) | have bx23_ := i_shr_n fn_ s_
            refine sm_T_go 1 (c1 := (114, [some (.inl fn_), some (.inl ip_), some (.inr (.inl xa_)), none, some (.inr (.inl xb_)), none, some (.inr (.inl xd_)), none, some (.inr (.inl lt_)), none, some (.inl s_), some (.inr (.inl (l_3 ((l_3 ((l_5 xa_ (-1))) (-1))) (-1)))), none], [.inl 1, .inl (i_shr fn_ s_), .inr (.inl lt_)], S_)) rfl ?_
            refine sm_T_bin (w := ((i_shr fn_ s_) % 2)) rfl (bi_msk (k := 1) (by decide)) ?_ -- pc_ 114
            refine sm_T_go 1 (c1 := (116, [some (.inl fn_), some (.inl ip_), some (.inr (.inl xa_)), none, some (.inr (.inl xb_)), none, some (.inr (.inl xd_)), none, some (.inr (.inl lt_)), none, some (.inl s_), some (.inr (.inl (l_3 ((l_3 ((l_5 xa_ (-1))) (-1))) (-1)))), none], [.inl 1, .inl ((i_shr fn_ s_) % 2), .inr (.inl lt_)], S_)) rfl ?_
            refine sm_T_br (a := 1) (z := 8) rfl (fun cx24_ => ?_) (fun cx24_ => ?_)
            · have cx24_ : ((i_shr fn_ s_) % 2) ≠ 1 := of_decide_eq_true cx24_
              refine sm_T_go 3 (c1 := (128, [some (.inl fn_), some (.inl ip_), some (.inr (.inl xa_)), none, some (.inr (.inl xb_)), none, some (.inr (.inl xd_)), none, some (.inr (.inl (l_4 lt_ 0))), none, some (.inl s_), some (.inr (.inl (l_3 ((l_3 ((l_5 xa_ (-1))) (-1))) (-1)))), none], [], S_)) rfl ?_
              refine sm_T_inc (a := 10) (z := 1) (v := s_) (w := s_ + 1) rfl rfl (by omega) (by omega) (by omega) ?_ -- pc_ 128
              refine sm_T_go 1 (c1 := (6, [some (.inl fn_), some (.inl ip_), some (.inr (.inl xa_)), none, some (.inr (.inl xb_)), none, some (.inr (.inl xd_)), none, some (.inr (.inl (l_4 lt_ 0))), none, some (.inl (s_ + 1)), some (.inr (.inl (l_3 ((l_3 ((l_5 xa_ (-1))) (-1))) (-1)))), none], [], S_)) rfl ?_
              refine sm_T_wk [some (.inl fn_), some (.inl ip_), some (.inr (.inl xa_)), none, some (.inr (.inl xb_)), none, some (.inr (.inl xd_)), none, some (.inr (.inl (l_4 lt_ 0))), none, some (.inl (s_ + 1)), none, none] (by exact ⟨rfl, rfl, rfl, rfl, rfl, rfl, rfl, trivial⟩) ?_
              refine ih_ xa_ xb_ xd_ ((l_4 lt_ 0)) (s_ + 1) S_ hI_ hF_ ⟨?_, ?_, ?_, trivial⟩ ?_
              · omega
              · exact hx_
              · intro i9_ hi9_
                rw [lbt_4, h1_ i9_ hi9_]
                first | (rw [lbt_0]; exact tld_0 hf_ (by omega) (by omega)) | (refine tld_1 hf_ (by omega) (by omega) ?_; simp only [lbt_3, lbt_n hi9_, lbt_m hi9_, hx_.1, hx_.2.1, hx_.2.2]; (first | rw [decide_eq_true (show 2 ≤ ip_ by omega), Bool.true_and] | rw [decide_eq_false (show ¬ 2 ≤ ip_ by omega), Bool.false_and]); (first | rw [decide_eq_true (show 3 ≤ ip_ by omega), Bool.true_and] | rw [decide_eq_false (show ¬ 3 ≤ ip_ by omega), Bool.false_and]); cases lbt la_ i9_ <;> cases lbt lb_ i9_ <;> cases lbt ld_ i9_ <;> first | exact (decide_eq_true (by (rw [tix_c]; simp only [Bool.and_true, Bool.and_false, Bool.true_and, Bool.false_and, Bool.false_eq_true, if_true, if_false, reduceIte]; omega))).symm | exact (decide_eq_false (by (rw [tix_c]; simp only [Bool.and_true, Bool.and_false, Bool.true_and, Bool.false_and, Bool.false_eq_true, if_true, if_false, reduceIte]; omega))).symm)
              · omega
            · have cx24_ : ¬ (((i_shr fn_ s_) % 2) ≠ 1) := of_decide_eq_false cx24_
              refine sm_T_go 4 (c1 := (128, [some (.inl fn_), some (.inl ip_), some (.inr (.inl xa_)), none, some (.inr (.inl xb_)), none, some (.inr (.inl xd_)), none, some (.inr (.inl (l_4 lt_ ((l_3 ((l_3 ((l_5 xa_ (-1))) (-1))) (-1)))))), none, some (.inl s_), some (.inr (.inl (l_3 ((l_3 ((l_5 xa_ (-1))) (-1))) (-1)))), none], [], S_)) rfl ?_
              refine sm_T_inc (a := 10) (z := 1) (v := s_) (w := s_ + 1) rfl rfl (by omega) (by omega) (by omega) ?_ -- pc_ 128
              refine sm_T_go 1 (c1 := (6, [some (.inl fn_), some (.inl ip_), some (.inr (.inl xa_)), none, some (.inr (.inl xb_)), none, some (.inr (.inl xd_)), none, some (.inr (.inl (l_4 lt_ ((l_3 ((l_3 ((l_5 xa_ (-1))) (-1))) (-1)))))), none, some (.inl (s_ + 1)), some (.inr (.inl (l_3 ((l_3 ((l_5 xa_ (-1))) (-1))) (-1)))), none], [], S_)) rfl ?_
              refine sm_T_wk [some (.inl fn_), some (.inl ip_), some (.inr (.inl xa_)), none, some (.inr (.inl xb_)), none, some (.inr (.inl xd_)), none, some (.inr (.inl (l_4 lt_ ((l_3 ((l_3 ((l_5 xa_ (-1))) (-1))) (-1)))))), none, some (.inl (s_ + 1)), none, none] (by exact ⟨rfl, rfl, rfl, rfl, rfl, rfl, rfl, trivial⟩) ?_
              refine ih_ xa_ xb_ xd_ ((l_4 lt_ ((l_3 ((l_3 ((l_5 xa_ (-1))) (-1))) (-1))))) (s_ + 1) S_ hI_ hF_ ⟨?_, ?_, ?_, trivial⟩ ?_
              · omega
              · exact hx_
              · intro i9_ hi9_
                rw [lbt_4, h1_ i9_ hi9_]
                first | (rw [lbt_0]; exact tld_0 hf_ (by omega) (by omega)) | (refine tld_1 hf_ (by omega) (by omega) ?_; simp only [lbt_3, lbt_n hi9_, lbt_m hi9_, hx_.1, hx_.2.1, hx_.2.2]; (first | rw [decide_eq_true (show 2 ≤ ip_ by omega), Bool.true_and] | rw [decide_eq_false (show ¬ 2 ≤ ip_ by omega), Bool.false_and]); (first | rw [decide_eq_true (show 3 ≤ ip_ by omega), Bool.true_and] | rw [decide_eq_false (show ¬ 3 ≤ ip_ by omega), Bool.false_and]); cases lbt la_ i9_ <;> cases lbt lb_ i9_ <;> cases lbt ld_ i9_ <;> first | exact (decide_eq_true (by (rw [tix_c]; simp only [Bool.and_true, Bool.and_false, Bool.true_and, Bool.false_and, Bool.false_eq_true, if_true, if_false, reduceIte]; omega))).symm | exact (decide_eq_false (by (rw [tix_c]; simp only [Bool.and_true, Bool.and_false, Bool.true_and, Bool.false_and, Bool.false_eq_true, if_true, if_false, reduceIte]; omega))).symm)
              · omega
      · have cx3_ : ¬ ((s_ % 2) ≠ 1) := of_decide_eq_false cx3_
        refine sm_T_go 6 (c1 := (37, [some (.inl fn_), some (.inl ip_), some (.inr (.inl xa_)), none, some (.inr (.inl xb_)), none, some (.inr (.inl xd_)), none, some (.inr (.inl lt_)), none, some (.inl s_), some (.inr (.inl xa_)), none], [.inl 2, .inl ip_, .inr (.inl xa_)], S_)) rfl ?_
        refine sm_T_br (a := 3) (z := 9) rfl (fun cx25_ => ?_) (fun cx25_ => ?_)
        · have cx25_ : 2 ≤ ip_ := of_decide_eq_true cx25_
          refine sm_T_go 2 (c1 := (49, [some (.inl fn_), some (.inl ip_), some (.inr (.inl xa_)), none, some (.inr (.inl xb_)), none, some (.inr (.inl xd_)), none, some (.inr (.inl lt_)), none, some (.inl s_), some (.inr (.inl xa_)), none], [.inl 1, .inl s_, .inr (.inl xa_)], S_)) rfl ?_
          refine sm_T_bin (w := (s_ / 2)) rfl (bi_shr (k := 1) (by decide) (by omega) (by omega)) ?_ -- pc_ 49
          refine sm_T_go 1 (c1 := (51, [some (.inl fn_), some (.inl ip_), some (.inr (.inl xa_)), none, some (.inr (.inl xb_)), none, some (.inr (.inl xd_)), none, some (.inr (.inl lt_)), none, some (.inl s_), some (.inr (.inl xa_)), none], [.inl 1, .inl (s_ / 2), .inr (.inl xa_)], S_)) rfl ?_
          refine sm_T_bin (w := ((s_ / 2) % 2)) rfl (bi_msk (k := 1) (by decide)) ?_ -- pc_ 51
          refine sm_T_go 1 (c1 := (53, [some (.inl fn_), some (.inl ip_), some (.inr (.inl xa_)), none, some (.inr (.inl xb_)), none, some (.inr (.inl xd_)), none, some (.inr (.inl lt_)), none, some (.inl s_), some (.inr (.inl xa_)), none], [.inl 1, .inl ((s_ / 2) % 2), .inr (.inl xa_)], S_)) rfl ?_
          refine sm_T_br (a := 1) (z := 8) rfl (fun cx26_ => ?_) (fun cx26_ => ?_)
          · have cx26_ : ((s_ / 2) % 2) ≠ 1 := of_decide_eq_true cx26_
            refine sm_T_go 1 (c1 := (63, [some (.inl fn_), some (.inl ip_), some (.inr (.inl xa_)), none, some (.inr (.inl xb_)), none, some (.inr (.inl xd_)), none, some (.inr (.inl lt_)), none, some (.inl s_), some (.inr (.inl xa_)), none], [.inr (.inl xb_), .inr (.inl xa_)], S_)) rfl ?_
            refine sm_T_nt (u := some (.inr (.inl (-1)))) (S1 := S_) rfl rfl rfl ?_
            refine sm_T_go 6 (c1 := (74, [some (.inl fn_), some (.inl ip_), some (.inr (.inl xa_)), none, some (.inr (.inl xb_)), none, some (.inr (.inl xd_)), none, some (.inr (.inl lt_)), none, some (.inl s_), some (.inr (.inl (l_3 xa_ ((l_5 xb_ (-1)))))), none], [.inl 3, .inl ip_, .inr (.inl (l_3 xa_ ((l_5 xb_ (-1)))))], S_)) rfl ?_
            refine sm_T_br (a := 3) (z := 9) rfl (fun cx27_ => ?_) (fun cx27_ => ?_)
            · have cx27_ : 3 ≤ ip_ := of_decide_eq_true cx27_
              refine sm_T_go 2 (c1 := (86, [some (.inl fn_), some (.inl ip_), some (.inr (.inl xa_)), none, some (.inr (.inl xb_)), none, some (.inr (.inl xd_)), none, some (.inr (.inl lt_)), none, some (.inl s_), some (.inr (.inl (l_3 xa_ ((l_5 xb_ (-1)))))), none], [.inl 2, .inl s_, .inr (.inl (l_3 xa_ ((l_5 xb_ (-1)))))], S_)) rfl ?_
              refine sm_T_bin (w := (s_ / 4)) rfl (bi_shr (k := 2) (by decide) (by omega) (by omega)) ?_ -- pc_ 86
              refine sm_T_go 1 (c1 := (88, [some (.inl fn_), some (.inl ip_), some (.inr (.inl xa_)), none, some (.inr (.inl xb_)), none, some (.inr (.inl xd_)), none, some (.inr (.inl lt_)), none, some (.inl s_), some (.inr (.inl (l_3 xa_ ((l_5 xb_ (-1)))))), none], [.inl 1, .inl (s_ / 4), .inr (.inl (l_3 xa_ ((l_5 xb_ (-1)))))], S_)) rfl ?_
              refine sm_T_bin (w := ((s_ / 4) % 2)) rfl (bi_msk (k := 1) (by decide)) ?_ -- pc_ 88
              refine sm_T_go 1 (c1 := (90, [some (.inl fn_), some (.inl ip_), some (.inr (.inl xa_)), none, some (.inr (.inl xb_)), none, some (.inr (.inl xd_)), none, some (.inr (.inl lt_)), none, some (.inl s_), some (.inr (.inl (l_3 xa_ ((l_5 xb_ (-1)))))), none], [.inl 1, .inl ((s_ / 4) % 2), .inr (.inl (l_3 xa_ ((l_5 xb_ (-1)))))], S_)) rfl ?_
              refine sm_T_br (a := 1) (z := 8) rfl (fun cx28_ => ?_) (fun cx28_ => ?_)
              · have cx28_ : ((s_ / 4) % 2) ≠ 1 := of_decide_eq_true cx28_
                refine sm_T_go 1 (c1 := (100, [some (.inl fn_), some (.inl ip_), some (.inr (.inl xa_)), none, some (.inr (.inl xb_)), none, some (.inr (.inl xd_)), none, some (.inr (.inl lt_)), none, some (.inl s_), some (.inr (.inl (l_3 xa_ ((l_5 xb_ (-1)))))), none], [.inr (.inl xd_), .inr (.inl (l_3 xa_ ((l_5 xb_ (-1)))))], S_)) rfl ?_
                refine sm_T_nt (u := some (.inr (.inl (-1)))) (S1 := S_) rfl rfl rfl ?_
                refine sm_T_go 6 (c1 := (112, [some (.inl fn_), some (.inl ip_), some (.inr (.inl xa_)), none, some (.inr (.inl xb_)), none, some (.inr (.inl xd_)), none, some (.inr (.inl lt_)), none, some (.inl s_), some (.inr (.inl (l_3 ((l_3 xa_ ((l_5 xb_ (-1))))) ((l_5 xd_ (-1)))))), none], [.inl s_, .inl fn_, .inr (.inl lt_)], S_)) rfl ?_
                refine sm_T_bin (w := (i_shr fn_ s_)) rfl rfl ?_ -- pc_ 112
                first | have bx29_ := i_shr_p (x_ := fn_) (e_ := s_) (by omega) (by omega) (by omega) | have bx29_ := i_shr_n fn_ s_
                refine sm_T_go 1 (c1 := (114, [some (.inl fn_), some (.inl ip_), some (.inr (.inl xa_)), none, some (.inr (.inl xb_)), none, some (.inr (.inl xd_)), none, some (.inr (.inl lt_)), none, some (.inl s_), some (.inr (.inl (l_3 ((l_3 xa_ ((l_5 xb_ (-1))))) ((l_5 xd_ (-1)))))), none], [.inl 1, .inl (i_shr fn_ s_), .inr (.inl lt_)], S_)) rfl ?_
                refine sm_T_bin (w := ((i_shr fn_ s_) % 2)) rfl (bi_msk (k := 1) (by decide)) ?_ -- pc_ 114
                refine sm_T_go 1 (c1 := (116, [some (.inl fn_), some (.inl ip_), some (.inr (.inl xa_)), none, some (.inr (.inl xb_)), none, some (.inr (.inl xd_)), none, some (.inr (.inl lt_)), none, some (.inl s_), some (.inr (.inl (l_3 ((l_3 xa_ ((l_5 xb_ (-1))))) ((l_5 xd_ (-1)))))), none], [.inl 1, .inl ((i_shr fn_ s_) % 2), .inr (.inl lt_)], S_)) rfl ?_
                refine sm_T_br (a := 1) (z := 8) rfl (fun cx30_ => ?_) (fun cx30_ => ?_)
                · have cx30_ : ((i_shr fn_ s_) % 2) ≠ 1 := of_decide_eq_true cx30_
                  refine sm_T_go 3 (c1 := (128, [some (.inl fn_), some (.inl ip_), some (.inr (.inl xa_)), none, some (.inr (.inl xb_)), none, some (.inr (.inl xd_)), none, some (.inr (.inl (l_4 lt_ 0))), none, some (.inl s_), some (.inr (.inl (l_3 ((l_3 xa_ ((l_5 xb_ (-1))))) ((l_5 xd_ (-1)))))), none], [], S_)) rfl ?_
                  refine sm_T_inc (a := 10) (z := 1) (v := s_) (w := s_ + 1) rfl rfl (by omega) (by omega) (by omega) ?_ -- pc_ 128
                  refine sm_T_go 1 (c1 := (6, [some (.inl fn_), some (.inl ip_), some (.inr (.inl xa_)), none, some (.inr (.inl xb_)), none, some (.inr (.inl xd_)), none, some (.inr (.inl (l_4 lt_ 0))), none, some (.inl (s_ + 1)), some (.inr (.inl (l_3 ((l_3 xa_ ((l_5 xb_ (-1))))) ((l_5 xd_ (-1)))))), none], [], S_)) rfl ?_
                  refine sm_T_wk [some (.inl fn_), some (.inl ip_), some (.inr (.inl xa_)), none, some (.inr (.inl xb_)), none, some (.inr (.inl xd_)), none, some (.inr (.inl (l_4 lt_ 0))), none, some (.inl (s_ + 1)), none, none] (by exact ⟨rfl, rfl, rfl, rfl, rfl, rfl, rfl, trivial⟩) ?_
                  refine ih_ xa_ xb_ xd_ ((l_4 lt_ 0)) (s_ + 1) S_ hI_ hF_ ⟨?_, ?_, ?_, trivial⟩ ?_
                  · omega
                  · exact hx_
                  · intro i9_ hi9_
                    rw [lbt_4, h1_ i9_ hi9_]
                    first | (rw [lbt_0]; exact tld_0 hf_ (by omega) (by omega)) | (refine tld_1 hf_ (by omega) (by omega) ?_; simp only [lbt_3, lbt_n hi9_, lbt_m hi9_, hx_.1, hx_.2.1, hx_.2.2]; (first | rw [decide_eq_true (show 2 ≤ ip_ by omega), Bool.true_and] | rw [decide_eq_false (show ¬ 2 ≤ ip_ by omega), Bool.false_and]); (first | rw [decide_eq_true (show 3 ≤ ip_ by omega), Bool.true_and] | rw [decide_eq_false (show ¬ 3 ≤ ip_ by omega), Bool.false_and]); cases lbt la_ i9_ <;> cases lbt lb_ i9_ <;> cases lbt ld_ i9_ <;> first | exact (decide_eq_true (by (rw [tix_c]; simp only [Bool.and_true, Bool.and_false, Bool.true_and, Bool.false_and, Bool.false_eq_true, if_true, if_false, reduceIte]; omega))).symm | exact (decide_eq_false (by (rw [tix_c]; simp only [Bool.and_true, Bool.and_false, Bool.true_and, Bool.false_and, Bool.false_eq_true, if_true, if_false, reduceIte]; omega))).symm)
                  · omega
                · have cx30_ : ¬ (((i_shr fn_ s_) % 2) ≠ 1) := of_decide_eq_false cx30_
                  refine sm_T_go 4 (c1 := (128, [some (.inl fn_), some (.inl ip_), some (.inr (.inl xa_)), none, some (.inr (.inl xb_)), none, some (.inr (.inl xd_)), none, some (.inr (.inl (l_4 lt_ ((l_3 ((l_3 xa_ ((l_5 xb_ (-1))))) ((l_5 xd_ (-1)))))))), none, some (.inl s_), some (.inr (.inl (l_3 ((l_3 xa_ ((l_5 xb_ (-1))))) ((l_5 xd_ (-1)))))), none], [], S_)) rfl ?_
                  refine sm_T_inc (a := 10) (z := 1) (v := s_) (w := s_ + 1) rfl rfl (by omega) (by omega) (by omega) ?_ -- pc_ 128
                  refine sm_T_go 1 (c1 := (6, [some (.inl fn_), some (.inl ip_), some (.inr (.inl xa_)), none, some (.inr (.inl xb_)), none, some (.inr (.inl xd_)), none, some (.inr (.inl (l_4 lt_ ((l_3 ((l_3 xa_ ((l_5 xb_ (-1))))) ((l_5 xd_ (-1)))))))), none, some (.inl (s_ + 1)), some (.inr (.inl (l_3 ((l_3 xa_ ((l_5 xb_ (-1))))) ((l_5 xd_ (-1)))))), none], [], S_)) rfl ?_
                  refine sm_T_wk [some (.inl fn_), some (.inl ip_), some (.inr (.inl xa_)), none, some (.inr (.inl xb_)), none, some (.inr (.inl xd_)), none, some (.inr (.inl (l_4 lt_ ((l_3 ((l_3 xa_ ((l_5 xb_ (-1))))) ((l_5 xd_ (-1)))))))), none, some (.inl (s_ + 1)), none, none] (by exact ⟨rfl, rfl, rfl, rfl, rfl, rfl, rfl, trivial⟩) ?_
                  refine ih_ xa_ xb_ xd_ ((l_4 lt_ ((l_3 ((l_3 xa_ ((l_5 xb_ (-1))))) ((l_5 xd_ (-1))))))) (s_ + 1) S_ hI_ hF_ ⟨?_, ?_, ?_, trivial⟩ ?_
                  · omega
                  · exact hx_
                  · intro i9_ hi9_
                    rw [lbt_4, h1_ i9_ hi9_]
                    first | (rw [lbt_0]; exact tld_0 hf_ (by omega) (by omega)) | (refine tld_1 hf_ (by omega) (by omega) ?_; simp only [lbt_3, lbt_n hi9_, lbt_m hi9_, hx_.1, hx_.2.1, hx_.2.2]; (first | rw [decide_eq_true (show 2 ≤ ip_ by omega), Bool.true_and] | rw [decide_eq_false (show ¬ 2 ≤ ip_ by omega), Bool.false_and]); (first | rw [decide_eq_true (show 3 ≤ ip_ by omega), Bool.true_and] | rw [decide_eq_false (show ¬ 3 ≤ ip_ by omega), Bool.false_and]); cases lbt la_ i9_ <;> cases lbt lb_ i9_ <;> cases lbt ld_ i9_ <;> first | exact (decide_eq_true (by (rw [tix_c]; simp only [Bool.and_true, Bool.and_false, Bool.true_and, Bool.false_and, Bool.false_eq_true, if_true, if_false, reduceIte]; omega))).symm | exact (decide_eq_false (by (rw [tix_c]; simp only [Bool.and_true, Bool.and_false, Bool.true_and, Bool.false_and, Bool.false_eq_true, if_true, if_false, reduceIte]; omega))).symm)
                  · omega
              · have cx28_ : ¬ (((s_ / 4) % 2) ≠ 1) := of_decide_eq_false cx28_
                refine sm_T_go 7 (c1 := (112, [some (.inl fn_), some (.inl ip_), some (.inr (.inl xa_)), none, some (.inr (.inl xb_)), none, some (.inr (.inl xd_)), none, some (.inr (.inl lt_)), none, some (.inl s_), some (.inr (.inl (l_3 ((l_3 xa_ ((l_5 xb_ (-1))))) xd_))), none], [.inl s_, .inl fn_, .inr (.inl lt_)], S_)) rfl ?_
                refine sm_T_bin (w := (i_shr fn_ s_)) rfl rfl ?_ -- pc_ 112
                first | have bx31_ := i_shr_p (x_ := fn_) (e_ := s_) (by omega) (by omega) (by omega) | have bx31_ := i_shr_n fn_ s_
                refine sm_T_go 1 (c1 := (114, [some (.inl fn_), some (.inl ip_), some (.inr (.inl xa_)), none, some (.inr (.inl xb_)), none, some (.inr (.inl xd_)), none, some (.inr (.inl lt_)), none, some (.inl s_), some (.inr (.inl (l_3 ((l_3 xa_ ((l_5 xb_ (-1))))) xd_))), none], [.inl 1, .inl (i_shr fn_ s_), .inr (.inl lt_)], S_)) rfl ?_
                refine sm_T_bin (w := ((i_shr fn_ s_) % 2)) rfl (bi_msk (k := 1) (by decide)) ?_ -- pc_ 114
                refine sm_T_go 1 (c1 := (116, [some (.inl fn_), some (.inl ip_), some (.inr (.inl xa_)), none, some (.inr (.inl xb_)), none, some (.inr (.inl xd_)), none, some (.inr (.inl lt_)), none, some (.inl s_), some (.inr (.inl (l_3 ((l_3 xa_ ((l_5 xb_ (-1))))) xd_))), none], [.inl 1, .inl ((i_shr fn_ s_) % 2), .inr (.inl lt_)], S_)) rfl ?_
                refine sm_T_br (a := 1) (z := 8) rfl (fun cx32_ => ?_) (fun cx32_ => ?_)
                · have cx32_ : ((i_shr fn_ s_) % 2) ≠ 1 := of_decide_eq_true cx32_
                  refine sm_T_go 3 (c1 := (128, [some (.inl fn_), some (.inl ip_), some (.inr (.inl xa_)), none, some (.inr (.inl xb_)), none, some (.inr (.inl xd_)), none, some (.inr (.inl (l_4 lt_ 0))), none, some (.inl s_), some (.inr (.inl (l_3 ((l_3 xa_ ((l_5 xb_ (-1))))) xd_))), none], [], S_)) rfl ?_
                  refine sm_T_inc (a := 10) (z := 1) (v := s_) (w := s_ + 1) rfl rfl (by omega) (by omega) (by omega) ?_ -- pc_ 128
                  refine sm_T_go 1 (c1 := (6, [some (.inl fn_), some (.inl ip_), some (.inr (.inl xa_)), none, some (.inr (.inl xb_)), none, some (.inr (.inl xd_)), none, some (.inr (.inl (l_4 lt_ 0))), none, some (.inl (s_ + 1)), some (.inr (.inl (l_3 ((l_3 xa_ ((l_5 xb_ (-1))))) xd_))), none], [], S_)) rfl ?_
                  refine sm_T_wk [some (.inl fn_), some (.inl ip_), some (.inr (.inl xa_)), none, some (.inr (.inl xb_)), none, some (.inr (.inl xd_)), none, some (.inr (.inl (l_4 lt_ 0))), none, some (.inl (s_ + 1)), none, none] (by exact ⟨rfl, rfl, rfl, rfl, rfl, rfl, rfl, trivial⟩) ?_
                  refine ih_ xa_ xb_ xd_ ((l_4 lt_ 0)) (s_ + 1) S_ hI_ hF_ ⟨?_, ?_, ?_, trivial⟩ ?_
                  · omega
                  · exact hx_
                  · intro i9_ hi9_
                    rw [lbt_4, h1_ i9_ hi9_]
                    first | (rw [lbt_0]; exact tld_0 hf_ (by omega) (by omega)) | (refine tld_1 hf_ (by omega) (by omega) ?_; simp only [lbt_3, lbt_n hi9_, lbt_m hi9_, hx_.1, hx_.2.1, hx_.2.2]; (first | rw [decide_eq_true (show 2 ≤ ip_ by omega), Bool.true_and] | rw [decide_eq_false (show ¬ 2 ≤ ip_ by omega), Bool.false_and]); (first | rw [decide_eq_true (show 3 ≤ ip_ by omega), Bool.true_and] | rw [decide_eq_false (show ¬ 3 ≤ ip_ by omega), Bool.false_and]); cases lbt la_ i9_ <;> cases lbt lb_ i9_ <;> cases lbt ld_ i9_ <;> first | exact (decide_eq_true (by (rw [tix_c]; simp only [Bool.and_true, Bool.and_false, Bool.true_and, Bool.false_and, Bool.false_eq_true, if_true, if_false, reduceIte]; omega))).symm | exact (decide_eq_false (by (rw [tix_c]; simp only [Bool.and_true, Bool.and_false, Bool.true_and, Bool.false_and, Bool.false_eq_true, if_true, if_false, reduceIte]; omega))).symm)
                  · omega
                · have cx32_ : ¬ (((i_shr fn_ s_) % 2) ≠ 1) := of_decide_eq_false cx32_
                  refine sm_T_go 4 (c1 := (128, [some (.inl fn_), some (.inl ip_), some (.inr (.inl xa_)), none, some (.inr (.inl xb_)), none, some (.inr (.inl xd_)), none, some (.inr (.inl (l_4 lt_ ((l_3 ((l_3 xa_ ((l_5 xb_ (-1))))) xd_))))), none, some (.inl s_), some (.inr (.inl (l_3 ((l_3 xa_ ((l_5 xb_ (-1))))) xd_))), none], [], S_)) rfl ?_
                  refine sm_T_inc (a := 10) (z := 1) (v := s_) (w := s_ + 1) rfl rfl (by omega) (by omega) (by omega) ?_ -- pc_ 128
                  refine sm_T_go 1 (c1 := (6, [some (.inl fn_), some (.inl ip_), some (.inr (.inl xa_)), none, some (.inr (.inl xb_)), none, some (.inr (.inl xd_)), none, some (.inr (.inl (l_4 lt_ ((l_3 ((l_3 xa_ ((l_5 xb_ (-1))))) xd_))))), none, some (.inl (s_ + 1)), some (.inr (.inl (l_3 ((l_3 xa_ ((l_5 xb_ (-1))))) xd_))), none], [], S_)) rfl ?_
                  refine sm_T_wk [some (.inl fn_), some (.inl ip_), some (.inr (.inl xa_)), none, some (.inr (.inl xb_)), none, some (.inr (.inl xd_)), none, some (.inr (.inl (l_4 lt_ ((l_3 ((l_3 xa_ ((l_5 xb_ (-1))))) xd_))))), none, some (.inl (s_ + 1)), none, none] (by exact ⟨rfl, rfl, rfl, rfl, rfl, rfl, rfl, trivial⟩) ?_
                  refine ih_ xa_ xb_ xd_ ((l_4 lt_ ((l_3 ((l_3 xa_ ((l_5 xb_ (-1))))) xd_)))) (s_ + 1) S_ hI_ hF_ ⟨?_, ?_, ?_, trivial⟩ ?_
                  · omega
                  · exact hx_
                  · intro i9_ hi9_
                    rw [lbt_4, h1_ i9_ hi9_]
                    first | (rw [lbt_0]; exact tld_0 hf_ (by omega) (by omega)) | (refine tld_1 hf_ (by omega) (by omega) ?_; simp only [lbt_3, lbt_n hi9_, lbt_m hi9_, hx_.1, hx_.2.1, hx_.2.2]; (first | rw [decide_eq_true (show 2 ≤ ip_ by omega), Bool.true_and] | rw [decide_eq_false (show ¬ 2 ≤ ip_ by omega), Bool.false_and]); (first | rw [decide_eq_true (show 3 ≤ ip_ by omega), Bool.true_and] | rw [decide_eq_false (show ¬ 3 ≤ ip_ by omega), Bool.false_and]); cases lbt la_ i9_ <;> cases lbt lb_ i9_ <;> cases lbt ld_ i9_ <;> first | exact (decide_eq_true (by (rw [tix_c]; simp only [Bool.and_true, Bool.and_false, Bool.true_and, Bool.false_and, Bool.false_eq_true, if_true, if_false, reduceIte]; omega))).symm | exact (decide_eq_false (by (rw [tix_c]; simp only [Bool.and_true, Bool.and_false, Bool.true_and, Bool.false_and, Bool.false_eq_true, if_true, if_false, reduceIte]; omega))).symm)
                  · omega
            · have cx27_ : ¬ (3 ≤ ip_) := of_decide_eq_false cx27_
              refine sm_T_nt (u := some (.inr (.inl (-1)))) (S1 := S_) rfl rfl rfl ?_
              refine sm_T_go 6 (c1 := (112, [some (.inl fn_), some (.inl ip_), some (.inr (.inl xa_)), none, some (.inr (.inl xb_)), none, some (.inr (.inl xd_)), none, some (.inr (.inl lt_)), none, some (.inl s_), some (.inr (.inl (l_3 ((l_3 xa_ ((l_5 xb_ (-1))))) (-1)))), none], [.inl s_, .inl fn_, .inr (.inl lt_)], S_)) rfl ?_
              refine sm_T_bin (w := (i_shr fn_ s_)) rfl rfl ?_ -- pc_ 112
              first | have bx33_ := i_shr_p (x_ := fn_) (e_ := s_) (by omega) (by omega) (by omega) | have bx33_ := i_shr_n fn_ s_
              refine sm_T_go 1 (c1 := (114, [some (.inl fn_), some (.inl ip_), some (.inr (.inl xa_)), none, some (.inr (.inl xb_)), none, some (.inr (.inl xd_)), none, some (.inr (.inl lt_)), none, some (.inl s_), some (.inr (.inl (l_3 ((l_3 xa_ ((l_5 xb_ (-1))))) (-1)))), none], [.inl 1, .inl (i_shr fn_ s_), .inr (.inl lt_)], S_)) rfl ?_
              refine sm_T_bin (w := ((i_shr fn_ s_) % 2)) rfl (bi_msk (k := 1) (by decide)) ?_ -- pc_ 114
              refine sm_T_go 1 (c1 := (116, [some (.inl fn_), some (.inl ip_), some (.inr (.inl xa_)), none, some (.inr (.inl xb_)), none, some (.inr (.inl xd_)), none, some (.inr (.inl lt_)), none, some (.inl s_), some (.inr (.inl (l_3 ((l_3 xa_ ((l_5 xb_ (-1))))) (-1)))), none], [.inl 1, .inl ((i_shr fn_ s_) % 2), .inr (.inl lt_)], S_)) rfl ?_
              refine sm_T_br (a := 1) (z := 8) rfl (fun cx34_ => ?_) (fun cx34_ => ?_)
              · have cx34_ : ((i_shr fn_ s_) % 2) ≠ 1 := of_decide_eq_true cx34_
                refine sm_T_go 3 (c1 := (128, [some (.inl fn_), some (.inl ip_), some (.inr (.inl xa_)), none, some (.inr (.inl xb_)), none, some (.inr (.inl xd_)), none, some (.inr (.inl (l_4 lt_ 0))), none, some (.inl s_), some (.inr (.inl (l_3 ((l_3 xa_ ((l_5 xb_ (-1))))) (-1)))), none], [], S_)) rfl ?_
                refine sm_T_inc (a := 10) (z := 1) (v := s_) (w := s_ + 1) rfl rfl (by omega) (by omega) (by omega) ?_ -- pc_ 128
                refine sm_T_go 1 (c1 := (6, [some (.inl fn_), some (.inl ip_), some (.inr (.inl xa_)), none, some (.inr (.inl xb_)), none, some (.inr (.inl xd_)), none, some (.inr (.inl (l_4 lt_ 0))), none, some (.inl (s_ + 1)), some (.inr (.inl (l_3 ((l_3 xa_ ((l_5 xb_ (-1))))) (-1)))), none], [], S_)) rfl ?_
                refine sm_T_wk [some (.inl fn_), some (.inl ip_), some (.inr (.inl xa_)), none, some (.inr (.inl xb_)), none, some (.inr (.inl xd_)), none, some (.inr (.inl (l_4 lt_ 0))), none, some (.inl (s_ + 1)), none, none] (by exact ⟨rfl, rfl, rfl, rfl, rfl, rfl, rfl, trivial⟩) ?_
                refine ih_ xa_ xb_ xd_ ((l_4 lt_ 0)) (s_ + 1) S_ hI_ hF_ ⟨?_, ?_, ?_, trivial⟩ ?_
                · omega
                · exact hx_
                · intro i9_ hi9_
                  rw [lbt_4, h1_ i9_ hi9_]
                  first | (rw [lbt_0]; exact tld_0 hf_ (by omega) (by omega)) | (refine tld_1 hf_ (by omega) (by omega) ?_; simp only [lbt_3, lbt_n hi9_, lbt_m hi9_, hx_.1, hx_.2.1, hx_.2.2]; (first | rw [decide_eq_true (show 2 ≤ ip_ by omega), Bool.true_and] | rw [decide_eq_false (show ¬ 2 ≤ ip_ by omega), Bool.false_and]); (first | rw [decide_eq_true (show 3 ≤ ip_ by omega), Bool.true_and] | rw [decide_eq_false (show ¬ 3 ≤ ip_ by omega), Bool.false_and]); cases lbt la_ i9_ <;> cases lbt lb_ i9_ <;> cases lbt ld_ i9_ <;> first | exact (decide_eq_true (by (rw [tix_c]; simp only [Bool.and_true, Bool.and_false, Bool.true_and, Bool.false_and, Bool.false_eq_true, if_true, if_false, reduceIte]; omega))).symm | exact (decide_eq_false (by (rw [tix_c]; simp only [Bool.and_true, Bool.and_false, Bool.true_and, Bool.false_and, Bool.false_eq_true, if_true, if_false, reduceIte]; omega))).symm)
                · omega
              · have cx34_ : ¬ (((i_shr fn_ s_) % 2) ≠ 1) := of_decide_eq_false cx34_
                refine sm_T_go 4 (c1 := (128, [some (.inl fn_), some (.inl ip_), some (.inr (.inl xa_)), none, some (.inr (.inl xb_)), none, some (.inr (.inl xd_)), none, some (.inr (.inl (l_4 lt_ ((l_3 ((l_3 xa_ ((l_5 xb_ (-1))))) (-1)))))), none, some (.inl s_), some (.inr (.inl (l_3 ((l_3 xa_ ((l_5 xb_ (-1))))) (-1)))), none], [], S_)) rfl ?_
                refine sm_T_inc (a := 10) (z := 1) (v := s_) (w := s_ + 1) rfl rfl (by omega) (by omega) (by omega) ?_ -- pc_ 128
                refine sm_T_go 1 (c1 := (6, [some (.inl fn_), some (.inl ip_), some (.inr (.inl xa_)), none, some (.inr (.inl xb_)), none, some (.inr (.inl xd_)), none, some (.inr (.inl (l_4 lt_ ((l_3 ((l_3 xa_ ((l_5 xb_ (-1))))) (-1)))))), none, some (.inl (s_ + 1)), some (.inr (.inl (l_3 ((l_3 xa_ ((l_5 xb_ (-1))))) (-1)))), none], [], S_)) rfl ?_
                refine sm_T_wk [some (.inl fn_), some (.inl ip_), some (.inr (.inl xa_)), none, some (.inr (.inl xb_)), none, some (.inr (.inl xd_)), none, some (.inr (.inl (l_4 lt_ ((l_3 ((l_3 xa_ ((l_5 xb_ (-1))))) (-1)))))), none, some (.inl (s_ + 1)), none, none] (by exact ⟨rfl, rfl, rfl, rfl, rfl, rfl, rfl, trivial⟩) ?_
                refine ih_ xa_ xb_ xd_ ((l_4 lt_ ((l_3 ((l_3 xa_ ((l_5 xb_ (-1))))) (-1))))) (s_ + 1) S_ hI_ hF_ ⟨?_, ?_, ?_, trivial⟩ ?_
                · omega
                · exact hx_
                · intro i9_ hi9_
                  rw [lbt_4, h1_ i9_ hi9_]
                  first | (rw [lbt_0]; exact tld_0 hf_ (by omega) (by omega)) | (refine tld_1 hf_ (by omega) (by omega) ?_; simp only [lbt_3, lbt_n hi9_, lbt_m hi9_, hx_.1, hx_.2.1, hx_.2.2]; (first | rw [decide_eq_true (show 2 ≤ ip_ by omega), Bool.true_and] | rw [decide_eq_false (show ¬ 2 ≤ ip_ by omega), Bool.false_and]); (first | rw [decide_eq_true (show 3 ≤ ip_ by omega), Bool.true_and] | rw [decide_eq_false (show ¬ 3 ≤ ip_ by omega), Bool.false_and]); cases lbt la_ i9_ <;> cases lbt lb_ i9_ <;> cases lbt ld_ i9_ <;> first | exact (decide_eq_true (by (rw [tix_c]; simp only [Bool.and_true, Bool.and_false, Bool.true_and, Bool.false_and, Bool.false_eq_true, if_true, if_false, reduceIte]; omega))).symm | exact (decide_eq_false (by (rw [tix_c]; simp only [Bool.and_true, Bool.and_false, Bool.true_and, Bool.false_and, Bool.false_eq_true, if_true, if_false, reduceIte]; omega))).symm)
                · omega
          · have cx26_ : ¬ (((s_ / 2) % 2) ≠ 1) := of_decide_eq_false cx26_
            refine sm_T_go 7 (c1 := (74, [some (.inl fn_), some (.inl ip_), some (.inr (.inl xa_)), none, some (.inr (.inl xb_)), none, some (.inr (.inl xd_)), none, some (.inr (.inl lt_)), none, some (.inl s_), some (.inr (.inl (l_3 xa_ xb_))), none], [.inl 3, .inl ip_, .inr (.inl (l_3 xa_ xb_))], S_)) rfl ?_
            refine sm_T_br (a := 3) (z := 9) rfl (fun cx35_ => ?_) (fun cx35_ => ?_)
            · have cx35_ : 3 ≤ ip_ := of_decide_eq_true cx35_
              refine sm_T_go 2 (c1 := (86, [some (.inl fn_), some (.inl ip_), some (.inr (.inl xa_)), none, some (.inr (.inl xb_)), none, some (.inr (.inl xd_)), none, some (.inr (.inl lt_)), none, some (.inl s_), some (.inr (.inl (l_3 xa_ xb_))), none], [.inl 2, .inl s_, .inr (.inl (l_3 xa_ xb_))], S_)) rfl ?_
              refine sm_T_bin (w := (s_ / 4)) rfl (bi_shr (k := 2) (by decide) (by omega) (by omega)) ?_ -- pc_ 86
              refine sm_T_go 1 (c1 := (88, [some (.inl fn_), some (.inl ip_), some (.inr (.inl xa_)), none, some (.inr (.inl xb_)), none, some (.inr (.inl xd_)), none, some (.inr (.inl lt_)), none, some (.inl s_), some (.inr (.inl (l_3 xa_ xb_))), none], [.inl 1, .inl (s_ / 4), .inr (.inl (l_3 xa_ xb_))], S_)) rfl ?_
              refine sm_T_bin (w := ((s_ / 4) % 2)) rfl (bi_msk (k := 1) (by decide)) ?_ -- pc_ 88
              refine sm_T_go 1 (c1 := (90, [some (.inl fn_), some (.inl ip_), some (.inr (.inl xa_)), none, some (.inr (.inl xb_)), none, some (.inr (.inl xd_)), none, some (.inr (.inl lt_)), none, some (.inl s_), some (.inr (.inl (l_3 xa_ xb_))), none], [.inl 1, .inl ((s_ / 4) % 2), .inr (.inl (l_3 xa_ xb_))], S_)) rfl ?_
              refine sm_T_br (a := 1) (z := 8) rfl (fun cx36_ => ?_) (fun cx36_ => ?_)
              · have cx36_ : ((s_ / 4) % 2) ≠ 1 := of_decide_eq_true cx36_
                refine sm_T_go 1 (c1 := (100, [some (.inl fn_), some (.inl ip_), some (.inr (.inl xa_)), none, some (.inr (.inl xb_)), none, some (.inr (.inl xd_)), none, some (.inr (.inl lt_)), none, some (.inl s_), some (.inr (.inl (l_3 xa_ xb_))), none], [.inr (.inl xd_), .inr (.inl (l_3 xa_ xb_))], S_)) rfl ?_
                refine sm_T_nt (u := some (.inr (.inl (-1)))) (S1 := S_) rfl rfl rfl ?_
                refine sm_T_go 6 (c1 := (112, [some (.inl fn_), some (.inl ip_), some (.inr (.inl xa_)), none, some (.inr (.inl xb_)), none, some (.inr (.inl xd_)), none, some (.inr (.inl lt_)), none, some (.inl s_), some (.inr (.inl (l_3 ((l_3 xa_ xb_)) ((l_5 xd_ (-1)))))), none], [.inl s_, .inl fn_, .inr (.inl lt_)], S_)) rfl ?_
                refine sm_T_bin (w := (i_shr fn_ s_)) rfl rfl ?_ -- pc_ 112
                first | have bx37_ := i_shr_p (x_ := fn_) (e_ := s_) (by omega) (by omega) (by omega) | have bx37_ := i_shr_n fn_ s_
                refine sm_T_go 1 (c1 := (114, [some (.inl fn_), some (.inl ip_), some (.inr (.inl xa_)), none, some (.inr (.inl xb_)), none, some (.inr (.inl xd_)), none, some (.inr (.inl lt_)), none, some (.inl s_), some (.inr (.inl (l_3 ((l_3 xa_ xb_)) ((l_5 xd_ (-1)))))), none], [.inl 1, .inl (i_shr fn_ s_), .inr (.inl lt_)], S_)) rfl ?_
                refine sm_T_bin (w := ((i_shr fn_ s_) % 2)) rfl (bi_msk (k := 1) (by decide)) ?_ -- pc_ 114
                refine sm_T_go 1 (c1 := (116, [some (.inl fn_), some (.inl ip_), some (.inr (.inl xa_)), none, some (.inr (.inl xb_)), none, some (.inr (.inl xd_)), none, some (.inr (.inl lt_)), none, some (.inl s_), some (.inr (.inl (l_3 ((l_3 xa_ xb_)) ((l_5 xd_ (-1)))))), none], [.inl 1, .inl ((i_shr fn_ s_) % 2), .inr (.inl lt_)], S_)) rfl ?_
                refine sm_T_br (a := 1) (z := 8) rfl (fun cx38_ => ?_) (fun cx38_ => ?_)
                · have cx38_ : ((i_shr fn_ s_) % 2) ≠ 1 := of_decide_eq_true cx38_
                  refine sm_T_go 3 (c1 := (128, [some (.inl fn_), some (.inl ip_), some (.inr (.inl xa_)), none, some (.inr (.inl xb_)), none, some (.inr (.inl xd_)), none, some (.inr (.inl (l_4 lt_ 0))), none, some (.inl s_), some (.inr (.inl (l_3 ((l_3 xa_ xb_)) ((l_5 xd_ (-1)))))), none], [], S_)) rfl ?_
                  refine sm_T_inc (a := 10) (z := 1) (v := s_) (w := s_ + 1) rfl rfl (by omega) (by omega) (by omega) ?_ -- pc_ 128
                  refine sm_T_go 1 (c1 := (6, [some (.inl fn_), some (.inl ip_), some (.inr (.inl xa_)), none, some (.inr (.inl xb_)), none, some (.inr (.inl xd_)), none, some (.inr (.inl (l_4 lt_ 0))), none, some (.inl (s_ + 1)), some (.inr (.inl (l_3 ((l_3 xa_ xb_)) ((l_5 xd_ (-1)))))), none], [], S_)) rfl ?_
                  refine sm_T_wk [some (.inl fn_), some (.inl ip_), some (.inr (.inl xa_)), none, some (.inr (.inl xb_)), none, some (.inr (.inl xd_)), none, some (.inr (.inl (l_4 lt_ 0))), none, some (.inl (s_ + 1)), none, none] (by exact ⟨rfl, rfl, rfl, rfl, rfl, rfl, rfl, trivial⟩) ?_
                  refine ih_ xa_ xb_ xd_ ((l_4 lt_ 0)) (s_ + 1) S_ hI_ hF_ ⟨?_, ?_, ?_, trivial⟩ ?_
                  · omega
                  · exact hx_
                  · intro i9_ hi9_
                    rw [lbt_4, h1_ i9_ hi9_]
                    first | (rw [lbt_0]; exact tld_0 hf_ (by omega) (by omega)) | (refine tld_1 hf_ (by omega) (by omega) ?_; simp only [lbt_3, lbt_n hi9_, lbt_m hi9_, hx_.1, hx_.2.1, hx_.2.2]; (first | rw [decide_eq_true (show 2 ≤ ip_ by omega), Bool.true_and] | rw [decide_eq_false (show ¬ 2 ≤ ip_ by omega), Bool.false_and]); (first | rw [decide_eq_true (show 3 ≤ ip_ by omega), Bool.true_and] | rw [decide_eq_false (show ¬ 3 ≤ ip_ by omega), Bool.false_and]); cases lbt la_ i9_ <;> cases lbt lb_ i9_ <;> cases lbt ld_ i9_ <;> first | exact (decide_eq_true (by (rw [tix_c]; simp only [Bool.and_true, Bool.and_false, Bool.true_and, Bool.false_and, Bool.false_eq_true, if_true, if_false, reduceIte]; omega))).symm | exact (decide_eq_false (by (rw [tix_c]; simp only [Bool.and_true, Bool.and_false, Bool.true_and, Bool.false_and, Bool.false_eq_true, if_true, if_false, reduceIte]; omega))).symm)
                  · omega
                · have cx38_ : ¬ (((i_shr fn_ s_) % 2) ≠ 1) := of_decide_eq_false cx38_
                  refine sm_T_go 4 (c1 := (128, [some (.inl fn_), some (.inl ip_), some (.inr (.inl xa_)), none, some (.inr (.inl xb_)), none, some (.inr (.inl xd_)), none, some (.inr (.inl (l_4 lt_ ((l_3 ((l_3 xa_ xb_)) ((l_5 xd_ (-1)))))))), none, some (.inl s_), some (.inr (.inl (l_3 ((l_3 xa_ xb_)) ((l_5 xd_ (-1)))))), none], [], S_)) rfl ?_
                  refine sm_T_inc (a := 10) (z := 1) (v := s_) (w := s_ + 1) rfl rfl (by omega) (by omega) (by omega) ?_ -- pc_ 128
                  refine sm_T_go 1 (c1 := (6, [some (.inl fn_), some (.inl ip_), some (.inr (.inl xa_)), none, some (.inr (.inl xb_)), none, some (.inr (.inl xd_)), none, some (.inr (.inl (l_4 lt_ ((l_3 ((l_3 xa_ xb_)) ((l_5 xd_ (-1)))))))), none, some (.inl (s_ + 1)), some (.inr (.inl (l_3 ((l_3 xa_ xb_)) ((l_5 xd_ (-1)))))), none], [], S_)) rfl ?_
                  refine sm_T_wk [some (.inl fn_), some (.inl ip_), some (.inr (.inl xa_)), none, some (.inr (.inl xb_)), none, some (.inr (.inl xd_)), none, some (.inr (.inl (l_4 lt_ ((l_3 ((l_3 xa_ xb_)) ((l_5 xd_ (-1)))))))), none, some (.inl (s_ + 1)), none, none] (by exact ⟨rfl, rfl, rfl, rfl, rfl, rfl, rfl, trivial⟩) ?_
                  refine ih_ xa_ xb_ xd_ ((l_4 lt_ ((l_3 ((l_3 xa_ xb_)) ((l_5 xd_ (-1))))))) (s_ + 1) S_ hI_ hF_ ⟨?_, ?_, ?_, trivial⟩ ?_
                  · omega
                  · exact hx_
                  · intro i9_ hi9_
                    rw [lbt_4, h1_ i9_ hi9_]
                    first | (rw [lbt_0]; exact tld_0 hf_ (by omega) (by omega)) | (refine tld_1 hf_ (by omega) (by omega) ?_; simp only [lbt_3, lbt_n hi9_, lbt_m hi9_, hx_.1, hx_.2.1, hx_.2.2]; (first | rw [decide_eq_true (show 2 ≤ ip_ by omega), Bool.true_and] | rw [decide_eq_false (show ¬ 2 ≤ ip_ by omega), Bool.false_and]); (first | rw [decide_eq_true (show 3 ≤ ip_ by omega), Bool.true_and] | rw [decide_eq_false (show ¬ 3 ≤ ip_ by omega), Bool.false_and]); cases lbt la_ i9_ <;> cases lbt lb_ i9_ <;> cases lbt ld_ i9_ <;> first | exact (decide_eq_true (by (rw [tix_c]; simp only [Bool.and_true, Bool.and_false, Bool.true_and, Bool.false_and, Bool.false_eq_true, if_true, if_false, reduceIte]; omega))).symm | exact (decide_eq_false (by (rw [tix_c]; simp only [Bool.and_true, Bool.and_false, Bool.true_and, Bool.false_and, Bool.false_eq_true, if_true, if_false, reduceIte]; omega))).symm)
                  · omega
              · have cx36_ : ¬ (((s_ / 4) % 2) ≠ 1) := of_decide_eq_false cx36_
                refine sm_T_go 7 (c1 := (112, [some (.inl fn_), some (.inl ip_), some (.inr (.inl xa_)), none, some (.inr (.inl xb_)), none, some (.inr (.inl xd_)), none, some (.inr (.inl lt_)), none, some (.inl s_), some (.inr (.inl (l_3 ((l_3 xa_ xb_)) xd_))), none], [.inl s_, .inl fn_, .inr (.inl lt_)], S_)) rfl ?_
                refine sm_T_bin (w := (i_shr fn_ s_)) rfl rfl ?_ -- pc_ 112
                first | have bx39_ := i_shr_p (x_ := fn_) (e_ := s_) (by omega) (by omega) (by omega) | have bx39_ := i_shr_n fn_ s_
                refine sm_T_go 1 (c1 := (114, [some (.inl fn_), some (.inl ip_), some (.inr (.inl xa_)), none, some (.inr (.inl xb_)), none, some (.inr (.inl xd_)), none, some (.inr (.inl lt_)), none, some (.inl s_), some (.inr (.inl (l_3 ((l_3 xa_ xb_)) xd_))), none], [.inl 1, .inl (i_shr fn_ s_), .inr (.inl lt_)], S_)) rfl ?_
                refine sm_T_bin (w := ((i_shr fn_ s_) % 2)) rfl (bi_msk (k := 1) (by decide)) ?_ -- pc_ 114
                refine sm_T_go 1 (c1 := (116, [some (.inl fn_), some (.inl ip_), some (.inr (.inl xa_)), none, some (.inr (.inl xb_)), none, some (.inr (.inl xd_)), none, some (.inr (.inl lt_)), none, some (.inl s_), some (.inr (.inl (l_3 ((l_3 xa_ xb_)) xd_))), none], [.inl 1, .inl ((i_shr fn_ s_) % 2), .inr (.inl lt_)], S_)) rfl ?_
                refine sm_T_br (a := 1) (z := 8) rfl (fun cx40_ => ?_) (fun cx40_ => ?_)
                · have cx40_ : ((i_shr fn_ s_) % 2) ≠ 1 := of_decide_eq_true cx40_
                  refine sm_T_go 3 (c1 := (128, [some (.inl fn_), some (.inl ip_), some (.inr (.inl xa_)), none, some (.inr (.inl xb_)), none, some (.inr (.inl xd_)), none, some (.inr (.inl (l_4 lt_ 0))), none, some (.inl s_), some (.inr (.inl (l_3 ((l_3 xa_ xb_)) xd_))), none], [], S_)) rfl ?_
                  refine sm_T_inc (a := 10) (z := 1) (v := s_) (w := s_ + 1) rfl rfl (by omega) (by omega) (by omega) ?_ -- pc_ 128
                  refine sm_T_go 1 (c1 := (6, [some (.inl fn_), some (.inl ip_), some (.inr (.inl xa_)), none, some (.inr (.inl xb_)), none, some (.inr (.inl xd_)), none, some (.inr (.inl (l_4 lt_ 0))), none, some (.inl (s_ + 1)), some (.inr (.inl (l_3 ((l_3 xa_ xb_)) xd_))), none], [], S_)) rfl ?_
                  refine sm_T_wk [some (.inl fn_), some (.inl ip_), some (.inr (.inl xa_)), none, some (.inr (.inl xb_)), none, some (.inr (.inl xd_)), none, some (.inr (.inl (l_4 lt_ 0))), none, some (.inl (s_ + 1)), none, none] (by exact ⟨rfl, rfl, rfl, rfl, rfl, rfl, rfl, trivial⟩) ?_
                  refine ih_ xa_ xb_ xd_ ((l_4 lt_ 0)) (s_ + 1) S_ hI_ hF_ ⟨?_, ?_, ?_, trivial⟩ ?_
                  · omega
                  · exact hx_
                  · intro i9_ hi9_
                    rw [lbt_4, h1_ i9_ hi9_]
                    first | (rw [lbt_0]; exact tld_0 hf_ (by omega) (by omega)) | (refine tld_1 hf_ (by omega) (by omega) ?_; simp only [lbt_3, lbt_n hi9_, lbt_m hi9_, hx_.1, hx_.2.1, hx_.2.2]; (first | rw [decide_eq_true (show 2 ≤ ip_ by omega), Bool.true_and] | rw [decide_eq_false (show ¬ 2 ≤ ip_ by omega), Bool.false_and]); (first | rw [decide_eq_true (show 3 ≤ ip_ by omega), Bool.true_and] | rw [decide_eq_false (show ¬ 3 ≤ ip_ by omega), Bool.false_and]); cases lbt la_ i9_ <;> cases lbt lb_ i9_ <;> cases lbt ld_ i9_ <;> first | exact (decide_eq_true (by (rw [tix_c]; simp only [Bool.and_true, Bool.and_false, Bool.true_and, Bool.false_and, Bool.false_eq_true, if_true, if_false, reduceIte]; omega))).symm | exact (decide_eq_false (by (rw [tix_c]; simp only [Bool.and_true, Bool.and_false, Bool.true_and, Bool.false_and, Bool.false_eq_true, if_true, if_false, reduceIte]; omega))).symm)
                  · omega
                · have cx40_ : ¬ (((i_shr fn_ s_) % 2) ≠ 1) := of_decide_eq_false cx40_
                  refine sm_T_go 4 (c1 := (128, [some (.inl fn_), some (.inl ip_), some (.inr (.inl xa_)), none, some (.inr (.inl xb_)), none, some (.inr (.inl xd_)), none, some (.inr (.inl (l_4 lt_ ((l_3 ((l_3 xa_ xb_)) xd_))))), none, some (.inl s_), some (.inr (.inl (l_3 ((l_3 xa_ xb_)) xd_))), none], [], S_)) rfl ?_
                  refine sm_T_inc (a := 10) (z := 1) (v := s_) (w := s_ + 1) rfl rfl (by omega) (by omega) (by omega) ?_ -- pc_ 128
                  refine sm_T_go 1 (c1 := (6, [some (.inl fn_), some (.inl ip_), some (.inr (.inl xa_)), none, some (.inr (.inl xb_)), none, some (.inr (.inl xd_)), none, some (.inr (.inl (l_4 lt_ ((l_3 ((l_3 xa_ xb_)) xd_))))), none, some (.inl (s_ + 1)), some (.inr (.inl (l_3 ((l_3 xa_ xb_)) xd_))), none], [], S_)) rfl ?_
                  refine sm_T_wk [some (.inl fn_), some (.inl ip_), some (.inr (.inl xa_)), none, some (.inr (.inl xb_)), none, some (.inr (.inl xd_)), none, some (.inr (.inl (l_4 lt_ ((l_3 ((l_3 xa_ xb_)) xd_))))), none, some (.inl (s_ + 1)), none, none] (by exact ⟨rfl, rfl, rfl, rfl, rfl, rfl, rfl, trivial⟩) ?_
                  refine ih_ xa_ xb_ xd_ ((l_4 lt_ ((l_3 ((l_3 xa_ xb_)) xd_)))) (s_ + 1) S_ hI_ hF_ ⟨?_, ?_, ?_, trivial⟩ ?_
                  · omega
                  · exact hx_
                  · intro i9_ hi9_
                    rw [lbt_4, h1_ i9_ hi9_]
                    first | (rw [lbt_0]; exact tld_0 hf_ (by omega) (by omega)) | (refine tld_1 hf_ (by omega) (by omega) ?_; simp only [lbt_3, lbt_n hi9_, lbt_m hi9_, hx_.1, hx_.2.1, hx_.2.2]; (first | rw [decide_eq_true (show 2 ≤ ip_ by omega), Bool.true_and] | rw [decide_eq_false (show ¬ 2 ≤ ip_ by omega), Bool.false_and]); (first | rw [decide_eq_true (show 3 ≤ ip_ by omega), Bool.true_and] | rw [decide_eq_false (show ¬ 3 ≤ ip_ by omega), Bool.false_and]); cases lbt la_ i9_ <;> cases lbt lb_ i9_ <;> cases lbt ld_ i9_ <;> first | exact (decide_eq_true (by (rw [tix_c]; simp only [Bool.and_true, Bool.and_false, Bool.true_and, Bool.false_and, Bool.false_eq_true, if_true, if_false, reduceIte]; omega))).symm | exact (decide_eq_false (by (rw [tix_c]; simp only [Bool.and_true, Bool.and_false, Bool.true_and, Bool.false_and, Bool.false_eq_true, if_true, if_false, reduceIte]; omega))).symm)
                  · omega
            · have cx35_ : ¬ (3 ≤ ip_) := of_decide_eq_false cx35_
              refine sm_T_nt (u := some (.inr (.inl (-1)))) (S1 := S_) rfl rfl rfl ?_
              refine sm_T_go 6 (c1 := (112, [some (.inl fn_), some (.inl ip_), some (.inr (.inl xa_)), none, some (.inr (.inl xb_)), none, some (.inr (.inl xd_)), none, some (.inr (.inl lt_)), none, some (.inl s_), some (.inr (.inl (l_3 ((l_3 xa_ xb_)) (-1)))), none], [.inl s_, .inl fn_, .inr (.inl lt_)], S_)) rfl ?_
              refine sm_T_bin (w := (i_shr fn_ s_)) rfl rfl ?_ -- pc_ 112
              first | have bx41_ := i_shr_p (x_ := fn_) (e_ := s_) (by omega) (by omega) (by omega) | have bx41_ := i_shr_n fn_ s_
              refine sm_T_go 1 (c1 := (114, [some (.inl fn_), some (.inl ip_), some (.inr (.inl xa_)), none, some (.inr (.inl xb_)), none, some (.inr (.inl xd_)), none, some (.inr (.inl lt_)), none, some (.inl s_), some (.inr (.inl (l_3 ((l_3 xa_ xb_)) (-1)))), none], [.inl 1, .inl (i_shr fn_ s_), .inr (.inl lt_)], S_)) rfl ?_
              refine sm_T_bin (w := ((i_shr fn_ s_) % 2)) rfl (bi_msk (k := 1) (by decide)) ?_ -- pc_ 114
              refine sm_T_go 1 (c1 := (116, [some (.inl fn_), some (.inl ip_), some (.inr (.inl xa_)), none, some (.inr (.inl xb_)), none, some (.inr (.inl xd_)), none, some (.inr (.inl lt_)), none, some (.inl s_), some (.inr (.inl (l_3 ((l_3 xa_ xb_)) (-1)))), none], [.inl 1, .inl ((i_shr fn_ s_) % 2), .inr (.inl lt_)], S_)) rfl ?_
              refine sm_T_br (a := 1) (z := 8) rfl (fun cx42_ => ?_) (fun cx42_ => ?_)
              · have cx42_ : ((i_shr fn_ s_) % 2) ≠ 1 := of_decide_eq_true cx42_
                refine sm_T_go 3 (c1 := (128, [some (.inl fn_), some (.inl ip_), some (.inr (.inl xa_)), none, some (.inr (.inl xb_)), none, some (.inr (.inl xd_)), none, some (.inr (.inl (l_4 lt_ 0))), none, some (.inl s_), some (.inr (.inl (l_3 ((l_3 xa_ xb_)) (-1)))), none], [], S_)) rfl ?_
                refine sm_T_inc (a := 10) (z := 1) (v := s_) (w := s_ + 1) rfl rfl (by omega) (by omega) (by omega) ?_ -- pc_ 128
                refine sm_T_go 1 (c1 := (6, [some (.inl fn_), some (.inl ip_), some (.inr (.inl xa_)), none, some (.inr (.inl xb_)), none, some (.inr (.inl xd_)), none, some (.inr (.inl (l_4 lt_ 0))), none, some (.inl (s_ + 1)), some (.inr (.inl (l_3 ((l_3 xa_ xb_)) (-1)))), none], [], S_)) rfl ?_
                refine sm_T_wk [some (.inl fn_), some (.inl ip_), some (.inr (.inl xa_)), none, some (.inr (.inl xb_)), none, some (.inr (.inl xd_)), none, some (.inr (.inl (l_4 lt_ 0))), none, some (.inl (s_ + 1)), none, none] (by exact ⟨rfl, rfl, rfl, rfl, rfl, rfl, rfl, trivial⟩) ?_
                refine ih_ xa_ xb_ xd_ ((l_4 lt_ 0)) (s_ + 1) S_ hI_ hF_ ⟨?_, ?_, ?_, trivial⟩ ?_
                · omega
                · exact hx_
                · intro i9_ hi9_
                  rw [lbt_4, h1_ i9_ hi9_]
                  first | (rw [lbt_0]; exact tld_0 hf_ (by omega) (by omega)) | (refine tld_1 hf_ (by omega) (by omega) ?_; simp only [lbt_3, lbt_n hi9_, lbt_m hi9_, hx_.1, hx_.2.1, hx_.2.2]; (first | rw [decide_eq_true (show 2 ≤ ip_ by omega), Bool.true_and] | rw [decide_eq_false (show ¬ 2 ≤ ip_ by omega), Bool.false_and]); (first | rw [decide_eq_true (show 3 ≤ ip_ by omega), Bool.true_and] | rw [decide_eq_false (show ¬ 3 ≤ ip_ by omega), Bool.false_and]); cases lbt la_ i9_ <;> cases lbt lb_ i9_ <;> cases lbt ld_ i9_ <;> first | exact (decide_eq_true (by (rw [tix_c]; simp only [Bool.and_true, Bool.and_false, Bool.true_and, Bool.false_and, Bool.false_eq_true, if_true, if_false, reduceIte]; omega))).symm | exact (decide_eq_false (by (rw [tix_c]; simp only [Bool.and_true, Bool.and_false, Bool.true_and, Bool.false_and, Bool.false_eq_true, if_true, if_false, reduceIte]; omega))).symm)
                · omega
              · have cx42_ : ¬ (((i_shr fn_ s_) % 2) ≠ 1) := of_decide_eq_false cx42_
                refine sm_T_go 4 (c1 := (128, [some (.inl fn_), some (.inl ip_), some (.inr (.inl xa_)), none, some (.inr (.inl xb_)), none, some (.inr (.inl xd_)), none, some (.inr (.inl (l_4 lt_ ((l_3 ((l_3 xa_ xb_)) (-1)))))), none, some (.inl s_), some (.inr (.inl (l_3 ((l_3 xa_ xb_)) (-1)))), none], [], S_)) rfl ?_
                refine sm_T_inc (a := 10) (z := 1) (v := s_) (w := s_ + 1) rfl rfl (by omega) (by omega) (by omega) ?_ -- pc_ 128
                refine sm_T_go 1 (c1 := (6, [some (.inl fn_), some (.inl ip_), some (.inr (.inl xa_)), none, some (.inr (.inl xb_)), none, some (.inr (.inl xd_)), none, some (.inr (.inl (l_4 lt_ ((l_3 ((l_3 xa_ xb_)) (-1)))))), none, some (.inl (s_ + 1)), some (.inr (.inl (l_3 ((l_3 xa_ xb_)) (-1)))), none], [], S_)) rfl ?_
                refine sm_T_wk [some (.inl fn_), some (.inl ip_), some (.inr (.inl xa_)), none, some (.inr (.inl xb_)), none, some (.inr (.inl xd_)), none, some (.inr (.inl (l_4 lt_ ((l_3 ((l_3 xa_ xb_)) (-1)))))), none, some (.inl (s_ + 1)), none, none] (by exact ⟨rfl, rfl, rfl, rfl, rfl, rfl, rfl, trivial⟩) ?_
                refine ih_ xa_ xb_ xd_ ((l_4 lt_ ((l_3 ((l_3 xa_ xb_)) (-1))))) (s_ + 1) S_ hI_ hF_ ⟨?_, ?_, ?_, trivial⟩ ?_
                · omega
                · exact hx_
                · intro i9_ hi9_
                  rw [lbt_4, h1_ i9_ hi9_]
                  first | (rw [lbt_0]; exact tld_0 hf_ (by omega) (by omega)) | (refine tld_1 hf_ (by omega) (by omega) ?_; simp only [lbt_3, lbt_n hi9_, lbt_m hi9_, hx_.1, hx_.2.1, hx_.2.2]; (first | rw [decide_eq_true (show 2 ≤ ip_ by omega), Bool.true_and] | rw [decide_eq_false (show ¬ 2 ≤ ip_ by omega), Bool.false_and]); (first | rw [decide_eq_true (show 3 ≤ ip_ by omega), Bool.true_and] | rw [decide_eq_false (show ¬ 3 ≤ ip_ by omega), Bool.false_and]); cases lbt la_ i9_ <;> cases lbt lb_ i9_ <;> cases lbt ld_ i9_ <;> first | exact (decide_eq_true (by (rw [tix_c]; simp only [Bool.and_true, Bool.and_false, Bool.true_and, Bool.false_and, Bool.false_eq_true, if_true, if_false, reduceIte]; omega))).symm | exact (decide_eq_false (by (rw [tix_c]; simp only [Bool.and_true, Bool.and_false, Bool.true_and, Bool.false_and, Bool.false_eq_true, if_true, if_false, reduceIte]; omega))).symm)
                · omega
        · have cx25_ : ¬ (2 ≤ ip_) := of_decide_eq_false cx25_
          refine sm_T_nt (u := some (.inr (.inl (-1)))) (S1 := S_) rfl rfl rfl ?_
          refine sm_T_go 6 (c1 := (74, [some (.inl fn_), some (.inl ip_), some (.inr (.inl xa_)), none, some (.inr (.inl xb_)), none, some (.inr (.inl xd_)), none, some (.inr (.inl lt_)), none, some (.inl s_), some (.inr (.inl (l_3 xa_ (-1)))), none], [.inl 3, .inl ip_, .inr (.inl (l_3 xa_ (-1)))], S_)) rfl ?_
          refine sm_T_br (a := 3) (z := 9) rfl (fun cx43_ => ?_) (fun cx43_ => ?_)
          · have cx43_ : 3 ≤ ip_ := of_decide_eq_true cx43_
            exfalso; omega
          · have cx43_ : ¬ (3 ≤ ip_) := of_decide_eq_false cx43_
            refine sm_T_nt (u := some (.inr (.inl (-1)))) (S1 := S_) rfl rfl rfl ?_
            refine sm_T_go 6 (c1 := (112, [some (.inl fn_), some (.inl ip_), some (.inr (.inl xa_)), none, some (.inr (.inl xb_)), none, some (.inr (.inl xd_)), none, some (.inr (.inl lt_)), none, some (.inl s_), some (.inr (.inl (l_3 ((l_3 xa_ (-1))) (-1)))), none], [.inl s_, .inl fn_, .inr (.inl lt_)], S_)) rfl ?_
            refine sm_T_bin (w := (i_shr fn_ s_)) rfl rfl ?_ -- pc_ 112
            first | have bx44_ := i_shr_p (x_ := fn_) (e_ := s_) (by omega) (by omega) (by omega) | have bx44_ := i_shr_n fn_ s_
            refine sm_T_go 1 (c1 := (114, [some (.inl fn_), some (.inl ip_), some (.inr (.inl xa_)), none, some (.inr (.inl xb_)), none, some (.inr (.inl xd_)), none, some (.inr (.inl lt_)), none, some (.inl s_), some (.inr (.inl (l_3 ((l_3 xa_ (-1))) (-1)))), none], [.inl 1, .inl (i_shr fn_ s_), .inr (.inl lt_)], S_)) rfl ?_
            refine sm_T_bin (w := ((i_shr fn_ s_) % 2)) rfl (bi_msk (k := 1) (by decide)) ?_ -- pc_ 114
            refine sm_T_go 1 (c1 := (116, [some (.inl fn_), some (.inl ip_), some (.inr (.inl xa_)), none, some (.inr (.inl xb_)), none, some (.inr (.inl xd_)), none, some (.inr (.inl lt_)), none, some (.inl s_), some (.inr (.inl (l_3 ((l_3 xa_ (-1))) (-1)))), none], [.inl 1, .inl ((i_shr fn_ s_) % 2), .inr (.inl lt_)], S_)) rfl ?_
            refine sm_T_br (a := 1) (z := 8) rfl (fun cx45_ => ?_) (fun cx45_ => ?_)
            · have cx45_ : ((i_shr fn_ s_) % 2) ≠ 1 := of_decide_eq_true cx45_
              refine sm_T_go 3 (c1 := (128, [some (.inl fn_), some (.inl ip_), some (.inr (.inl xa_)), none, some (.inr (.inl xb_)), none, some (.inr (.inl xd_)), none, some (.inr (.inl (l_4 lt_ 0))), none, some (.inl s_), some (.inr (.inl (l_3 ((l_3 xa_ (-1))) (-1)))), none], [], S_)) rfl ?_
              refine sm_T_inc (a := 10) (z := 1) (v := s_) (w := s_ + 1) rfl rfl (by omega) (by omega) (by omega) ?_ -- pc_ 128
              refine sm_T_go 1 (c1 := (6, [some (.inl fn_), some (.inl ip_), some (.inr (.inl xa_)), none, some (.inr (.inl xb_)), none, some (.inr (.inl xd_)), none, some (.inr (.inl (l_4 lt_ 0))), none, some (.inl (s_ + 1)), some (.inr (.inl (l_3 ((l_3 xa_ (-1))) (-1)))), none], [], S_)) rfl ?_
              refine sm_T_wk [some (.inl fn_), some (.inl ip_), some (.inr (.inl xa_)), none, some (.inr (.inl xb_)), none, some (.inr (.inl xd_)), none, some (.inr (.inl (l_4 lt_ 0))), none, some (.inl (s_ + 1)), none, none] (by exact ⟨rfl, rfl, rfl, rfl, rfl, rfl, rfl, trivial⟩) ?_
              refine ih_ xa_ xb_ xd_ ((l_4 lt_ 0)) (s_ + 1) S_ hI_ hF_ ⟨?_, ?_, ?_, trivial⟩ ?_
              · omega
              · exact hx_
              · intro i9_ hi9_
                rw [lbt_4, h1_ i9_ hi9_]
                first | (rw [lbt_0]; exact tld_0 hf_ (by omega) (by omega)) | (refine tld_1 hf_ (by omega) (by omega) ?_; simp only [lbt_3, lbt_n hi9_, lbt_m hi9_, hx_.1, hx_.2.1, hx_.2.2]; (first | rw [decide_eq_true (show 2 ≤ ip_ by omega), Bool.true_and] | rw [decide_eq_false (show ¬ 2 ≤ ip_ by omega), Bool.false_and]); (first | rw [decide_eq_true (show 3 ≤ ip_ by omega), Bool.true_and] | rw [decide_eq_false (show ¬ 3 ≤ ip_ by omega), Bool.false_and]); cases lbt la_ i9_ <;> cases lbt lb_ i9_ <;> cases lbt ld_ i9_ <;> first | exact (decide_eq_true (by (rw [tix_c]; simp only [Bool.and_true, Bool.and_false, Bool.true_and, Bool.false_and, Bool.false_eq_true, if_true, if_false, reduceIte]; omega))).symm | exact (decide_eq_false (by (rw [tix_c]; simp only [Bool.and_true, Bool.and_false, Bool.true_and, Bool.false_and, Bool.false_eq_true, if_true, if_false, reduceIte]; omega))).symm)
              · omega
            · have cx45_ : ¬ (((i_shr fn_ s_) % 2) ≠ 1) := of_decide_eq_false cx45_
              refine sm_T_go 4 (c1 := (128, [some (.inl fn_), some (.inl ip_), some (.inr (.inl xa_)), none, some (.inr (.inl xb_)), none, some (.inr (.inl xd_)), none, some (.inr (.inl (l_4 lt_ ((l_3 ((l_3 xa_ (-1))) (-1)))))), none, some (.inl s_), some (.inr (.inl (l_3 ((l_3 xa_ (-1))) (-1)))), none], [], S_)) rfl ?_
              refine sm_T_inc (a := 10) (z := 1) (v := s_) (w := s_ + 1) rfl rfl (by omega) (by omega) (by omega) ?_ -- pc_ 128
              refine sm_T_go 1 (c1 := (6, [some (.inl fn_), some (.inl ip_), some (.inr (.inl xa_)), none, some (.inr (.inl xb_)), none, some (.inr (.inl xd_)), none, some (.inr (.inl (l_4 lt_ ((l_3 ((l_3 xa_ (-1))) (-1)))))), none, some (.inl (s_ + 1)), some (.inr (.inl (l_3 ((l_3 xa_ (-1))) (-1)))), none], [], S_)) rfl ?_
              refine sm_T_wk [some (.inl fn_), some (.inl ip_), some (.inr (.inl xa_)), none, some (.inr (.inl xb_)), none, some (.inr (.inl xd_)), none, some (.inr (.inl (l_4 lt_ ((l_3 ((l_3 xa_ (-1))) (-1)))))), none, some (.inl (s_ + 1)), none, none] (by exact ⟨rfl, rfl, rfl, rfl, rfl, rfl, rfl, trivial⟩) ?_
              refine ih_ xa_ xb_ xd_ ((l_4 lt_ ((l_3 ((l_3 xa_ (-1))) (-1))))) (s_ + 1) S_ hI_ hF_ ⟨?_, ?_, ?_, trivial⟩ ?_
              · omega
              · exact hx_
              · intro i9_ hi9_
                rw [lbt_4, h1_ i9_ hi9_]
                first | (rw [lbt_0]; exact tld_0 hf_ (by omega) (by omega)) | (refine tld_1 hf_ (by omega) (by omega) ?_; simp only [lbt_3, lbt_n hi9_, lbt_m hi9_, hx_.1, hx_.2.1, hx_.2.2]; (first | rw [decide_eq_true (show 2 ≤ ip_ by omega), Bool.true_and] | rw [decide_eq_false (show ¬ 2 ≤ ip_ by omega), Bool.false_and]); (first | rw [decide_eq_true (show 3 ≤ ip_ by omega), Bool.true_and] | rw [decide_eq_false (show ¬ 3 ≤ ip_ by omega), Bool.false_and]); cases lbt la_ i9_ <;> cases lbt lb_ i9_ <;> cases lbt ld_ i9_ <;> first | exact (decide_eq_true (by (rw [tix_c]; simp only [Bool.and_true, Bool.and_false, Bool.true_and, Bool.false_and, Bool.false_eq_true, if_true, if_false, reduceIte]; omega))).symm | exact (decide_eq_false (by (rw [tix_c]; simp only [Bool.and_true, Bool.and_false, Bool.true_and, Bool.false_and, Bool.false_eq_true, if_true, if_false, reduceIte]; omega))).symm)
              · omega
set_option maxHeartbeats 400000 in
set_option maxRecDepth 20000 in
theorem vc_429n {sc_ : Nat × (Nat → Int)} (fn_ : Int) (ip_ : Int) (la_ : Int) (lb_ : Int) (ld_ : Int) (S0_ : sm_S) (hI_ : gi S0_) (hf_ : 0 ≤ fn_ ∧ fn_ ≤ 255) (hi_ : 0 ≤ ip_ ∧ ip_ ≤ 3) : sm_T (mt_P sc_) 0 429 (0, [some (.inl fn_), some (.inl ip_), some (.inr (.inl la_)), none, some (.inr (.inl lb_)), none, some (.inr (.inl ld_)), none, none, none, none, none, none], [], S0_) (fun ro9_ => ∃ u_ S1_, ro9_ = (.inl u_, S1_, 0) ∧ vq_429n fn_ ip_ la_ lb_ ld_ S0_ u_ S1_) := by
  have hF_ : ai_fr (sx_W vw_429n) S0_ S0_ := ai_fr_rf
  refine sm_T_go 4 (c1 := (6, [some (.inl fn_), some (.inl ip_), some (.inr (.inl la_)), none, some (.inr (.inl lb_)), none, some (.inr (.inl ld_)), none, some (.inr (.inl 0)), none, some (.inl 0), none, none], [], S0_)) rfl ?_
  refine (vl_429n fn_ ip_ la_ lb_ ld_ S0_ hf_ hi_ _) la_ lb_ ld_ 0 0 S0_ hI_ hF_ ⟨?_, ?_, ?_, trivial⟩ (Nat.lt_succ_self _)
  · omega
  · exact ⟨rfl, rfl, rfl⟩
  · intro i9_ hi9_
    rw [lbt_0]
    unfold tld
    rw [decide_eq_false (by omega), Bool.false_and]
/-! M_.workNets -/
def vw_430n : sx_Wl := ([], [238], [])
def vq_430n (c_ : Int) (w_ : Int) (stuck : Int) (pin_ : Int) (lv_ : Int) (S0_ : sm_S) (u_ : Option sm_V) (S1_ : sm_S) : Prop := u_ = none ∧ gi S1_ ∧ ai_fr (sx_W vw_430n) S0_ S1_ ∧ (∀ i9_ : Nat, i9_ < 64 → cvq (S0_.2.2.1 223 0 c_.toNat + S0_.2.2.1 224 0 c_.toNat).toNat (S0_.2.2.1 228 0 c_.toNat).toNat (krT c_ S0_) (krN c_ S0_) (krA c_ S0_) (64 * w_.toNat + i9_) (fun n_ => lbt (S1_.2.2.2 238 0 n_) i9_))
set_option maxHeartbeats 400000 in
set_option maxRecDepth 20000 in
theorem vl_430n {sc_ : Nat × (Nat → Int)} (c_ : Int) (w_ : Int) (stuck : Int) (pin_ : Int) (lv_ : Int) (S0_ : sm_S) (hc_ : 0 ≤ c_ ∧ c_ ≤ 3) (hw_ : 0 ≤ w_ ∧ w_ ≤ 63) (hx_ : S0_.2.2.1 223 0 c_.toNat + S0_.2.2.1 224 0 c_.toNat ≤ 12) (hg_ : cgt c_ S0_) (hp_ : stuck = -1 ∧ pin_ = -1) : ∀ nn_ : Nat, (∀ (lv_ : Int) (fi_ : Int) (n_ : Int) (S_ : sm_S), gi S_ → ai_fr (sx_W vw_430n) S0_ S_ → ((0 ≤ n_ ∧ n_ ≤ fi_ ∧ fi_ = S0_.2.2.1 223 0 c_.toNat + S0_.2.2.1 224 0 c_.toNat ∧ 0 ≤ S0_.2.2.1 223 0 c_.toNat ∧ 0 ≤ S0_.2.2.1 224 0 c_.toNat ∧ 0 ≤ S0_.2.2.1 228 0 c_.toNat) ∧ (∀ m9_ : Nat, (m9_ : Int) < n_ → S_.2.2.2 238 0 m9_ = bwv m9_ w_.toNat) ∧ True) → ((9000 - n_).toNat) < nn_ → sm_T (mt_P sc_) 1 430 (18, [some (.inr (.inr (some (13, 0)))), some (.inl c_), some (.inl w_), some (.inl stuck), some (.inl pin_), some (.inr (.inl lv_)), none, some (.inl fi_), some (.inl n_), none, none, none, none, none, none, none, none], [], S_) (fun ro9_ => ∃ u_ S1_, ro9_ = (.inl u_, S1_, 0) ∧ vq_430n c_ w_ stuck pin_ lv_ S0_ u_ S1_)) ∧ (∀ (lv_ : Int) (fi_ : Int) (g_ : Int) (S_ : sm_S), gi S_ → ai_fr (sx_W vw_430n) S0_ S_ → ((0 ≤ g_ ∧ fi_ = S0_.2.2.1 223 0 c_.toNat + S0_.2.2.1 224 0 c_.toNat ∧ 0 ≤ S0_.2.2.1 223 0 c_.toNat ∧ 0 ≤ S0_.2.2.1 224 0 c_.toNat ∧ g_ ≤ S0_.2.2.1 228 0 c_.toNat) ∧ (∀ i9_ : Nat, i9_ < 64 → cvq (S0_.2.2.1 223 0 c_.toNat + S0_.2.2.1 224 0 c_.toNat).toNat g_.toNat (krT c_ S0_) (krN c_ S0_) (krA c_ S0_) (64 * w_.toNat + i9_) (fun n_ => lbt (S_.2.2.2 238 0 n_) i9_)) ∧ True) → ((1000 - g_).toNat) < nn_ → sm_T (mt_P sc_) 1 430 (58, [some (.inr (.inr (some (13, 0)))), some (.inl c_), some (.inl w_), some (.inl stuck), some (.inl pin_), some (.inr (.inl lv_)), none, some (.inl fi_), some (.inl g_), none, none, none, none, none, none, none, none], [], S_) (fun ro9_ => ∃ u_ S1_, ro9_ = (.inl u_, S1_, 0) ∧ vq_430n c_ w_ stuck pin_ lv_ S0_ u_ S1_)) := by
  intro nn_
  induction nn_ with
  | zero => exact ⟨fun _ _ _ _ _ _ _ h_ => absurd h_ (Nat.not_lt_zero _), fun _ _ _ _ _ _ _ h_ => absurd h_ (Nat.not_lt_zero _)⟩
  | succ nn_ ih_ =>
    refine ⟨?_, ?_⟩
    · rintro lv_ fi_ n_ S_ hI_ hF_ ⟨h0_, hb_, -⟩ hm_
      have f223_ : S_.2.2.1 223 0 = S0_.2.2.1 223 0 := fr_arr hF_ rfl
      have f224_ : S_.2.2.1 224 0 = S0_.2.2.1 224 0 := fr_arr hF_ rfl
      refine sm_T_go 2 (c1 := (22, [some (.inr (.inr (some (13, 0)))), some (.inl c_), some (.inl w_), some (.inl stuck), some (.inl pin_), some (.inr (.inl lv_)), none, some (.inl fi_), some (.inl n_), none, none, none, none, none, none, none, none], [.inl fi_, .inl n_], S_)) rfl ?_
      refine sm_T_br (a := 3) (z := 33) rfl (fun cx1_ => ?_) (fun cx1_ => ?_)
      · have cx1_ : fi_ ≤ n_ := of_decide_eq_true cx1_
        refine sm_T_go 2 (c1 := (58, [some (.inr (.inr (some (13, 0)))), some (.inl c_), some (.inl w_), some (.inl stuck), some (.inl pin_), some (.inr (.inl lv_)), none, some (.inl fi_), some (.inl 0), none, none, none, none, none, none, none, none], [], S_)) rfl ?_
        refine ih_.2 lv_ fi_ 0 S_ hI_ hF_ ⟨?_, ?_, trivial⟩ ?_
        · omega
        · intro i9_ hi9_
          refine ⟨fun n9_ hn9_ => ?_, fun g9_ hg9_ => absurd hg9_ (Nat.not_lt_zero _)⟩
          show lbt (S_.2.2.2 238 0 n9_) i9_ = _
          rw [hb_ n9_ (by omega), bwv_b (by omega) hi9_]
        · omega
      · have cx1_ : ¬ (fi_ ≤ n_) := of_decide_eq_false cx1_
        refine sm_T_go 5 (c1 := (34, [some (.inr (.inr (some (13, 0)))), some (.inl c_), some (.inl w_), some (.inl stuck), some (.inl pin_), some (.inr (.inl lv_)), none, some (.inl fi_), some (.inl n_), none, none, none, none, none, none, none, none], [.inl stuck, .inl n_, .inl n_, .inr (.inr (some (238, 0)))], S_)) rfl ?_
        refine sm_T_br (a := 1) (z := 8) rfl (fun cx2_ => ?_) (fun cx2_ => ?_)
        · have cx2_ : n_ ≠ stuck := of_decide_eq_true cx2_
          refine sm_T_go 2 (c1 := (45, [some (.inr (.inr (some (13, 0)))), some (.inl c_), some (.inl w_), some (.inl stuck), some (.inl pin_), some (.inr (.inl lv_)), none, some (.inl fi_), some (.inl n_), none, none, none, none, none, none, none, none], [.inl w_, .inl n_, .inl n_, .inr (.inr (some (238, 0)))], S_)) rfl ?_
          refine sm_T_cal (d1 := 0) (Q1 := vq_350n n_ w_ S_) rfl rfl (by decide) (vc_350n n_ w_ S_ hI_ (by omega) (by omega)) (fun u_ Sx3_ px6_ => ?_)
          obtain ⟨rfl, vx8_, rfl, px6_⟩ := px6_
          have e45_ := px6_
          refine sm_T_last (n := 256) rfl rfl (by omega) (by omega) ?_
          have hIx9_ : gi (sm_aL S_ 238 0 n_.toNat vx8_) := gi_aL hI_
          have hFx10_ : ai_fr (sx_W vw_430n) S0_ (sm_aL S_ 238 0 n_.toNat vx8_) := ai_fr_tr hF_ (ai_fr_aL rfl)
          refine sm_T_inc (a := 8) (z := 1) (v := n_) (w := n_ + 1) rfl rfl (by omega) (by omega) (by omega) ?_ -- pc_ 49
          refine sm_T_go 1 (c1 := (18, [some (.inr (.inr (some (13, 0)))), some (.inl c_), some (.inl w_), some (.inl stuck), some (.inl pin_), some (.inr (.inl lv_)), none, some (.inl fi_), some (.inl (n_ + 1)), none, none, none, none, none, none, none, none], [], sm_aL S_ 238 0 n_.toNat vx8_)) rfl ?_
          refine ih_.1 lv_ fi_ (n_ + 1) (sm_aL S_ 238 0 n_.toNat vx8_) hIx9_ hFx10_ ⟨?_, ?_, trivial⟩ ?_
          · omega
          · first | (exfalso; omega) | (intro m9_ hm9_; rw [rd_leq]; by_cases z9_ : m9_ = n_.toNat; (rw [if_pos z9_, e45_, z9_]); (rw [if_neg z9_]; exact hb_ m9_ (by omega)))
          · omega
        · have cx2_ : ¬ (n_ ≠ stuck) := of_decide_eq_false cx2_
          refine sm_T_go 2 (c1 := (48, [some (.inr (.inr (some (13, 0)))), some (.inl c_), some (.inl w_), some (.inl stuck), some (.inl pin_), some (.inr (.inl lv_)), none, some (.inl fi_), some (.inl n_), none, none, none, none, none, none, none, none], [.inr (.inl lv_), .inl n_, .inr (.inr (some (238, 0)))], S_)) rfl ?_
          refine sm_T_last (n := 256) rfl rfl (by omega) (by omega) ?_
          have hIx11_ : gi (sm_aL S_ 238 0 n_.toNat lv_) := gi_aL hI_
          have hFx12_ : ai_fr (sx_W vw_430n) S0_ (sm_aL S_ 238 0 n_.toNat lv_) := ai_fr_tr hF_ (ai_fr_aL rfl)
          refine sm_T_inc (a := 8) (z := 1) (v := n_) (w := n_ + 1) rfl rfl (by omega) (by omega) (by omega) ?_ -- pc_ 49
          refine sm_T_go 1 (c1 := (18, [some (.inr (.inr (some (13, 0)))), some (.inl c_), some (.inl w_), some (.inl stuck), some (.inl pin_), some (.inr (.inl lv_)), none, some (.inl fi_), some (.inl (n_ + 1)), none, none, none, none, none, none, none, none], [], sm_aL S_ 238 0 n_.toNat lv_)) rfl ?_
          refine ih_.1 lv_ fi_ (n_ + 1) (sm_aL S_ 238 0 n_.toNat lv_) hIx11_ hFx12_ ⟨?_, ?_, trivial⟩ ?_
          · omega
          · first | (exfalso; omega) | (intro m9_ hm9_; rw [rd_leq]; by_cases z9_ : m9_ = n_.toNat; (rw [if_pos z9_, e45_, z9_]); (rw [if_neg z9_]; exact hb_ m9_ (by omega)))
          · omega
    · rintro lv_ fi_ g_ S_ hI_ hF_ ⟨h0_, hv_, -⟩ hm_
      have f223_ : S_.2.2.1 223 0 = S0_.2.2.1 223 0 := fr_arr hF_ rfl
      have f224_ : S_.2.2.1 224 0 = S0_.2.2.1 224 0 := fr_arr hF_ rfl
      have f228_ : S_.2.2.1 228 0 = S0_.2.2.1 228 0 := fr_arr hF_ rfl
      have x228_ : S_.2.2.1 228 0 c_.toNat = S0_.2.2.1 228 0 c_.toNat := congrFun f228_ _
      have hg9_ := cgt_fr hc_.1 hI_ hg_ hF_
      refine sm_T_go 4 (c1 := (65, [some (.inr (.inr (some (13, 0)))), some (.inl c_), some (.inl w_), some (.inl stuck), some (.inl pin_), some (.inr (.inl lv_)), none, some (.inl fi_), some (.inl g_), none, none, none, none, none, none, none, none], [.inl c_, .inr (.inr (some (228, 0))), .inl g_], S_)) rfl ?_
      refine sm_T_iald (n := 4) rfl rfl (by omega) (by omega) ?_
      have bx1_ : 0 ≤ S_.2.2.1 228 0 c_.toNat ∧ S_.2.2.1 228 0 c_.toNat ≤ 150 := hI_.2 228 0 _
      refine sm_T_br (a := 3) (z := 194) rfl (fun cx2_ => ?_) (fun cx2_ => ?_)
      · have cx2_ : (S_.2.2.1 228 0 c_.toNat) ≤ g_ := of_decide_eq_true cx2_
        refine sm_T_rv rfl ⟨_, _, rfl, rfl, hI_, hF_, ?_⟩
        intro i9_ hi9_
        have q9_ := hv_ i9_ hi9_
        rw [show g_.toNat = (S0_.2.2.1 228 0 c_.toNat).toNat by omega] at q9_
        exact q9_
      · have cx2_ : ¬ ((S_.2.2.1 228 0 c_.toNat) ≤ g_) := of_decide_eq_false cx2_
        have G0_ := hg9_ g_ (by omega) (by omega) 0 (by decide) (by decide) (Or.inl rfl)
        rw [Int.add_zero] at G0_
        rw [f223_, f224_] at G0_
        refine sm_T_go 3 (c1 := (74, [some (.inr (.inr (some (13, 0)))), some (.inl c_), some (.inl w_), some (.inl stuck), some (.inl pin_), some (.inr (.inl lv_)), none, some (.inl fi_), some (.inl g_), none, none, none, none, none, none, none, none], [.inl c_, .inl 150, .inl 3], S_)) rfl ?_
        refine sm_T_bin (w := 150 * c_) rfl (bi_mul (by omega) (by omega) (by omega)) ?_ -- pc_ 74
        refine sm_T_go 1 (c1 := (77, [some (.inr (.inr (some (13, 0)))), some (.inl c_), some (.inl w_), some (.inl stuck), some (.inl pin_), some (.inr (.inl lv_)), none, some (.inl fi_), some (.inl g_), none, none, none, none, none, none, none, none], [.inl g_, .inl (150 * c_), .inl 3], S_)) rfl ?_
        refine sm_T_bin (w := 150 * c_ + g_) rfl (bi_add (by omega) (by omega) (by omega)) ?_ -- pc_ 77
        refine sm_T_bin (w := 450 * c_ + 3 * g_) rfl (bi_mul (by omega) (by omega) (by omega)) ?_ -- pc_ 78
        refine sm_T_go 6 (c1 := (89, [some (.inr (.inr (some (13, 0)))), some (.inl c_), some (.inl w_), some (.inl stuck), some (.inl pin_), some (.inr (.inl lv_)), none, some (.inl fi_), some (.inl g_), some (.inl (450 * c_ + 3 * g_)), none, none, none, none, none, none, none], [.inl g_, .inl c_, .inr (.inr (some (13, 0))), .inr (.inr (some (234, 0)))], S_)) rfl ?_
        refine sm_T_cal (d1 := 0) (Q1 := vq_421 c_ g_ S_) rfl rfl (by decide) (vc_421 c_ g_ S_ hI_ (by omega) (by omega)) (fun u_ Sx3_ px6_ => ?_)
        obtain ⟨rfl, vx8_, rfl, px6_⟩ := px6_
        have e89_ := px6_
        have n89_ : krN c_ S0_ g_.toNat = S_.2.2.1 234 0 (vx8_).toNat := by (rw [← (krX_fr (c_ := c_) hF_).2.1]; unfold krN; rw [show ((g_.toNat : Nat) : Int) = g_ by omega, ← e89_.2])
        have a0_ : krA c_ S0_ g_.toNat 0 = S_.2.2.1 230 0 (450 * c_ + 3 * g_).toNat := by (rw [← (krX_fr (c_ := c_) hF_).2.2]; unfold krA; rw [show 450 * c_ + 3 * ((g_.toNat : Nat) : Int) + ((0 : Nat) : Int) = 450 * c_ + 3 * g_ by omega])
        have a1_ : krA c_ S0_ g_.toNat 1 = S_.2.2.1 230 0 (450 * c_ + 3 * g_ + 1).toNat := by (rw [← (krX_fr (c_ := c_) hF_).2.2]; unfold krA; rw [show 450 * c_ + 3 * ((g_.toNat : Nat) : Int) + ((1 : Nat) : Int) = 450 * c_ + 3 * g_ + 1 by omega])
        have a2_ : krA c_ S0_ g_.toNat 2 = S_.2.2.1 230 0 (450 * c_ + 3 * g_ + 2).toNat := by (rw [← (krX_fr (c_ := c_) hF_).2.2]; unfold krA; rw [show 450 * c_ + 3 * ((g_.toNat : Nat) : Int) + ((2 : Nat) : Int) = 450 * c_ + 3 * g_ + 2 by omega])
        refine sm_T_iald (n := 48) rfl rfl (by omega) (by omega) ?_
        have bx9_ : 0 ≤ S_.2.2.1 234 0 vx8_.toNat ∧ S_.2.2.1 234 0 vx8_.toNat ≤ 3 := hI_.2 234 0 _
        refine sm_T_go 4 (c1 := (100, [some (.inr (.inr (some (13, 0)))), some (.inl c_), some (.inl w_), some (.inl stuck), some (.inl pin_), some (.inr (.inl lv_)), none, some (.inl fi_), some (.inl g_), some (.inl (450 * c_ + 3 * g_)), some (.inl (S_.2.2.1 234 0 vx8_.toNat)), none, none, none, none, none, none], [.inl g_, .inl 3, .inl pin_], S_)) rfl ?_
        refine sm_T_bin (w := 3 * g_) rfl (bi_mul (by omega) (by omega) (by omega)) ?_ -- pc_ 100
        refine sm_T_br (a := 1) (z := 8) rfl (fun cx10_ => ?_) (fun cx10_ => ?_)
        · have cx10_ : pin_ ≠ 3 * g_ := of_decide_eq_true cx10_
          refine sm_T_go 5 (c1 := (119, [some (.inr (.inr (some (13, 0)))), some (.inl c_), some (.inl w_), some (.inl stuck), some (.inl pin_), some (.inr (.inl lv_)), none, some (.inl fi_), some (.inl g_), some (.inl (450 * c_ + 3 * g_)), some (.inl (S_.2.2.1 234 0 vx8_.toNat)), none, none, none, none, none, none], [.inl (450 * c_ + 3 * g_), .inr (.inr (some (230, 0))), .inr (.inr (some (238, 0)))], S_)) rfl ?_
          refine sm_T_iald (n := 1800) rfl rfl (by omega) (by omega) ?_
          have bx11_ : (-1) ≤ S_.2.2.1 230 0 (450 * c_ + 3 * g_).toNat ∧ S_.2.2.1 230 0 (450 * c_ + 3 * g_).toNat ≤ 161 := hI_.2 230 0 _
          refine sm_T_lald (n := 256) rfl rfl (by omega) (by omega) ?_
          refine sm_T_go 3 (c1 := (126, [some (.inr (.inr (some (13, 0)))), some (.inl c_), some (.inl w_), some (.inl stuck), some (.inl pin_), some (.inr (.inl lv_)), none, some (.inl fi_), some (.inl g_), some (.inl (450 * c_ + 3 * g_)), some (.inl (S_.2.2.1 234 0 vx8_.toNat)), some (.inr (.inl (S_.2.2.2 238 0 (S_.2.2.1 230 0 (450 * c_ + 3 * g_).toNat).toNat))), none, none, none, none, none], [.inl 2, .inl (S_.2.2.1 234 0 vx8_.toNat)], S_)) rfl ?_
          refine sm_T_br (a := 3) (z := 7) rfl (fun cx12_ => ?_) (fun cx12_ => ?_)
          · have cx12_ : 2 ≤ (S_.2.2.1 234 0 vx8_.toNat) := of_decide_eq_true cx12_
            have G1_ := hg9_ g_ (by omega) (by omega) 1 (by decide) (by decide) (Or.inr (by rw [← e89_.2]; omega))
            rw [f223_, f224_] at G1_
            refine sm_T_go 3 (c1 := (138, [some (.inr (.inr (some (13, 0)))), some (.inl c_), some (.inl w_), some (.inl stuck), some (.inl pin_), some (.inr (.inl lv_)), none, some (.inl fi_), some (.inl g_), some (.inl (450 * c_ + 3 * g_)), some (.inl (S_.2.2.1 234 0 vx8_.toNat)), some (.inr (.inl (S_.2.2.2 238 0 (S_.2.2.1 230 0 (450 * c_ + 3 * g_).toNat).toNat))), none, none, none, none, none], [.inl g_, .inl 3, .inl pin_], S_)) rfl ?_
            refine sm_T_bin (w := 3 * g_) rfl (bi_mul (by omega) (by omega) (by omega)) ?_ -- pc_ 138
            refine sm_T_go 1 (c1 := (140, [some (.inr (.inr (some (13, 0)))), some (.inl c_), some (.inl w_), some (.inl stuck), some (.inl pin_), some (.inr (.inl lv_)), none, some (.inl fi_), some (.inl g_), some (.inl (450 * c_ + 3 * g_)), some (.inl (S_.2.2.1 234 0 vx8_.toNat)), some (.inr (.inl (S_.2.2.2 238 0 (S_.2.2.1 230 0 (450 * c_ + 3 * g_).toNat).toNat))), none, none, none, none, none], [.inl 1, .inl (3 * g_), .inl pin_], S_)) rfl ?_
            refine sm_T_bin (w := 3 * g_ + 1) rfl (bi_add (by omega) (by omega) (by omega)) ?_ -- pc_ 140
            refine sm_T_br (a := 1) (z := 8) rfl (fun cx13_ => ?_) (fun cx13_ => ?_)
            · have cx13_ : pin_ ≠ 3 * g_ + 1 := of_decide_eq_true cx13_
              refine sm_T_go 6 (c1 := (160, [some (.inr (.inr (some (13, 0)))), some (.inl c_), some (.inl w_), some (.inl stuck), some (.inl pin_), some (.inr (.inl lv_)), none, some (.inl fi_), some (.inl g_), some (.inl (450 * c_ + 3 * g_)), some (.inl (S_.2.2.1 234 0 vx8_.toNat)), some (.inr (.inl (S_.2.2.2 238 0 (S_.2.2.1 230 0 (450 * c_ + 3 * g_).toNat).toNat))), none, none, none, none, none], [.inl 1, .inl (450 * c_ + 3 * g_), .inr (.inr (some (230, 0))), .inr (.inr (some (238, 0)))], S_)) rfl ?_
              refine sm_T_bin (w := 450 * c_ + 3 * g_ + 1) rfl (bi_add (by omega) (by omega) (by omega)) ?_ -- pc_ 160
              refine sm_T_iald (n := 1800) rfl rfl (by omega) (by omega) ?_
              have bx14_ : (-1) ≤ S_.2.2.1 230 0 (450 * c_ + 3 * g_ + 1).toNat ∧ S_.2.2.1 230 0 (450 * c_ + 3 * g_ + 1).toNat ≤ 161 := hI_.2 230 0 _
              refine sm_T_lald (n := 256) rfl rfl (by omega) (by omega) ?_
              refine sm_T_go 3 (c1 := (168, [some (.inr (.inr (some (13, 0)))), some (.inl c_), some (.inl w_), some (.inl stuck), some (.inl pin_), some (.inr (.inl lv_)), none, some (.inl fi_), some (.inl g_), some (.inl (450 * c_ + 3 * g_)), some (.inl (S_.2.2.1 234 0 vx8_.toNat)), some (.inr (.inl (S_.2.2.2 238 0 (S_.2.2.1 230 0 (450 * c_ + 3 * g_).toNat).toNat))), none, some (.inr (.inl (S_.2.2.2 238 0 (S_.2.2.1 230 0 (450 * c_ + 3 * g_ + 1).toNat).toNat))), none, none, none], [.inl 3, .inl (S_.2.2.1 234 0 vx8_.toNat)], S_)) rfl ?_
              refine sm_T_br (a := 3) (z := 7) rfl (fun cx15_ => ?_) (fun cx15_ => ?_)
              · have cx15_ : 3 ≤ (S_.2.2.1 234 0 vx8_.toNat) := of_decide_eq_true cx15_
                have G2_ := hg9_ g_ (by omega) (by omega) 2 (by decide) (by decide) (Or.inr (by rw [← e89_.2]; omega))
                rw [f223_, f224_] at G2_
                refine sm_T_go 3 (c1 := (180, [some (.inr (.inr (some (13, 0)))), some (.inl c_), some (.inl w_), some (.inl stuck), some (.inl pin_), some (.inr (.inl lv_)), none, some (.inl fi_), some (.inl g_), some (.inl (450 * c_ + 3 * g_)), some (.inl (S_.2.2.1 234 0 vx8_.toNat)), some (.inr (.inl (S_.2.2.2 238 0 (S_.2.2.1 230 0 (450 * c_ + 3 * g_).toNat).toNat))), none, some (.inr (.inl (S_.2.2.2 238 0 (S_.2.2.1 230 0 (450 * c_ + 3 * g_ + 1).toNat).toNat))), none, none, none], [.inl g_, .inl 3, .inl pin_], S_)) rfl ?_
                refine sm_T_bin (w := 3 * g_) rfl (bi_mul (by omega) (by omega) (by omega)) ?_ -- pc_ 180
                refine sm_T_go 1 (c1 := (182, [some (.inr (.inr (some (13, 0)))), some (.inl c_), some (.inl w_), some (.inl stuck), some (.inl pin_), some (.inr (.inl lv_)), none, some (.inl fi_), some (.inl g_), some (.inl (450 * c_ + 3 * g_)), some (.inl (S_.2.2.1 234 0 vx8_.toNat)), some (.inr (.inl (S_.2.2.2 238 0 (S_.2.2.1 230 0 (450 * c_ + 3 * g_).toNat).toNat))), none, some (.inr (.inl (S_.2.2.2 238 0 (S_.2.2.1 230 0 (450 * c_ + 3 * g_ + 1).toNat).toNat))), none, none, none], [.inl 2, .inl (3 * g_), .inl pin_], S_)) rfl ?_
                refine sm_T_bin (w := 3 * g_ + 2) rfl (bi_add (by omega) (by omega) (by omega)) ?_ -- pc_ 182
                refine sm_T_br (a := 1) (z := 8) rfl (fun cx16_ => ?_) (fun cx16_ => ?_)
                · have cx16_ : pin_ ≠ 3 * g_ + 2 := of_decide_eq_true cx16_
                  refine sm_T_go 6 (c1 := (202, [some (.inr (.inr (some (13, 0)))), some (.inl c_), some (.inl w_), some (.inl stuck), some (.inl pin_), some (.inr (.inl lv_)), none, some (.inl fi_), some (.inl g_), some (.inl (450 * c_ + 3 * g_)), some (.inl (S_.2.2.1 234 0 vx8_.toNat)), some (.inr (.inl (S_.2.2.2 238 0 (S_.2.2.1 230 0 (450 * c_ + 3 * g_).toNat).toNat))), none, some (.inr (.inl (S_.2.2.2 238 0 (S_.2.2.1 230 0 (450 * c_ + 3 * g_ + 1).toNat).toNat))), none, none, none], [.inl 2, .inl (450 * c_ + 3 * g_), .inr (.inr (some (230, 0))), .inr (.inr (some (238, 0)))], S_)) rfl ?_
                  refine sm_T_bin (w := 450 * c_ + 3 * g_ + 2) rfl (bi_add (by omega) (by omega) (by omega)) ?_ -- pc_ 202
                  refine sm_T_iald (n := 1800) rfl rfl (by omega) (by omega) ?_
                  have bx17_ : (-1) ≤ S_.2.2.1 230 0 (450 * c_ + 3 * g_ + 2).toNat ∧ S_.2.2.1 230 0 (450 * c_ + 3 * g_ + 2).toNat ≤ 161 := hI_.2 230 0 _
                  refine sm_T_lald (n := 256) rfl rfl (by omega) (by omega) ?_
                  refine sm_T_go 5 (c1 := (215, [some (.inr (.inr (some (13, 0)))), some (.inl c_), some (.inl w_), some (.inl stuck), some (.inl pin_), some (.inr (.inl lv_)), none, some (.inl fi_), some (.inl g_), some (.inl (450 * c_ + 3 * g_)), some (.inl (S_.2.2.1 234 0 vx8_.toNat)), some (.inr (.inl (S_.2.2.2 238 0 (S_.2.2.1 230 0 (450 * c_ + 3 * g_).toNat).toNat))), none, some (.inr (.inl (S_.2.2.2 238 0 (S_.2.2.1 230 0 (450 * c_ + 3 * g_ + 1).toNat).toNat))), none, some (.inr (.inl (S_.2.2.2 238 0 (S_.2.2.1 230 0 (450 * c_ + 3 * g_ + 2).toNat).toNat))), none], [.inl g_, .inl fi_, .inr (.inr (some (238, 0)))], S_)) rfl ?_
                  refine sm_T_bin (w := fi_ + g_) rfl (bi_add (by omega) (by omega) (by omega)) ?_ -- pc_ 215
                  refine sm_T_go 2 (c1 := (220, [some (.inr (.inr (some (13, 0)))), some (.inl c_), some (.inl w_), some (.inl stuck), some (.inl pin_), some (.inr (.inl lv_)), none, some (.inl fi_), some (.inl g_), some (.inl (450 * c_ + 3 * g_)), some (.inl (S_.2.2.1 234 0 vx8_.toNat)), some (.inr (.inl (S_.2.2.2 238 0 (S_.2.2.1 230 0 (450 * c_ + 3 * g_).toNat).toNat))), none, some (.inr (.inl (S_.2.2.2 238 0 (S_.2.2.1 230 0 (450 * c_ + 3 * g_ + 1).toNat).toNat))), none, some (.inr (.inl (S_.2.2.2 238 0 (S_.2.2.1 230 0 (450 * c_ + 3 * g_ + 2).toNat).toNat))), none], [.inl g_, .inl fi_, .inl (fi_ + g_), .inr (.inr (some (238, 0)))], S_)) rfl ?_
                  refine sm_T_bin (w := fi_ + g_) rfl (bi_add (by omega) (by omega) (by omega)) ?_ -- pc_ 220
                  refine sm_T_go 1 (c1 := (222, [some (.inr (.inr (some (13, 0)))), some (.inl c_), some (.inl w_), some (.inl stuck), some (.inl pin_), some (.inr (.inl lv_)), none, some (.inl fi_), some (.inl g_), some (.inl (450 * c_ + 3 * g_)), some (.inl (S_.2.2.1 234 0 vx8_.toNat)), some (.inr (.inl (S_.2.2.2 238 0 (S_.2.2.1 230 0 (450 * c_ + 3 * g_).toNat).toNat))), none, some (.inr (.inl (S_.2.2.2 238 0 (S_.2.2.1 230 0 (450 * c_ + 3 * g_ + 1).toNat).toNat))), none, some (.inr (.inl (S_.2.2.2 238 0 (S_.2.2.1 230 0 (450 * c_ + 3 * g_ + 2).toNat).toNat))), none], [.inl stuck, .inl (fi_ + g_), .inl (fi_ + g_), .inr (.inr (some (238, 0)))], S_)) rfl ?_
                  refine sm_T_br (a := 1) (z := 8) rfl (fun cx18_ => ?_) (fun cx18_ => ?_)
                  · have cx18_ : fi_ + g_ ≠ stuck := of_decide_eq_true cx18_
                    refine sm_T_go 5 (c1 := (238, [some (.inr (.inr (some (13, 0)))), some (.inl c_), some (.inl w_), some (.inl stuck), some (.inl pin_), some (.inr (.inl lv_)), none, some (.inl fi_), some (.inl g_), some (.inl (450 * c_ + 3 * g_)), some (.inl (S_.2.2.1 234 0 vx8_.toNat)), some (.inr (.inl (S_.2.2.2 238 0 (S_.2.2.1 230 0 (450 * c_ + 3 * g_).toNat).toNat))), none, some (.inr (.inl (S_.2.2.2 238 0 (S_.2.2.1 230 0 (450 * c_ + 3 * g_ + 1).toNat).toNat))), none, some (.inr (.inl (S_.2.2.2 238 0 (S_.2.2.1 230 0 (450 * c_ + 3 * g_ + 2).toNat).toNat))), none], [.inl g_, .inl c_, .inr (.inr (some (13, 0))), .inr (.inr (some (235, 0))), .inl (fi_ + g_), .inr (.inr (some (238, 0)))], S_)) rfl ?_
                    refine sm_T_cal (d1 := 0) (Q1 := vq_421 c_ g_ S_) rfl rfl (by decide) (vc_421 c_ g_ S_ hI_ (by omega) (by omega)) (fun u_ Sx19_ px22_ => ?_)
                    obtain ⟨rfl, vx24_, rfl, px22_⟩ := px22_
                    have e238_ := px22_
                    have n238_ : krT c_ S0_ g_.toNat = S_.2.2.1 235 0 (vx24_).toNat := by (rw [← (krX_fr (c_ := c_) hF_).1]; unfold krT; rw [show ((g_.toNat : Nat) : Int) = g_ by omega, ← e238_.2])
                    refine sm_T_iald (n := 48) rfl rfl (by omega) (by omega) ?_
                    have bx25_ : 0 ≤ S_.2.2.1 235 0 vx24_.toNat ∧ S_.2.2.1 235 0 vx24_.toNat ≤ 255 := hI_.2 235 0 _
                    refine sm_T_go 4 (c1 := (250, [some (.inr (.inr (some (13, 0)))), some (.inl c_), some (.inl w_), some (.inl stuck), some (.inl pin_), some (.inr (.inl lv_)), none, some (.inl fi_), some (.inl g_), some (.inl (450 * c_ + 3 * g_)), some (.inl (S_.2.2.1 234 0 vx8_.toNat)), some (.inr (.inl (S_.2.2.2 238 0 (S_.2.2.1 230 0 (450 * c_ + 3 * g_).toNat).toNat))), none, some (.inr (.inl (S_.2.2.2 238 0 (S_.2.2.1 230 0 (450 * c_ + 3 * g_ + 1).toNat).toNat))), none, some (.inr (.inl (S_.2.2.2 238 0 (S_.2.2.1 230 0 (450 * c_ + 3 * g_ + 2).toNat).toNat))), none], [.inr (.inl (S_.2.2.2 238 0 (S_.2.2.1 230 0 (450 * c_ + 3 * g_ + 2).toNat).toNat)), .inr (.inl (S_.2.2.2 238 0 (S_.2.2.1 230 0 (450 * c_ + 3 * g_ + 1).toNat).toNat)), .inr (.inl (S_.2.2.2 238 0 (S_.2.2.1 230 0 (450 * c_ + 3 * g_).toNat).toNat)), .inl (S_.2.2.1 234 0 vx8_.toNat), .inl (S_.2.2.1 235 0 vx24_.toNat), .inl (fi_ + g_), .inr (.inr (some (238, 0)))], S_)) rfl ?_
                    refine sm_T_cal (d1 := 0) (Q1 := vq_429n (S_.2.2.1 235 0 vx24_.toNat) (S_.2.2.1 234 0 vx8_.toNat) ((S_.2.2.2 238 0 (S_.2.2.1 230 0 (450 * c_ + 3 * g_).toNat).toNat)) ((S_.2.2.2 238 0 (S_.2.2.1 230 0 (450 * c_ + 3 * g_ + 1).toNat).toNat)) ((S_.2.2.2 238 0 (S_.2.2.1 230 0 (450 * c_ + 3 * g_ + 2).toNat).toNat)) S_) rfl rfl (by decide) (vc_429n (S_.2.2.1 235 0 vx24_.toNat) (S_.2.2.1 234 0 vx8_.toNat) ((S_.2.2.2 238 0 (S_.2.2.1 230 0 (450 * c_ + 3 * g_).toNat).toNat)) ((S_.2.2.2 238 0 (S_.2.2.1 230 0 (450 * c_ + 3 * g_ + 1).toNat).toNat)) ((S_.2.2.2 238 0 (S_.2.2.1 230 0 (450 * c_ + 3 * g_ + 2).toNat).toNat)) S_ hI_ (by omega) (by omega)) (fun u_ Sx26_ px29_ => ?_)
                    obtain ⟨vx31_, rfl, hIx27_, hFx28_, px29_⟩ := px29_
                    have hFx30_ : ai_fr (sx_W vw_430n) S0_ Sx26_ := ai_fr_tr hF_ (fr_le hFx28_ rfl)
                    have e250_ := px29_
                    have y250_ : Sx26_.2.2.2 238 0 = S_.2.2.2 238 0 := fr_lon (t_ := 238) (i_ := 0) hFx28_ rfl
                    refine sm_T_last (n := 256) rfl rfl (by omega) (by omega) ?_
                    have hIx32_ : gi (sm_aL Sx26_ 238 0 (fi_ + g_).toNat vx31_) := gi_aL hIx27_
                    have hFx33_ : ai_fr (sx_W vw_430n) S0_ (sm_aL Sx26_ 238 0 (fi_ + g_).toNat vx31_) := ai_fr_tr hFx30_ (ai_fr_aL rfl)
                    refine sm_T_inc (a := 8) (z := 1) (v := g_) (w := g_ + 1) rfl rfl (by omega) (by omega) (by omega) ?_ -- pc_ 254
                    refine sm_T_go 1 (c1 := (58, [some (.inr (.inr (some (13, 0)))), some (.inl c_), some (.inl w_), some (.inl stuck), some (.inl pin_), some (.inr (.inl lv_)), none, some (.inl fi_), some (.inl (g_ + 1)), some (.inl (450 * c_ + 3 * g_)), some (.inl (S_.2.2.1 234 0 vx8_.toNat)), some (.inr (.inl (S_.2.2.2 238 0 (S_.2.2.1 230 0 (450 * c_ + 3 * g_).toNat).toNat))), none, some (.inr (.inl (S_.2.2.2 238 0 (S_.2.2.1 230 0 (450 * c_ + 3 * g_ + 1).toNat).toNat))), none, some (.inr (.inl (S_.2.2.2 238 0 (S_.2.2.1 230 0 (450 * c_ + 3 * g_ + 2).toNat).toNat))), none], [], sm_aL Sx26_ 238 0 (fi_ + g_).toNat vx31_)) rfl ?_
                    refine sm_T_wk [some (.inr (.inr (some (13, 0)))), some (.inl c_), some (.inl w_), some (.inl stuck), some (.inl pin_), some (.inr (.inl lv_)), none, some (.inl fi_), some (.inl (g_ + 1)), none, none, none, none, none, none, none, none] (by exact ⟨rfl, rfl, rfl, rfl, rfl, rfl, rfl, rfl, trivial⟩) ?_
                    refine ih_.2 lv_ fi_ (g_ + 1) (sm_aL Sx26_ 238 0 (fi_ + g_).toNat vx31_) hIx32_ hFx33_ ⟨?_, ?_, trivial⟩ ?_
                    · omega
                    · first | (exfalso; omega) | (intro i9_ hi9_; rw [show (g_ + 1).toNat = g_.toNat + 1 by omega]; refine kpr_s (hv_ i9_ hi9_) (fun k9_ => by (rw [rd_leq, y250_, show (fi_ + g_).toNat = (S0_.2.2.1 223 0 c_.toNat + S0_.2.2.1 224 0 c_.toNat).toNat + g_.toNat by omega])) (fun m9_ => ?_); have q9_ := e250_ (by (rw [← n89_]; exact m9_)) i9_ hi9_; rw [← n89_, ← n238_] at q9_; unfold gvl; rw [a0_, a1_, a2_]; first | exact q9_ | (have l3_ : ¬ 3 ≤ krN c_ S0_ g_.toNat := (by omega); rw [decide_eq_false l3_, Bool.false_and] at q9_ ⊢; first | exact q9_ | (have l2_ : ¬ 2 ≤ krN c_ S0_ g_.toNat := (by omega); rw [decide_eq_false l2_, Bool.false_and] at q9_ ⊢; exact q9_)))
                    · omega
                  · have cx18_ : ¬ (fi_ + g_ ≠ stuck) := of_decide_eq_false cx18_
                    refine sm_T_go 2 (c1 := (253, [some (.inr (.inr (some (13, 0)))), some (.inl c_), some (.inl w_), some (.inl stuck), some (.inl pin_), some (.inr (.inl lv_)), none, some (.inl fi_), some (.inl g_), some (.inl (450 * c_ + 3 * g_)), some (.inl (S_.2.2.1 234 0 vx8_.toNat)), some (.inr (.inl (S_.2.2.2 238 0 (S_.2.2.1 230 0 (450 * c_ + 3 * g_).toNat).toNat))), none, some (.inr (.inl (S_.2.2.2 238 0 (S_.2.2.1 230 0 (450 * c_ + 3 * g_ + 1).toNat).toNat))), none, some (.inr (.inl (S_.2.2.2 238 0 (S_.2.2.1 230 0 (450 * c_ + 3 * g_ + 2).toNat).toNat))), none], [.inr (.inl lv_), .inl (fi_ + g_), .inr (.inr (some (238, 0)))], S_)) rfl ?_
                    refine sm_T_last (n := 256) rfl rfl (by omega) (by omega) ?_
                    have hIx34_ : gi (sm_aL S_ 238 0 (fi_ + g_).toNat lv_) := gi_aL hI_
                    have hFx35_ : ai_fr (sx_W vw_430n) S0_ (sm_aL S_ 238 0 (fi_ + g_).toNat lv_) := ai_fr_tr hF_ (ai_fr_aL rfl)
                    refine sm_T_inc (a := 8) (z := 1) (v := g_) (w := g_ + 1) rfl rfl (by omega) (by omega) (by omega) ?_ -- pc_ 254
                    refine sm_T_go 1 (c1 := (58, [some (.inr (.inr (some (13, 0)))), some (.inl c_), some (.inl w_), some (.inl stuck), some (.inl pin_), some (.inr (.inl lv_)), none, some (.inl fi_), some (.inl (g_ + 1)), some (.inl (450 * c_ + 3 * g_)), some (.inl (S_.2.2.1 234 0 vx8_.toNat)), some (.inr (.inl (S_.2.2.2 238 0 (S_.2.2.1 230 0 (450 * c_ + 3 * g_).toNat).toNat))), none, some (.inr (.inl (S_.2.2.2 238 0 (S_.2.2.1 230 0 (450 * c_ + 3 * g_ + 1).toNat).toNat))), none, some (.inr (.inl (S_.2.2.2 238 0 (S_.2.2.1 230 0 (450 * c_ + 3 * g_ + 2).toNat).toNat))), none], [], sm_aL S_ 238 0 (fi_ + g_).toNat lv_)) rfl ?_
                    refine sm_T_wk [some (.inr (.inr (some (13, 0)))), some (.inl c_), some (.inl w_), some (.inl stuck), some (.inl pin_), some (.inr (.inl lv_)), none, some (.inl fi_), some (.inl (g_ + 1)), none, none, none, none, none, none, none, none] (by exact ⟨rfl, rfl, rfl, rfl, rfl, rfl, rfl, rfl, trivial⟩) ?_
                    refine ih_.2 lv_ fi_ (g_ + 1) (sm_aL S_ 238 0 (fi_ + g_).toNat lv_) hIx34_ hFx35_ ⟨?_, ?_, trivial⟩ ?_
                    · omega
                    · first | (exfalso; omega) | (intro i9_ hi9_; rw [show (g_ + 1).toNat = g_.toNat + 1 by omega]; refine kpr_s (hv_ i9_ hi9_) (fun k9_ => by (rw [rd_leq, y250_, show (fi_ + g_).toNat = (S0_.2.2.1 223 0 c_.toNat + S0_.2.2.1 224 0 c_.toNat).toNat + g_.toNat by omega])) (fun m9_ => ?_); have q9_ := e250_ (by (rw [← n89_]; exact m9_)) i9_ hi9_; rw [← n89_, ← n238_] at q9_; unfold gvl; rw [a0_, a1_, a2_]; first | exact q9_ | (have l3_ : ¬ 3 ≤ krN c_ S0_ g_.toNat := (by omega); rw [decide_eq_false l3_, Bool.false_and] at q9_ ⊢; first | exact q9_ | (have l2_ : ¬ 2 ≤ krN c_ S0_ g_.toNat := (by omega); rw [decide_eq_false l2_, Bool.false_and] at q9_ ⊢; exact q9_)))
                    · omega
                · have cx16_ : ¬ (pin_ ≠ 3 * g_ + 2) := of_decide_eq_false cx16_
                  refine sm_T_go 7 (c1 := (215, [some (.inr (.inr (some (13, 0)))), some (.inl c_), some (.inl w_), some (.inl stuck), some (.inl pin_), some (.inr (.inl lv_)), none, some (.inl fi_), some (.inl g_), some (.inl (450 * c_ + 3 * g_)), some (.inl (S_.2.2.1 234 0 vx8_.toNat)), some (.inr (.inl (S_.2.2.2 238 0 (S_.2.2.1 230 0 (450 * c_ + 3 * g_).toNat).toNat))), none, some (.inr (.inl (S_.2.2.2 238 0 (S_.2.2.1 230 0 (450 * c_ + 3 * g_ + 1).toNat).toNat))), none, some (.inr (.inl lv_)), none], [.inl g_, .inl fi_, .inr (.inr (some (238, 0)))], S_)) rfl ?_
                  refine sm_T_bin (w := fi_ + g_) rfl (bi_add (by omega) (by omega) (by omega)) ?_ -- pc_ 215
                  refine sm_T_go 2 (c1 := (220, [some (.inr (.inr (some (13, 0)))), some (.inl c_), some (.inl w_), some (.inl stuck), some (.inl pin_), some (.inr (.inl lv_)), none, some (.inl fi_), some (.inl g_), some (.inl (450 * c_ + 3 * g_)), some (.inl (S_.2.2.1 234 0 vx8_.toNat)), some (.inr (.inl (S_.2.2.2 238 0 (S_.2.2.1 230 0 (450 * c_ + 3 * g_).toNat).toNat))), none, some (.inr (.inl (S_.2.2.2 238 0 (S_.2.2.1 230 0 (450 * c_ + 3 * g_ + 1).toNat).toNat))), none, some (.inr (.inl lv_)), none], [.inl g_, .inl fi_, .inl (fi_ + g_), .inr (.inr (some (238, 0)))], S_)) rfl ?_
                  refine sm_T_bin (w := fi_ + g_) rfl (bi_add (by omega) (by omega) (by omega)) ?_ -- pc_ 220
                  refine sm_T_go 1 (c1 := (222, [some (.inr (.inr (some (13, 0)))), some (.inl c_), some (.inl w_), some (.inl stuck), some (.inl pin_), some (.inr (.inl lv_)), none, some (.inl fi_), some (.inl g_), some (.inl (450 * c_ + 3 * g_)), some (.inl (S_.2.2.1 234 0 vx8_.toNat)), some (.inr (.inl (S_.2.2.2 238 0 (S_.2.2.1 230 0 (450 * c_ + 3 * g_).toNat).toNat))), none, some (.inr (.inl (S_.2.2.2 238 0 (S_.2.2.1 230 0 (450 * c_ + 3 * g_ + 1).toNat).toNat))), none, some (.inr (.inl lv_)), none], [.inl stuck, .inl (fi_ + g_), .inl (fi_ + g_), .inr (.inr (some (238, 0)))], S_)) rfl ?_
                  refine sm_T_br (a := 1) (z := 8) rfl (fun cx36_ => ?_) (fun cx36_ => ?_)
                  · have cx36_ : fi_ + g_ ≠ stuck := of_decide_eq_true cx36_
                    refine sm_T_go 5 (c1 := (238, [some (.inr (.inr (some (13, 0)))), some (.inl c_), some (.inl w_), some (.inl stuck), some (.inl pin_), some (.inr (.inl lv_)), none, some (.inl fi_), some (.inl g_), some (.inl (450 * c_ + 3 * g_)), some (.inl (S_.2.2.1 234 0 vx8_.toNat)), some (.inr (.inl (S_.2.2.2 238 0 (S_.2.2.1 230 0 (450 * c_ + 3 * g_).toNat).toNat))), none, some (.inr (.inl (S_.2.2.2 238 0 (S_.2.2.1 230 0 (450 * c_ + 3 * g_ + 1).toNat).toNat))), none, some (.inr (.inl lv_)), none], [.inl g_, .inl c_, .inr (.inr (some (13, 0))), .inr (.inr (some (235, 0))), .inl (fi_ + g_), .inr (.inr (some (238, 0)))], S_)) rfl ?_
                    refine sm_T_cal (d1 := 0) (Q1 := vq_421 c_ g_ S_) rfl rfl (by decide) (vc_421 c_ g_ S_ hI_ (by omega) (by omega)) (fun u_ Sx37_ px40_ => ?_)
                    obtain ⟨rfl, vx42_, rfl, px40_⟩ := px40_
                    have e238_ := px40_
                    have n238_ : krT c_ S0_ g_.toNat = S_.2.2.1 235 0 (vx42_).toNat := by (rw [← (krX_fr (c_ := c_) hF_).1]; unfold krT; rw [show ((g_.toNat : Nat) : Int) = g_ by omega, ← e238_.2])
                    refine sm_T_iald (n := 48) rfl rfl (by omega) (by omega) ?_
                    have bx43_ : 0 ≤ S_.2.2.1 235 0 vx42_.toNat ∧ S_.2.2.1 235 0 vx42_.toNat ≤ 255 := hI_.2 235 0 _
                    refine sm_T_go 4 (c1 := (250, [some (.inr (.inr (some (13, 0)))), some (.inl c_), some (.inl w_), some (.inl stuck), some (.inl pin_), some (.inr (.inl lv_)), none, some (.inl fi_), some (.inl g_), some (.inl (450 * c_ + 3 * g_)), some (.inl (S_.2.2.1 234 0 vx8_.toNat)), some (.inr (.inl (S_.2.2.2 238 0 (S_.2.2.1 230 0 (450 * c_ + 3 * g_).toNat).toNat))), none, some (.inr (.inl (S_.2.2.2 238 0 (S_.2.2.1 230 0 (450 * c_ + 3 * g_ + 1).toNat).toNat))), none, some (.inr (.inl lv_)), none], [.inr (.inl lv_), .inr (.inl (S_.2.2.2 238 0 (S_.2.2.1 230 0 (450 * c_ + 3 * g_ + 1).toNat).toNat)), .inr (.inl (S_.2.2.2 238 0 (S_.2.2.1 230 0 (450 * c_ + 3 * g_).toNat).toNat)), .inl (S_.2.2.1 234 0 vx8_.toNat), .inl (S_.2.2.1 235 0 vx42_.toNat), .inl (fi_ + g_), .inr (.inr (some (238, 0)))], S_)) rfl ?_
                    refine sm_T_cal (d1 := 0) (Q1 := vq_429n (S_.2.2.1 235 0 vx42_.toNat) (S_.2.2.1 234 0 vx8_.toNat) ((S_.2.2.2 238 0 (S_.2.2.1 230 0 (450 * c_ + 3 * g_).toNat).toNat)) ((S_.2.2.2 238 0 (S_.2.2.1 230 0 (450 * c_ + 3 * g_ + 1).toNat).toNat)) lv_ S_) rfl rfl (by decide) (vc_429n (S_.2.2.1 235 0 vx42_.toNat) (S_.2.2.1 234 0 vx8_.toNat) ((S_.2.2.2 238 0 (S_.2.2.1 230 0 (450 * c_ + 3 * g_).toNat).toNat)) ((S_.2.2.2 238 0 (S_.2.2.1 230 0 (450 * c_ + 3 * g_ + 1).toNat).toNat)) lv_ S_ hI_ (by omega) (by omega)) (fun u_ Sx44_ px47_ => ?_)
                    obtain ⟨vx49_, rfl, hIx45_, hFx46_, px47_⟩ := px47_
                    have hFx48_ : ai_fr (sx_W vw_430n) S0_ Sx44_ := ai_fr_tr hF_ (fr_le hFx46_ rfl)
                    have e250_ := px47_
                    have y250_ : Sx44_.2.2.2 238 0 = S_.2.2.2 238 0 := fr_lon (t_ := 238) (i_ := 0) hFx46_ rfl
                    refine sm_T_last (n := 256) rfl rfl (by omega) (by omega) ?_
                    have hIx50_ : gi (sm_aL Sx44_ 238 0 (fi_ + g_).toNat vx49_) := gi_aL hIx45_
                    have hFx51_ : ai_fr (sx_W vw_430n) S0_ (sm_aL Sx44_ 238 0 (fi_ + g_).toNat vx49_) := ai_fr_tr hFx48_ (ai_fr_aL rfl)
                    refine sm_T_inc (a := 8) (z := 1) (v := g_) (w := g_ + 1) rfl rfl (by omega) (by omega) (by omega) ?_ -- pc_ 254
                    refine sm_T_go 1 (c1 := (58, [some (.inr (.inr (some (13, 0)))), some (.inl c_), some (.inl w_), some (.inl stuck), some (.inl pin_), some (.inr (.inl lv_)), none, some (.inl fi_), some (.inl (g_ + 1)), some (.inl (450 * c_ + 3 * g_)), some (.inl (S_.2.2.1 234 0 vx8_.toNat)), some (.inr (.inl (S_.2.2.2 238 0 (S_.2.2.1 230 0 (450 * c_ + 3 * g_).toNat).toNat))), none, some (.inr (.inl (S_.2.2.2 238 0 (S_.2.2.1 230 0 (450 * c_ + 3 * g_ + 1).toNat).toNat))), none, some (.inr (.inl lv_)), none], [], sm_aL Sx44_ 238 0 (fi_ + g_).toNat vx49_)) rfl ?_
                    refine sm_T_wk [some (.inr (.inr (some (13, 0)))), some (.inl c_), some (.inl w_), some (.inl stuck), some (.inl pin_), some (.inr (.inl lv_)), none, some (.inl fi_), some (.inl (g_ + 1)), none, none, none, none, none, none, none, none] (by exact ⟨rfl, rfl, rfl, rfl, rfl, rfl, rfl, rfl, trivial⟩) ?_
                    refine ih_.2 lv_ fi_ (g_ + 1) (sm_aL Sx44_ 238 0 (fi_ + g_).toNat vx49_) hIx50_ hFx51_ ⟨?_, ?_, trivial⟩ ?_
                    · omega
                    · first | (exfalso; omega) | (intro i9_ hi9_; rw [show (g_ + 1).toNat = g_.toNat + 1 by omega]; refine kpr_s (hv_ i9_ hi9_) (fun k9_ => by (rw [rd_leq, y250_, show (fi_ + g_).toNat = (S0_.2.2.1 223 0 c_.toNat + S0_.2.2.1 224 0 c_.toNat).toNat + g_.toNat by omega])) (fun m9_ => ?_); have q9_ := e250_ (by (rw [← n89_]; exact m9_)) i9_ hi9_; rw [← n89_, ← n238_] at q9_; unfold gvl; rw [a0_, a1_, a2_]; first | exact q9_ | (have l3_ : ¬ 3 ≤ krN c_ S0_ g_.toNat := (by omega); rw [decide_eq_false l3_, Bool.false_and] at q9_ ⊢; first | exact q9_ | (have l2_ : ¬ 2 ≤ krN c_ S0_ g_.toNat := (by omega); rw [decide_eq_false l2_, Bool.false_and] at q9_ ⊢; exact q9_)))
                    · omega
                  · have cx36_ : ¬ (fi_ + g_ ≠ stuck) := of_decide_eq_false cx36_
                    refine sm_T_go 2 (c1 := (253, [some (.inr (.inr (some (13, 0)))), some (.inl c_), some (.inl w_), some (.inl stuck), some (.inl pin_), some (.inr (.inl lv_)), none, some (.inl fi_), some (.inl g_), some (.inl (450 * c_ + 3 * g_)), some (.inl (S_.2.2.1 234 0 vx8_.toNat)), some (.inr (.inl (S_.2.2.2 238 0 (S_.2.2.1 230 0 (450 * c_ + 3 * g_).toNat).toNat))), none, some (.inr (.inl (S_.2.2.2 238 0 (S_.2.2.1 230 0 (450 * c_ + 3 * g_ + 1).toNat).toNat))), none, some (.inr (.inl lv_)), none], [.inr (.inl lv_), .inl (fi_ + g_), .inr (.inr (some (238, 0)))], S_)) rfl ?_
                    refine sm_T_last (n := 256) rfl rfl (by omega) (by omega) ?_
                    have hIx52_ : gi (sm_aL S_ 238 0 (fi_ + g_).toNat lv_) := gi_aL hI_
                    have hFx53_ : ai_fr (sx_W vw_430n) S0_ (sm_aL S_ 238 0 (fi_ + g_).toNat lv_) := ai_fr_tr hF_ (ai_fr_aL rfl)
                    refine sm_T_inc (a := 8) (z := 1) (v := g_) (w := g_ + 1) rfl rfl (by omega) (by omega) (by omega) ?_ -- pc_ 254
                    refine sm_T_go 1 (c1 := (58, [some (.inr (.inr (some (13, 0)))), some (.inl c_), some (.inl w_), some (.inl stuck), some (.inl pin_), some (.inr (.inl lv_)), none, some (.inl fi_), some (.inl (g_ + 1)), some (.inl (450 * c_ + 3 * g_)), some (.inl (S_.2.2.1 234 0 vx8_.toNat)), some (.inr (.inl (S_.2.2.2 238 0 (S_.2.2.1 230 0 (450 * c_ + 3 * g_).toNat).toNat))), none, some (.inr (.inl (S_.2.2.2 238 0 (S_.2.2.1 230 0 (450 * c_ + 3 * g_ + 1).toNat).toNat))), none, some (.inr (.inl lv_)), none], [], sm_aL S_ 238 0 (fi_ + g_).toNat lv_)) rfl ?_
                    refine sm_T_wk [some (.inr (.inr (some (13, 0)))), some (.inl c_), some (.inl w_), some (.inl stuck), some (.inl pin_), some (.inr (.inl lv_)), none, some (.inl fi_), some (.inl (g_ + 1)), none, none, none, none, none, none, none, none] (by exact ⟨rfl, rfl, rfl, rfl, rfl, rfl, rfl, rfl, trivial⟩) ?_
                    refine ih_.2 lv_ fi_ (g_ + 1) (sm_aL S_ 238 0 (fi_ + g_).toNat lv_) hIx52_ hFx53_ ⟨?_, ?_, trivial⟩ ?_
                    · omega
                    · first | (exfalso; omega) | (intro i9_ hi9_; rw [show (g_ + 1).toNat = g_.toNat + 1 by omega]; refine kpr_s (hv_ i9_ hi9_) (fun k9_ => by (rw [rd_leq, y250_, show (fi_ + g_).toNat = (S0_.2.2.1 223 0 c_.toNat + S0_.2.2.1 224 0 c_.toNat).toNat + g_.toNat by omega])) (fun m9_ => ?_); have q9_ := e250_ (by (rw [← n89_]; exact m9_)) i9_ hi9_; rw [← n89_, ← n238_] at q9_; unfold gvl; rw [a0_, a1_, a2_]; first | exact q9_ | (have l3_ : ¬ 3 ≤ krN c_ S0_ g_.toNat := (by omega); rw [decide_eq_false l3_, Bool.false_and] at q9_ ⊢; first | exact q9_ | (have l2_ : ¬ 2 ≤ krN c_ S0_ g_.toNat := (by omega); rw [decide_eq_false l2_, Bool.false_and] at q9_ ⊢; exact q9_)))
                    · omega
              · have cx15_ : ¬ (3 ≤ (S_.2.2.1 234 0 vx8_.toNat)) := of_decide_eq_false cx15_
                refine sm_T_go 7 (c1 := (215, [some (.inr (.inr (some (13, 0)))), some (.inl c_), some (.inl w_), some (.inl stuck), some (.inl pin_), some (.inr (.inl lv_)), none, some (.inl fi_), some (.inl g_), some (.inl (450 * c_ + 3 * g_)), some (.inl (S_.2.2.1 234 0 vx8_.toNat)), some (.inr (.inl (S_.2.2.2 238 0 (S_.2.2.1 230 0 (450 * c_ + 3 * g_).toNat).toNat))), none, some (.inr (.inl (S_.2.2.2 238 0 (S_.2.2.1 230 0 (450 * c_ + 3 * g_ + 1).toNat).toNat))), none, some (.inr (.inl 0)), none], [.inl g_, .inl fi_, .inr (.inr (some (238, 0)))], S_)) rfl ?_
                refine sm_T_bin (w := fi_ + g_) rfl (bi_add (by omega) (by omega) (by omega)) ?_ -- pc_ 215
                refine sm_T_go 2 (c1 := (220, [some (.inr (.inr (some (13, 0)))), some (.inl c_), some (.inl w_), some (.inl stuck), some (.inl pin_), some (.inr (.inl lv_)), none, some (.inl fi_), some (.inl g_), some (.inl (450 * c_ + 3 * g_)), some (.inl (S_.2.2.1 234 0 vx8_.toNat)), some (.inr (.inl (S_.2.2.2 238 0 (S_.2.2.1 230 0 (450 * c_ + 3 * g_).toNat).toNat))), none, some (.inr (.inl (S_.2.2.2 238 0 (S_.2.2.1 230 0 (450 * c_ + 3 * g_ + 1).toNat).toNat))), none, some (.inr (.inl 0)), none], [.inl g_, .inl fi_, .inl (fi_ + g_), .inr (.inr (some (238, 0)))], S_)) rfl ?_
                refine sm_T_bin (w := fi_ + g_) rfl (bi_add (by omega) (by omega) (by omega)) ?_ -- pc_ 220
                refine sm_T_go 1 (c1 := (222, [some (.inr (.inr (some (13, 0)))), some (.inl c_), some (.inl w_), some (.inl stuck), some (.inl pin_), some (.inr (.inl lv_)), none, some (.inl fi_), some (.inl g_), some (.inl (450 * c_ + 3 * g_)), some (.inl (S_.2.2.1 234 0 vx8_.toNat)), some (.inr (.inl (S_.2.2.2 238 0 (S_.2.2.1 230 0 (450 * c_ + 3 * g_).toNat).toNat))), none, some (.inr (.inl (S_.2.2.2 238 0 (S_.2.2.1 230 0 (450 * c_ + 3 * g_ + 1).toNat).toNat))), none, some (.inr (.inl 0)), none], [.inl stuck, .inl (fi_ + g_), .inl (fi_ + g_), .inr (.inr (some (238, 0)))], S_)) rfl ?_
                refine sm_T_br (a := 1) (z := 8) rfl (fun cx54_ => ?_) (fun cx54_ => ?_)
                · have cx54_ : fi_ + g_ ≠ stuck := of_decide_eq_true cx54_
                  refine sm_T_go 5 (c1 := (238, [some (.inr (.inr (some (13, 0)))), some (.inl c_), some (.inl w_), some (.inl stuck), some (.inl pin_), some (.inr (.inl lv_)), none, some (.inl fi_), some (.inl g_), some (.inl (450 * c_ + 3 * g_)), some (.inl (S_.2.2.1 234 0 vx8_.toNat)), some (.inr (.inl (S_.2.2.2 238 0 (S_.2.2.1 230 0 (450 * c_ + 3 * g_).toNat).toNat))), none, some (.inr (.inl (S_.2.2.2 238 0 (S_.2.2.1 230 0 (450 * c_ + 3 * g_ + 1).toNat).toNat))), none, some (.inr (.inl 0)), none], [.inl g_, .inl c_, .inr (.inr (some (13, 0))), .inr (.inr (some (235, 0))), .inl (fi_ + g_), .inr (.inr (some (238, 0)))], S_)) rfl ?_
                  refine sm_T_cal (d1 := 0) (Q1 := vq_421 c_ g_ S_) rfl rfl (by decide) (vc_421 c_ g_ S_ hI_ (by omega) (by omega)) (fun u_ Sx55_ px58_ => ?_)
                  obtain ⟨rfl, vx60_, rfl, px58_⟩ := px58_
                  have e238_ := px58_
                  have n238_ : krT c_ S0_ g_.toNat = S_.2.2.1 235 0 (vx60_).toNat := by (rw [← (krX_fr (c_ := c_) hF_).1]; unfold krT; rw [show ((g_.toNat : Nat) : Int) = g_ by omega, ← e238_.2])
                  refine sm_T_iald (n := 48) rfl rfl (by omega) (by omega) ?_
                  have bx61_ : 0 ≤ S_.2.2.1 235 0 vx60_.toNat ∧ S_.2.2.1 235 0 vx60_.toNat ≤ 255 := hI_.2 235 0 _
                  refine sm_T_go 4 (c1 := (250, [some (.inr (.inr (some (13, 0)))), some (.inl c_), some (.inl w_), some (.inl stuck), some (.inl pin_), some (.inr (.inl lv_)), none, some (.inl fi_), some (.inl g_), some (.inl (450 * c_ + 3 * g_)), some (.inl (S_.2.2.1 234 0 vx8_.toNat)), some (.inr (.inl (S_.2.2.2 238 0 (S_.2.2.1 230 0 (450 * c_ + 3 * g_).toNat).toNat))), none, some (.inr (.inl (S_.2.2.2 238 0 (S_.2.2.1 230 0 (450 * c_ + 3 * g_ + 1).toNat).toNat))), none, some (.inr (.inl 0)), none], [.inr (.inl 0), .inr (.inl (S_.2.2.2 238 0 (S_.2.2.1 230 0 (450 * c_ + 3 * g_ + 1).toNat).toNat)), .inr (.inl (S_.2.2.2 238 0 (S_.2.2.1 230 0 (450 * c_ + 3 * g_).toNat).toNat)), .inl (S_.2.2.1 234 0 vx8_.toNat), .inl (S_.2.2.1 235 0 vx60_.toNat), .inl (fi_ + g_), .inr (.inr (some (238, 0)))], S_)) rfl ?_
                  refine sm_T_cal (d1 := 0) (Q1 := vq_429n (S_.2.2.1 235 0 vx60_.toNat) (S_.2.2.1 234 0 vx8_.toNat) ((S_.2.2.2 238 0 (S_.2.2.1 230 0 (450 * c_ + 3 * g_).toNat).toNat)) ((S_.2.2.2 238 0 (S_.2.2.1 230 0 (450 * c_ + 3 * g_ + 1).toNat).toNat)) 0 S_) rfl rfl (by decide) (vc_429n (S_.2.2.1 235 0 vx60_.toNat) (S_.2.2.1 234 0 vx8_.toNat) ((S_.2.2.2 238 0 (S_.2.2.1 230 0 (450 * c_ + 3 * g_).toNat).toNat)) ((S_.2.2.2 238 0 (S_.2.2.1 230 0 (450 * c_ + 3 * g_ + 1).toNat).toNat)) 0 S_ hI_ (by omega) (by omega)) (fun u_ Sx62_ px65_ => ?_)
                  obtain ⟨vx67_, rfl, hIx63_, hFx64_, px65_⟩ := px65_
                  have hFx66_ : ai_fr (sx_W vw_430n) S0_ Sx62_ := ai_fr_tr hF_ (fr_le hFx64_ rfl)
                  have e250_ := px65_
                  have y250_ : Sx62_.2.2.2 238 0 = S_.2.2.2 238 0 := fr_lon (t_ := 238) (i_ := 0) hFx64_ rfl
                  refine sm_T_last (n := 256) rfl rfl (by omega) (by omega) ?_
                  have hIx68_ : gi (sm_aL Sx62_ 238 0 (fi_ + g_).toNat vx67_) := gi_aL hIx63_
                  have hFx69_ : ai_fr (sx_W vw_430n) S0_ (sm_aL Sx62_ 238 0 (fi_ + g_).toNat vx67_) := ai_fr_tr hFx66_ (ai_fr_aL rfl)
                  refine sm_T_inc (a := 8) (z := 1) (v := g_) (w := g_ + 1) rfl rfl (by omega) (by omega) (by omega) ?_ -- pc_ 254
                  refine sm_T_go 1 (c1 := (58, [some (.inr (.inr (some (13, 0)))), some (.inl c_), some (.inl w_), some (.inl stuck), some (.inl pin_), some (.inr (.inl lv_)), none, some (.inl fi_), some (.inl (g_ + 1)), some (.inl (450 * c_ + 3 * g_)), some (.inl (S_.2.2.1 234 0 vx8_.toNat)), some (.inr (.inl (S_.2.2.2 238 0 (S_.2.2.1 230 0 (450 * c_ + 3 * g_).toNat).toNat))), none, some (.inr (.inl (S_.2.2.2 238 0 (S_.2.2.1 230 0 (450 * c_ + 3 * g_ + 1).toNat).toNat))), none, some (.inr (.inl 0)), none], [], sm_aL Sx62_ 238 0 (fi_ + g_).toNat vx67_)) rfl ?_
                  refine sm_T_wk [some (.inr (.inr (some (13, 0)))), some (.inl c_), some (.inl w_), some (.inl stuck), some (.inl pin_), some (.inr (.inl lv_)), none, some (.inl fi_), some (.inl (g_ + 1)), none, none, none, none, none, none, none, none] (by exact ⟨rfl, rfl, rfl, rfl, rfl, rfl, rfl, rfl, trivial⟩) ?_
                  refine ih_.2 lv_ fi_ (g_ + 1) (sm_aL Sx62_ 238 0 (fi_ + g_).toNat vx67_) hIx68_ hFx69_ ⟨?_, ?_, trivial⟩ ?_
                  · omega
                  · first | (exfalso; omega) | (intro i9_ hi9_; rw [show (g_ + 1).toNat = g_.toNat + 1 by omega]; refine kpr_s (hv_ i9_ hi9_) (fun k9_ => by (rw [rd_leq, y250_, show (fi_ + g_).toNat = (S0_.2.2.1 223 0 c_.toNat + S0_.2.2.1 224 0 c_.toNat).toNat + g_.toNat by omega])) (fun m9_ => ?_); have q9_ := e250_ (by (rw [← n89_]; exact m9_)) i9_ hi9_; rw [← n89_, ← n238_] at q9_; unfold gvl; rw [a0_, a1_, a2_]; first | exact q9_ | (have l3_ : ¬ 3 ≤ krN c_ S0_ g_.toNat := (by omega); rw [decide_eq_false l3_, Bool.false_and] at q9_ ⊢; first | exact q9_ | (have l2_ : ¬ 2 ≤ krN c_ S0_ g_.toNat := (by omega); rw [decide_eq_false l2_, Bool.false_and] at q9_ ⊢; exact q9_)))
                  · omega
                · have cx54_ : ¬ (fi_ + g_ ≠ stuck) := of_decide_eq_false cx54_
                  refine sm_T_go 2 (c1 := (253, [some (.inr (.inr (some (13, 0)))), some (.inl c_), some (.inl w_), some (.inl stuck), some (.inl pin_), some (.inr (.inl lv_)), none, some (.inl fi_), some (.inl g_), some (.inl (450 * c_ + 3 * g_)), some (.inl (S_.2.2.1 234 0 vx8_.toNat)), some (.inr (.inl (S_.2.2.2 238 0 (S_.2.2.1 230 0 (450 * c_ + 3 * g_).toNat).toNat))), none, some (.inr (.inl (S_.2.2.2 238 0 (S_.2.2.1 230 0 (450 * c_ + 3 * g_ + 1).toNat).toNat))), none, some (.inr (.inl 0)), none], [.inr (.inl lv_), .inl (fi_ + g_), .inr (.inr (some (238, 0)))], S_)) rfl ?_
                  refine sm_T_last (n := 256) rfl rfl (by omega) (by omega) ?_
                  have hIx70_ : gi (sm_aL S_ 238 0 (fi_ + g_).toNat lv_) := gi_aL hI_
                  have hFx71_ : ai_fr (sx_W vw_430n) S0_ (sm_aL S_ 238 0 (fi_ + g_).toNat lv_) := ai_fr_tr hF_ (ai_fr_aL rfl)
                  refine sm_T_inc (a := 8) (z := 1) (v := g_) (w := g_ + 1) rfl rfl (by omega) (by omega) (by omega) ?_ -- pc_ 254
                  refine sm_T_go 1 (c1 := (58, [some (.inr (.inr (some (13, 0)))), some (.inl c_), some (.inl w_), some (.inl stuck), some (.inl pin_), some (.inr (.inl lv_)), none, some (.inl fi_), some (.inl (g_ + 1)), some (.inl (450 * c_ + 3 * g_)), some (.inl (S_.2.2.1 234 0 vx8_.toNat)), some (.inr (.inl (S_.2.2.2 238 0 (S_.2.2.1 230 0 (450 * c_ + 3 * g_).toNat).toNat))), none, some (.inr (.inl (S_.2.2.2 238 0 (S_.2.2.1 230 0 (450 * c_ + 3 * g_ + 1).toNat).toNat))), none, some (.inr (.inl 0)), none], [], sm_aL S_ 238 0 (fi_ + g_).toNat lv_)) rfl ?_
                  refine sm_T_wk [some (.inr (.inr (some (13, 0)))), some (.inl c_), some (.inl w_), some (.inl stuck), some (.inl pin_), some (.inr (.inl lv_)), none, some (.inl fi_), some (.inl (g_ + 1)), none, none, none, none, none, none, none, none] (by exact ⟨rfl, rfl, rfl, rfl, rfl, rfl, rfl, rfl, trivial⟩) ?_
                  refine ih_.2 lv_ fi_ (g_ + 1) (sm_aL S_ 238 0 (fi_ + g_).toNat lv_) hIx70_ hFx71_ ⟨?_, ?_, trivial⟩ ?_
                  · omega
                  · first | (exfalso; omega) | (intro i9_ hi9_; rw [show (g_ + 1).toNat = g_.toNat + 1 by omega]; refine kpr_s (hv_ i9_ hi9_) (fun k9_ => by (rw [rd_leq, y250_, show (fi_ + g_).toNat = (S0_.2.2.1 223 0 c_.toNat + S0_.2.2.1 224 0 c_.toNat).toNat + g_.toNat by omega])) (fun m9_ => ?_); have q9_ := e250_ (by (rw [← n89_]; exact m9_)) i9_ hi9_; rw [← n89_, ← n238_] at q9_; unfold gvl; rw [a0_, a1_, a2_]; first | exact q9_ | (have l3_ : ¬ 3 ≤ krN c_ S0_ g_.toNat := (by omega); rw [decide_eq_false l3_, Bool.false_and] at q9_ ⊢; first | exact q9_ | (have l2_ : ¬ 2 ≤ krN c_ S0_ g_.toNat := (by omega); rw [decide_eq_false l2_, Bool.false_and] at q9_ ⊢; exact q9_)))
                  · omega
            · have cx13_ : ¬ (pin_ ≠ 3 * g_ + 1) := of_decide_eq_false cx13_
              refine sm_T_go 5 (c1 := (168, [some (.inr (.inr (some (13, 0)))), some (.inl c_), some (.inl w_), some (.inl stuck), some (.inl pin_), some (.inr (.inl lv_)), none, some (.inl fi_), some (.inl g_), some (.inl (450 * c_ + 3 * g_)), some (.inl (S_.2.2.1 234 0 vx8_.toNat)), some (.inr (.inl (S_.2.2.2 238 0 (S_.2.2.1 230 0 (450 * c_ + 3 * g_).toNat).toNat))), none, some (.inr (.inl lv_)), none, none, none], [.inl 3, .inl (S_.2.2.1 234 0 vx8_.toNat)], S_)) rfl ?_
              refine sm_T_br (a := 3) (z := 7) rfl (fun cx72_ => ?_) (fun cx72_ => ?_)
              · have cx72_ : 3 ≤ (S_.2.2.1 234 0 vx8_.toNat) := of_decide_eq_true cx72_
                have G2_ := hg9_ g_ (by omega) (by omega) 2 (by decide) (by decide) (Or.inr (by rw [← e89_.2]; omega))
                rw [f223_, f224_] at G2_
                refine sm_T_go 3 (c1 := (180, [some (.inr (.inr (some (13, 0)))), some (.inl c_), some (.inl w_), some (.inl stuck), some (.inl pin_), some (.inr (.inl lv_)), none, some (.inl fi_), some (.inl g_), some (.inl (450 * c_ + 3 * g_)), some (.inl (S_.2.2.1 234 0 vx8_.toNat)), some (.inr (.inl (S_.2.2.2 238 0 (S_.2.2.1 230 0 (450 * c_ + 3 * g_).toNat).toNat))), none, some (.inr (.inl lv_)), none, none, none], [.inl g_, .inl 3, .inl pin_], S_)) rfl ?_
                refine sm_T_bin (w := 3 * g_) rfl (bi_mul (by omega) (by omega) (by omega)) ?_ -- pc_ 180
                refine sm_T_go 1 (c1 := (182, [some (.inr (.inr (some (13, 0)))), some (.inl c_), some (.inl w_), some (.inl stuck), some (.inl pin_), some (.inr (.inl lv_)), none, some (.inl fi_), some (.inl g_), some (.inl (450 * c_ + 3 * g_)), some (.inl (S_.2.2.1 234 0 vx8_.toNat)), some (.inr (.inl (S_.2.2.2 238 0 (S_.2.2.1 230 0 (450 * c_ + 3 * g_).toNat).toNat))), none, some (.inr (.inl lv_)), none, none, none], [.inl 2, .inl (3 * g_), .inl pin_], S_)) rfl ?_
                refine sm_T_bin (w := 3 * g_ + 2) rfl (bi_add (by omega) (by omega) (by omega)) ?_ -- pc_ 182
                refine sm_T_br (a := 1) (z := 8) rfl (fun cx73_ => ?_) (fun cx73_ => ?_)
                · have cx73_ : pin_ ≠ 3 * g_ + 2 := of_decide_eq_true cx73_
                  refine sm_T_go 6 (c1 := (202, [some (.inr (.inr (some (13, 0)))), some (.inl c_), some (.inl w_), some (.inl stuck), some (.inl pin_), some (.inr (.inl lv_)), none, some (.inl fi_), some (.inl g_), some (.inl (450 * c_ + 3 * g_)), some (.inl (S_.2.2.1 234 0 vx8_.toNat)), some (.inr (.inl (S_.2.2.2 238 0 (S_.2.2.1 230 0 (450 * c_ + 3 * g_).toNat).toNat))), none, some (.inr (.inl lv_)), none, none, none], [.inl 2, .inl (450 * c_ + 3 * g_), .inr (.inr (some (230, 0))), .inr (.inr (some (238, 0)))], S_)) rfl ?_
                  refine sm_T_bin (w := 450 * c_ + 3 * g_ + 2) rfl (bi_add (by omega) (by omega) (by omega)) ?_ -- pc_ 202
                  refine sm_T_iald (n := 1800) rfl rfl (by omega) (by omega) ?_
                  have bx74_ : (-1) ≤ S_.2.2.1 230 0 (450 * c_ + 3 * g_ + 2).toNat ∧ S_.2.2.1 230 0 (450 * c_ + 3 * g_ + 2).toNat ≤ 161 := hI_.2 230 0 _
                  refine sm_T_lald (n := 256) rfl rfl (by omega) (by omega) ?_
                  refine sm_T_go 5 (c1 := (215, [some (.inr (.inr (some (13, 0)))), some (.inl c_), some (.inl w_), some (.inl stuck), some (.inl pin_), some (.inr (.inl lv_)), none, some (.inl fi_), some (.inl g_), some (.inl (450 * c_ + 3 * g_)), some (.inl (S_.2.2.1 234 0 vx8_.toNat)), some (.inr (.inl (S_.2.2.2 238 0 (S_.2.2.1 230 0 (450 * c_ + 3 * g_).toNat).toNat))), none, some (.inr (.inl lv_)), none, some (.inr (.inl (S_.2.2.2 238 0 (S_.2.2.1 230 0 (450 * c_ + 3 * g_ + 2).toNat).toNat))), none], [.inl g_, .inl fi_, .inr (.inr (some (238, 0)))], S_)) rfl ?_
                  refine sm_T_bin (w := fi_ + g_) rfl (bi_add (by omega) (by omega) (by omega)) ?_ -- pc_ 215
                  refine sm_T_go 2 (c1 := (220, [some (.inr (.inr (some (13, 0)))), some (.inl c_), some (.inl w_), some (.inl stuck), some (.inl pin_), some (.inr (.inl lv_)), none, some (.inl fi_), some (.inl g_), some (.inl (450 * c_ + 3 * g_)), some (.inl (S_.2.2.1 234 0 vx8_.toNat)), some (.inr (.inl (S_.2.2.2 238 0 (S_.2.2.1 230 0 (450 * c_ + 3 * g_).toNat).toNat))), none, some (.inr (.inl lv_)), none, some (.inr (.inl (S_.2.2.2 238 0 (S_.2.2.1 230 0 (450 * c_ + 3 * g_ + 2).toNat).toNat))), none], [.inl g_, .inl fi_, .inl (fi_ + g_), .inr (.inr (some (238, 0)))], S_)) rfl ?_
                  refine sm_T_bin (w := fi_ + g_) rfl (bi_add (by omega) (by omega) (by omega)) ?_ -- pc_ 220
                  refine sm_T_go 1 (c1 := (222, [some (.inr (.inr (some (13, 0)))), some (.inl c_), some (.inl w_), some (.inl stuck), some (.inl pin_), some (.inr (.inl lv_)), none, some (.inl fi_), some (.inl g_), some (.inl (450 * c_ + 3 * g_)), some (.inl (S_.2.2.1 234 0 vx8_.toNat)), some (.inr (.inl (S_.2.2.2 238 0 (S_.2.2.1 230 0 (450 * c_ + 3 * g_).toNat).toNat))), none, some (.inr (.inl lv_)), none, some (.inr (.inl (S_.2.2.2 238 0 (S_.2.2.1 230 0 (450 * c_ + 3 * g_ + 2).toNat).toNat))), none], [.inl stuck, .inl (fi_ + g_), .inl (fi_ + g_), .inr (.inr (some (238, 0)))], S_)) rfl ?_
                  refine sm_T_br (a := 1) (z := 8) rfl (fun cx75_ => ?_) (fun cx75_ => ?_)
                  · have cx75_ : fi_ + g_ ≠ stuck := of_decide_eq_true cx75_
                    refine sm_T_go 5 (c1 := (238, [some (.inr (.inr (some (13, 0)))), some (.inl c_), some (.inl w_), some (.inl stuck), some (.inl pin_), some (.inr (.inl lv_)), none, some (.inl fi_), some (.inl g_), some (.inl (450 * c_ + 3 * g_)), some (.inl (S_.2.2.1 234 0 vx8_.toNat)), some (.inr (.inl (S_.2.2.2 238 0 (S_.2.2.1 230 0 (450 * c_ + 3 * g_).toNat).toNat))), none, some (.inr (.inl lv_)), none, some (.inr (.inl (S_.2.2.2 238 0 (S_.2.2.1 230 0 (450 * c_ + 3 * g_ + 2).toNat).toNat))), none], [.inl g_, .inl c_, .inr (.inr (some (13, 0))), .inr (.inr (some (235, 0))), .inl (fi_ + g_), .inr (.inr (some (238, 0)))], S_)) rfl ?_
                    refine sm_T_cal (d1 := 0) (Q1 := vq_421 c_ g_ S_) rfl rfl (by decide) (vc_421 c_ g_ S_ hI_ (by omega) (by omega)) (fun u_ Sx76_ px79_ => ?_)
                    obtain ⟨rfl, vx81_, rfl, px79_⟩ := px79_
                    have e238_ := px79_
                    have n238_ : krT c_ S0_ g_.toNat = S_.2.2.1 235 0 (vx81_).toNat := by (rw [← (krX_fr (c_ := c_) hF_).1]; unfold krT; rw [show ((g_.toNat : Nat) : Int) = g_ by omega, ← e238_.2])
                    refine sm_T_iald (n := 48) rfl rfl (by omega) (by omega) ?_
                    have bx82_ : 0 ≤ S_.2.2.1 235 0 vx81_.toNat ∧ S_.2.2.1 235 0 vx81_.toNat ≤ 255 := hI_.2 235 0 _
                    refine sm_T_go 4 (c1 := (250, [some (.inr (.inr (some (13, 0)))), some (.inl c_), some (.inl w_), some (.inl stuck), some (.inl pin_), some (.inr (.inl lv_)), none, some (.inl fi_), some (.inl g_), some (.inl (450 * c_ + 3 * g_)), some (.inl (S_.2.2.1 234 0 vx8_.toNat)), some (.inr (.inl (S_.2.2.2 238 0 (S_.2.2.1 230 0 (450 * c_ + 3 * g_).toNat).toNat))), none, some (.inr (.inl lv_)), none, some (.inr (.inl (S_.2.2.2 238 0 (S_.2.2.1 230 0 (450 * c_ + 3 * g_ + 2).toNat).toNat))), none], [.inr (.inl (S_.2.2.2 238 0 (S_.2.2.1 230 0 (450 * c_ + 3 * g_ + 2).toNat).toNat)), .inr (.inl lv_), .inr (.inl (S_.2.2.2 238 0 (S_.2.2.1 230 0 (450 * c_ + 3 * g_).toNat).toNat)), .inl (S_.2.2.1 234 0 vx8_.toNat), .inl (S_.2.2.1 235 0 vx81_.toNat), .inl (fi_ + g_), .inr (.inr (some (238, 0)))], S_)) rfl ?_
                    refine sm_T_cal (d1 := 0) (Q1 := vq_429n (S_.2.2.1 235 0 vx81_.toNat) (S_.2.2.1 234 0 vx8_.toNat) ((S_.2.2.2 238 0 (S_.2.2.1 230 0 (450 * c_ + 3 * g_).toNat).toNat)) lv_ ((S_.2.2.2 238 0 (S_.2.2.1 230 0 (450 * c_ + 3 * g_ + 2).toNat).toNat)) S_) rfl rfl (by decide) (vc_429n (S_.2.2.1 235 0 vx81_.toNat) (S_.2.2.1 234 0 vx8_.toNat) ((S_.2.2.2 238 0 (S_.2.2.1 230 0 (450 * c_ + 3 * g_).toNat).toNat)) lv_ ((S_.2.2.2 238 0 (S_.2.2.1 230 0 (450 * c_ + 3 * g_ + 2).toNat).toNat)) S_ hI_ (by omega) (by omega)) (fun u_ Sx83_ px86_ => ?_)
                    obtain ⟨vx88_, rfl, hIx84_, hFx85_, px86_⟩ := px86_
                    have hFx87_ : ai_fr (sx_W vw_430n) S0_ Sx83_ := ai_fr_tr hF_ (fr_le hFx85_ rfl)
                    have e250_ := px86_
                    have y250_ : Sx83_.2.2.2 238 0 = S_.2.2.2 238 0 := fr_lon (t_ := 238) (i_ := 0) hFx85_ rfl
                    refine sm_T_last (n := 256) rfl rfl (by omega) (by omega) ?_
                    have hIx89_ : gi (sm_aL Sx83_ 238 0 (fi_ + g_).toNat vx88_) := gi_aL hIx84_
                    have hFx90_ : ai_fr (sx_W vw_430n) S0_ (sm_aL Sx83_ 238 0 (fi_ + g_).toNat vx88_) := ai_fr_tr hFx87_ (ai_fr_aL rfl)
                    refine sm_T_inc (a := 8) (z := 1) (v := g_) (w := g_ + 1) rfl rfl (by omega) (by omega) (by omega) ?_ -- pc_ 254
                    refine sm_T_go 1 (c1 := (58, [some (.inr (.inr (some (13, 0)))), some (.inl c_), some (.inl w_), some (.inl stuck), some (.inl pin_), some (.inr (.inl lv_)), none, some (.inl fi_), some (.inl (g_ + 1)), some (.inl (450 * c_ + 3 * g_)), some (.inl (S_.2.2.1 234 0 vx8_.toNat)), some (.inr (.inl (S_.2.2.2 238 0 (S_.2.2.1 230 0 (450 * c_ + 3 * g_).toNat).toNat))), none, some (.inr (.inl lv_)), none, some (.inr (.inl (S_.2.2.2 238 0 (S_.2.2.1 230 0 (450 * c_ + 3 * g_ + 2).toNat).toNat))), none], [], sm_aL Sx83_ 238 0 (fi_ + g_).toNat vx88_)) rfl ?_
                    refine sm_T_wk [some (.inr (.inr (some (13, 0)))), some (.inl c_), some (.inl w_), some (.inl stuck), some (.inl pin_), some (.inr (.inl lv_)), none, some (.inl fi_), some (.inl (g_ + 1)), none, none, none, none, none, none, none, none] (by exact ⟨rfl, rfl, rfl, rfl, rfl, rfl, rfl, rfl, trivial⟩) ?_
                    refine ih_.2 lv_ fi_ (g_ + 1) (sm_aL Sx83_ 238 0 (fi_ + g_).toNat vx88_) hIx89_ hFx90_ ⟨?_, ?_, trivial⟩ ?_
                    · omega
                    · first | (exfalso; omega) | (intro i9_ hi9_; rw [show (g_ + 1).toNat = g_.toNat + 1 by omega]; refine kpr_s (hv_ i9_ hi9_) (fun k9_ => by (rw [rd_leq, y250_, show (fi_ + g_).toNat = (S0_.2.2.1 223 0 c_.toNat + S0_.2.2.1 224 0 c_.toNat).toNat + g_.toNat by omega])) (fun m9_ => ?_); have q9_ := e250_ (by (rw [← n89_]; exact m9_)) i9_ hi9_; rw [← n89_, ← n238_] at q9_; unfold gvl; rw [a0_, a1_, a2_]; first | exact q9_ | (have l3_ : ¬ 3 ≤ krN c_ S0_ g_.toNat := (by omega); rw [decide_eq_false l3_, Bool.false_and] at q9_ ⊢; first | exact q9_ | (have l2_ : ¬ 2 ≤ krN c_ S0_ g_.toNat := (by omega); rw [decide_eq_false l2_, Bool.false_and] at q9_ ⊢; exact q9_)))
                    · omega
                  · have cx75_ : ¬ (fi_ + g_ ≠ stuck) := of_decide_eq_false cx75_
                    refine sm_T_go 2 (c1 := (253, [some (.inr (.inr (some (13, 0)))), some (.inl c_), some (.inl w_), some (.inl stuck), some (.inl pin_), some (.inr (.inl lv_)), none, some (.inl fi_), some (.inl g_), some (.inl (450 * c_ + 3 * g_)), some (.inl (S_.2.2.1 234 0 vx8_.toNat)), some (.inr (.inl (S_.2.2.2 238 0 (S_.2.2.1 230 0 (450 * c_ + 3 * g_).toNat).toNat))), none, some (.inr (.inl lv_)), none, some (.inr (.inl (S_.2.2.2 238 0 (S_.2.2.1 230 0 (450 * c_ + 3 * g_ + 2).toNat).toNat))), none], [.inr (.inl lv_), .inl (fi_ + g_), .inr (.inr (some (238, 0)))], S_)) rfl ?_
                    refine sm_T_last (n := 256) rfl rfl (by omega) (by omega) ?_
                    have hIx91_ : gi (sm_aL S_ 238 0 (fi_ + g_).toNat lv_) := gi_aL hI_
                    have hFx92_ : ai_fr (sx_W vw_430n) S0_ (sm_aL S_ 238 0 (fi_ + g_).toNat lv_) := ai_fr_tr hF_ (ai_fr_aL rfl)
                    refine sm_T_inc (a := 8) (z := 1) (v := g_) (w := g_ + 1) rfl rfl (by omega) (by omega) (by omega) ?_ -- pc_ 254
                    refine sm_T_go 1 (c1 := (58, [some (.inr (.inr (some (13, 0)))), some (.inl c_), some (.inl w_), some (.inl stuck), some (.inl pin_), some (.inr (.inl lv_)), none, some (.inl fi_), some (.inl (g_ + 1)), some (.inl (450 * c_ + 3 * g_)), some (.inl (S_.2.2.1 234 0 vx8_.toNat)), some (.inr (.inl (S_.2.2.2 238 0 (S_.2.2.1 230 0 (450 * c_ + 3 * g_).toNat).toNat))), none, some (.inr (.inl lv_)), none, some (.inr (.inl (S_.2.2.2 238 0 (S_.2.2.1 230 0 (450 * c_ + 3 * g_ + 2).toNat).toNat))), none], [], sm_aL S_ 238 0 (fi_ + g_).toNat lv_)) rfl ?_
                    refine sm_T_wk [some (.inr (.inr (some (13, 0)))), some (.inl c_), some (.inl w_), some (.inl stuck), some (.inl pin_), some (.inr (.inl lv_)), none, some (.inl fi_), some (.inl (g_ + 1)), none, none, none, none, none, none, none, none] (by exact ⟨rfl, rfl, rfl, rfl, rfl, rfl, rfl, rfl, trivial⟩) ?_
                    refine ih_.2 lv_ fi_ (g_ + 1) (sm_aL S_ 238 0 (fi_ + g_).toNat lv_) hIx91_ hFx92_ ⟨?_, ?_, trivial⟩ ?_
                    · omega
                    · first | (exfalso; omega) | (intro i9_ hi9_; rw [show (g_ + 1).toNat = g_.toNat + 1 by omega]; refine kpr_s (hv_ i9_ hi9_) (fun k9_ => by (rw [rd_leq, y250_, show (fi_ + g_).toNat = (S0_.2.2.1 223 0 c_.toNat + S0_.2.2.1 224 0 c_.toNat).toNat + g_.toNat by omega])) (fun m9_ => ?_); have q9_ := e250_ (by (rw [← n89_]; exact m9_)) i9_ hi9_; rw [← n89_, ← n238_] at q9_; unfold gvl; rw [a0_, a1_, a2_]; first | exact q9_ | (have l3_ : ¬ 3 ≤ krN c_ S0_ g_.toNat := (by omega); rw [decide_eq_false l3_, Bool.false_and] at q9_ ⊢; first | exact q9_ | (have l2_ : ¬ 2 ≤ krN c_ S0_ g_.toNat := (by omega); rw [decide_eq_false l2_, Bool.false_and] at q9_ ⊢; exact q9_)))
                    · omega
                · have cx73_ : ¬ (pin_ ≠ 3 * g_ + 2) := of_decide_eq_false cx73_
                  exfalso; omega
              · have cx72_ : ¬ (3 ≤ (S_.2.2.1 234 0 vx8_.toNat)) := of_decide_eq_false cx72_
                refine sm_T_go 7 (c1 := (215, [some (.inr (.inr (some (13, 0)))), some (.inl c_), some (.inl w_), some (.inl stuck), some (.inl pin_), some (.inr (.inl lv_)), none, some (.inl fi_), some (.inl g_), some (.inl (450 * c_ + 3 * g_)), some (.inl (S_.2.2.1 234 0 vx8_.toNat)), some (.inr (.inl (S_.2.2.2 238 0 (S_.2.2.1 230 0 (450 * c_ + 3 * g_).toNat).toNat))), none, some (.inr (.inl lv_)), none, some (.inr (.inl 0)), none], [.inl g_, .inl fi_, .inr (.inr (some (238, 0)))], S_)) rfl ?_
                refine sm_T_bin (w := fi_ + g_) rfl (bi_add (by omega) (by omega) (by omega)) ?_ -- pc_ 215
                refine sm_T_go 2 (c1 := (220, [some (.inr (.inr (some (13, 0)))), some (.inl c_), some (.inl w_), some (.inl stuck), some (.inl pin_), some (.inr (.inl lv_)), none, some (.inl fi_), some (.inl g_), some (.inl (450 * c_ + 3 * g_)), some (.inl (S_.2.2.1 234 0 vx8_.toNat)), some (.inr (.inl (S_.2.2.2 238 0 (S_.2.2.1 230 0 (450 * c_ + 3 * g_).toNat).toNat))), none, some (.inr (.inl lv_)), none, some (.inr (.inl 0)), none], [.inl g_, .inl fi_, .inl (fi_ + g_), .inr (.inr (some (238, 0)))], S_)) rfl ?_
                refine sm_T_bin (w := fi_ + g_) rfl (bi_add (by omega) (by omega) (by omega)) ?_ -- pc_ 220
                refine sm_T_go 1 (c1 := (222, [some (.inr (.inr (some (13, 0)))), some (.inl c_), some (.inl w_), some (.inl stuck), some (.inl pin_), some (.inr (.inl lv_)), none, some (.inl fi_), some (.inl g_), some (.inl (450 * c_ + 3 * g_)), some (.inl (S_.2.2.1 234 0 vx8_.toNat)), some (.inr (.inl (S_.2.2.2 238 0 (S_.2.2.1 230 0 (450 * c_ + 3 * g_).toNat).toNat))), none, some (.inr (.inl lv_)), none, some (.inr (.inl 0)), none], [.inl stuck, .inl (fi_ + g_), .inl (fi_ + g_), .inr (.inr (some (238, 0)))], S_)) rfl ?_
                refine sm_T_br (a := 1) (z := 8) rfl (fun cx93_ => ?_) (fun cx93_ => ?_)
                · have cx93_ : fi_ + g_ ≠ stuck := of_decide_eq_true cx93_
                  refine sm_T_go 5 (c1 := (238, [some (.inr (.inr (some (13, 0)))), some (.inl c_), some (.inl w_), some (.inl stuck), some (.inl pin_), some (.inr (.inl lv_)), none, some (.inl fi_), some (.inl g_), some (.inl (450 * c_ + 3 * g_)), some (.inl (S_.2.2.1 234 0 vx8_.toNat)), some (.inr (.inl (S_.2.2.2 238 0 (S_.2.2.1 230 0 (450 * c_ + 3 * g_).toNat).toNat))), none, some (.inr (.inl lv_)), none, some (.inr (.inl 0)), none], [.inl g_, .inl c_, .inr (.inr (some (13, 0))), .inr (.inr (some (235, 0))), .inl (fi_ + g_), .inr (.inr (some (238, 0)))], S_)) rfl ?_
                  refine sm_T_cal (d1 := 0) (Q1 := vq_421 c_ g_ S_) rfl rfl (by decide) (vc_421 c_ g_ S_ hI_ (by omega) (by omega)) (fun u_ Sx94_ px97_ => ?_)
                  obtain ⟨rfl, vx99_, rfl, px97_⟩ := px97_
                  have e238_ := px97_
                  have n238_ : krT c_ S0_ g_.toNat = S_.2.2.1 235 0 (vx99_).toNat := by (rw [← (krX_fr (c_ := c_) hF_).1]; unfold krT; rw [show ((g_.toNat : Nat) : Int) = g_ by omega, ← e238_.2])
                  refine sm_T_iald (n := 48) rfl rfl (by omega) (by omega) ?_
                  have bx100_ : 0 ≤ S_.2.2.1 235 0 vx99_.toNat ∧ S_.2.2.1 235 0 vx99_.toNat ≤ 255 := hI_.2 235 0 _
                  refine sm_T_go 4 (c1 := (250, [some (.inr (.inr (some (13, 0)))), some (.inl c_), some (.inl w_), some (.inl stuck), some (.inl pin_), some (.inr (.inl lv_)), none, some (.inl fi_), some (.inl g_), some (.inl (450 * c_ + 3 * g_)), some (.inl (S_.2.2.1 234 0 vx8_.toNat)), some (.inr (.inl (S_.2.2.2 238 0 (S_.2.2.1 230 0 (450 * c_ + 3 * g_).toNat).toNat))), none, some (.inr (.inl lv_)), none, some (.inr (.inl 0)), none], [.inr (.inl 0), .inr (.inl lv_), .inr (.inl (S_.2.2.2 238 0 (S_.2.2.1 230 0 (450 * c_ + 3 * g_).toNat).toNat)), .inl (S_.2.2.1 234 0 vx8_.toNat), .inl (S_.2.2.1 235 0 vx99_.toNat), .inl (fi_ + g_), .inr (.inr (some (238, 0)))], S_)) rfl ?_
                  refine sm_T_cal (d1 := 0) (Q1 := vq_429n (S_.2.2.1 235 0 vx99_.toNat) (S_.2.2.1 234 0 vx8_.toNat) ((S_.2.2.2 238 0 (S_.2.2.1 230 0 (450 * c_ + 3 * g_).toNat).toNat)) lv_ 0 S_) rfl rfl (by decide) (vc_429n (S_.2.2.1 235 0 vx99_.toNat) (S_.2.2.1 234 0 vx8_.toNat) ((S_.2.2.2 238 0 (S_.2.2.1 230 0 (450 * c_ + 3 * g_).toNat).toNat)) lv_ 0 S_ hI_ (by omega) (by omega)) (fun u_ Sx101_ px104_ => ?_)
                  obtain ⟨vx106_, rfl, hIx102_, hFx103_, px104_⟩ := px104_
                  have hFx105_ : ai_fr (sx_W vw_430n) S0_ Sx101_ := ai_fr_tr hF_ (fr_le hFx103_ rfl)
                  have e250_ := px104_
                  have y250_ : Sx101_.2.2.2 238 0 = S_.2.2.2 238 0 := fr_lon (t_ := 238) (i_ := 0) hFx103_ rfl
                  refine sm_T_last (n := 256) rfl rfl (by omega) (by omega) ?_
                  have hIx107_ : gi (sm_aL Sx101_ 238 0 (fi_ + g_).toNat vx106_) := gi_aL hIx102_
                  have hFx108_ : ai_fr (sx_W vw_430n) S0_ (sm_aL Sx101_ 238 0 (fi_ + g_).toNat vx106_) := ai_fr_tr hFx105_ (ai_fr_aL rfl)
                  refine sm_T_inc (a := 8) (z := 1) (v := g_) (w := g_ + 1) rfl rfl (by omega) (by omega) (by omega) ?_ -- pc_ 254
                  refine sm_T_go 1 (c1 := (58, [some (.inr (.inr (some (13, 0)))), some (.inl c_), some (.inl w_), some (.inl stuck), some (.inl pin_), some (.inr (.inl lv_)), none, some (.inl fi_), some (.inl (g_ + 1)), some (.inl (450 * c_ + 3 * g_)), some (.inl (S_.2.2.1 234 0 vx8_.toNat)), some (.inr (.inl (S_.2.2.2 238 0 (S_.2.2.1 230 0 (450 * c_ + 3 * g_).toNat).toNat))), none, some (.inr (.inl lv_)), none, some (.inr (.inl 0)), none], [], sm_aL Sx101_ 238 0 (fi_ + g_).toNat vx106_)) rfl ?_
                  refine sm_T_wk [some (.inr (.inr (some (13, 0)))), some (.inl c_), some (.inl w_), some (.inl stuck), some (.inl pin_), some (.inr (.inl lv_)), none, some (.inl fi_), some (.inl (g_ + 1)), none, none, none, none, none, none, none, none] (by exact ⟨rfl, rfl, rfl, rfl, rfl, rfl, rfl, rfl, trivial⟩) ?_
                  refine ih_.2 lv_ fi_ (g_ + 1) (sm_aL Sx101_ 238 0 (fi_ + g_).toNat vx106_) hIx107_ hFx108_ ⟨?_, ?_, trivial⟩ ?_
                  · omega
                  · first | (exfalso; omega) | (intro i9_ hi9_; rw [show (g_ + 1).toNat = g_.toNat + 1 by omega]; refine kpr_s (hv_ i9_ hi9_) (fun k9_ => by (rw [rd_leq, y250_, show (fi_ + g_).toNat = (S0_.2.2.1 223 0 c_.toNat + S0_.2.2.1 224 0 c_.toNat).toNat + g_.toNat by omega])) (fun m9_ => ?_); have q9_ := e250_ (by (rw [← n89_]; exact m9_)) i9_ hi9_; rw [← n89_, ← n238_] at q9_; unfold gvl; rw [a0_, a1_, a2_]; first | exact q9_ | (have l3_ : ¬ 3 ≤ krN c_ S0_ g_.toNat := (by omega); rw [decide_eq_false l3_, Bool.false_and] at q9_ ⊢; first | exact q9_ | (have l2_ : ¬ 2 ≤ krN c_ S0_ g_.toNat := (by omega); rw [decide_eq_false l2_, Bool.false_and] at q9_ ⊢; exact q9_)))
                  · omega
                · have cx93_ : ¬ (fi_ + g_ ≠ stuck) := of_decide_eq_false cx93_
                  refine sm_T_go 2 (c1 := (253, [some (.inr (.inr (some (13, 0)))), some (.inl c_), some (.inl w_), some (.inl stuck), some (.inl pin_), some (.inr (.inl lv_)), none, some (.inl fi_), some (.inl g_), some (.inl (450 * c_ + 3 * g_)), some (.inl (S_.2.2.1 234 0 vx8_.toNat)), some (.inr (.inl (S_.2.2.2 238 0 (S_.2.2.1 230 0 (450 * c_ + 3 * g_).toNat).toNat))), none, some (.inr (.inl lv_)), none, some (.inr (.inl 0)), none], [.inr (.inl lv_), .inl (fi_ + g_), .inr (.inr (some (238, 0)))], S_)) rfl ?_
                  refine sm_T_last (n := 256) rfl rfl (by omega) (by omega) ?_
                  have hIx109_ : gi (sm_aL S_ 238 0 (fi_ + g_).toNat lv_) := gi_aL hI_
                  have hFx110_ : ai_fr (sx_W vw_430n) S0_ (sm_aL S_ 238 0 (fi_ + g_).toNat lv_) := ai_fr_tr hF_ (ai_fr_aL rfl)
                  refine sm_T_inc (a := 8) (z := 1) (v := g_) (w := g_ + 1) rfl rfl (by omega) (by omega) (by omega) ?_ -- pc_ 254
                  refine sm_T_go 1 (c1 := (58, [some (.inr (.inr (some (13, 0)))), some (.inl c_), some (.inl w_), some (.inl stuck), some (.inl pin_), some (.inr (.inl lv_)), none, some (.inl fi_), some (.inl (g_ + 1)), some (.inl (450 * c_ + 3 * g_)), some (.inl (S_.2.2.1 234 0 vx8_.toNat)), some (.inr (.inl (S_.2.2.2 238 0 (S_.2.2.1 230 0 (450 * c_ + 3 * g_).toNat).toNat))), none, some (.inr (.inl lv_)), none, some (.inr (.inl 0)), none], [], sm_aL S_ 238 0 (fi_ + g_).toNat lv_)) rfl ?_
                  refine sm_T_wk [some (.inr (.inr (some (13, 0)))), some (.inl c_), some (.inl w_), some (.inl stuck), some (.inl pin_), some (.inr (.inl lv_)), none, some (.inl fi_), some (.inl (g_ + 1)), none, none, none, none, none, none, none, none] (by exact ⟨rfl, rfl, rfl, rfl, rfl, rfl, rfl, rfl, trivial⟩) ?_
                  refine ih_.2 lv_ fi_ (g_ + 1) (sm_aL S_ 238 0 (fi_ + g_).toNat lv_) hIx109_ hFx110_ ⟨?_, ?_, trivial⟩ ?_
                  · omega
                  · first | (exfalso; omega) | (intro i9_ hi9_; rw [show (g_ + 1).toNat = g_.toNat + 1 by omega]; refine kpr_s (hv_ i9_ hi9_) (fun k9_ => by (rw [rd_leq, y250_, show (fi_ + g_).toNat = (S0_.2.2.1 223 0 c_.toNat + S0_.2.2.1 224 0 c_.toNat).toNat + g_.toNat by omega])) (fun m9_ => ?_); have q9_ := e250_ (by (rw [← n89_]; exact m9_)) i9_ hi9_; rw [← n89_, ← n238_] at q9_; unfold gvl; rw [a0_, a1_, a2_]; first | exact q9_ | (have l3_ : ¬ 3 ≤ krN c_ S0_ g_.toNat := (by omega); rw [decide_eq_false l3_, Bool.false_and] at q9_ ⊢; first | exact q9_ | (have l2_ : ¬ 2 ≤ krN c_ S0_ g_.toNat := (by omega); rw [decide_eq_false l2_, Bool.false_and] at q9_ ⊢; exact q9_)))
                  · omega
          · have cx12_ : ¬ (2 ≤ (S_.2.2.1 234 0 vx8_.toNat)) := of_decide_eq_false cx12_
            refine sm_T_go 5 (c1 := (168, [some (.inr (.inr (some (13, 0)))), some (.inl c_), some (.inl w_), some (.inl stuck), some (.inl pin_), some (.inr (.inl lv_)), none, some (.inl fi_), some (.inl g_), some (.inl (450 * c_ + 3 * g_)), some (.inl (S_.2.2.1 234 0 vx8_.toNat)), some (.inr (.inl (S_.2.2.2 238 0 (S_.2.2.1 230 0 (450 * c_ + 3 * g_).toNat).toNat))), none, some (.inr (.inl 0)), none, none, none], [.inl 3, .inl (S_.2.2.1 234 0 vx8_.toNat)], S_)) rfl ?_
            refine sm_T_br (a := 3) (z := 7) rfl (fun cx111_ => ?_) (fun cx111_ => ?_)
            · have cx111_ : 3 ≤ (S_.2.2.1 234 0 vx8_.toNat) := of_decide_eq_true cx111_
              exfalso; omega
            · have cx111_ : ¬ (3 ≤ (S_.2.2.1 234 0 vx8_.toNat)) := of_decide_eq_false cx111_
              refine sm_T_go 7 (c1 := (215, [some (.inr (.inr (some (13, 0)))), some (.inl c_), some (.inl w_), some (.inl stuck), some (.inl pin_), some (.inr (.inl lv_)), none, some (.inl fi_), some (.inl g_), some (.inl (450 * c_ + 3 * g_)), some (.inl (S_.2.2.1 234 0 vx8_.toNat)), some (.inr (.inl (S_.2.2.2 238 0 (S_.2.2.1 230 0 (450 * c_ + 3 * g_).toNat).toNat))), none, some (.inr (.inl 0)), none, some (.inr (.inl 0)), none], [.inl g_, .inl fi_, .inr (.inr (some (238, 0)))], S_)) rfl ?_
              refine sm_T_bin (w := fi_ + g_) rfl (bi_add (by omega) (by omega) (by omega)) ?_ -- pc_ 215
              refine sm_T_go 2 (c1 := (220, [some (.inr (.inr (some (13, 0)))), some (.inl c_), some (.inl w_), some (.inl stuck), some (.inl pin_), some (.inr (.inl lv_)), none, some (.inl fi_), some (.inl g_), some (.inl (450 * c_ + 3 * g_)), some (.inl (S_.2.2.1 234 0 vx8_.toNat)), some (.inr (.inl (S_.2.2.2 238 0 (S_.2.2.1 230 0 (450 * c_ + 3 * g_).toNat).toNat))), none, some (.inr (.inl 0)), none, some (.inr (.inl 0)), none], [.inl g_, .inl fi_, .inl (fi_ + g_), .inr (.inr (some (238, 0)))], S_)) rfl ?_
              refine sm_T_bin (w := fi_ + g_) rfl (bi_add (by omega) (by omega) (by omega)) ?_ -- pc_ 220
              refine sm_T_go 1 (c1 := (222, [some (.inr (.inr (some (13, 0)))), some (.inl c_), some (.inl w_), some (.inl stuck), some (.inl pin_), some (.inr (.inl lv_)), none, some (.inl fi_), some (.inl g_), some (.inl (450 * c_ + 3 * g_)), some (.inl (S_.2.2.1 234 0 vx8_.toNat)), some (.inr (.inl (S_.2.2.2 238 0 (S_.2.2.1 230 0 (450 * c_ + 3 * g_).toNat).toNat))), none, some (.inr (.inl 0)), none, some (.inr (.inl 0)), none], [.inl stuck, .inl (fi_ + g_), .inl (fi_ + g_), .inr (.inr (some (238, 0)))], S_)) rfl ?_
              refine sm_T_br (a := 1) (z := 8) rfl (fun cx112_ => ?_) (fun cx112_ => ?_)
              · have cx112_ : fi_ + g_ ≠ stuck := of_decide_eq_true cx112_
                refine sm_T_go 5 (c1 := (238, [some (.inr (.inr (some (13, 0)))), some (.inl c_), some (.inl w_), some (.inl stuck), some (.inl pin_), some (.inr (.inl lv_)), none, some (.inl fi_), some (.inl g_), some (.inl (450 * c_ + 3 * g_)), some (.inl (S_.2.2.1 234 0 vx8_.toNat)), some (.inr (.inl (S_.2.2.2 238 0 (S_.2.2.1 230 0 (450 * c_ + 3 * g_).toNat).toNat))), none, some (.inr (.inl 0)), none, some (.inr (.inl 0)), none], [.inl g_, .inl c_, .inr (.inr (some (13, 0))), .inr (.inr (some (235, 0))), .inl (fi_ + g_), .inr (.inr (some (238, 0)))], S_)) rfl ?_
                refine sm_T_cal (d1 := 0) (Q1 := vq_421 c_ g_ S_) rfl rfl (by decide) (vc_421 c_ g_ S_ hI_ (by omega) (by omega)) (fun u_ Sx113_ px116_ => ?_)
                obtain ⟨rfl, vx118_, rfl, px116_⟩ := px116_
                have e238_ := px116_
                have n238_ : krT c_ S0_ g_.toNat = S_.2.2.1 235 0 (vx118_).toNat := by (rw [← (krX_fr (c_ := c_) hF_).1]; unfold krT; rw [show ((g_.toNat : Nat) : Int) = g_ by omega, ← e238_.2])
                refine sm_T_iald (n := 48) rfl rfl (by omega) (by omega) ?_
                have bx119_ : 0 ≤ S_.2.2.1 235 0 vx118_.toNat ∧ S_.2.2.1 235 0 vx118_.toNat ≤ 255 := hI_.2 235 0 _
                refine sm_T_go 4 (c1 := (250, [some (.inr (.inr (some (13, 0)))), some (.inl c_), some (.inl w_), some (.inl stuck), some (.inl pin_), some (.inr (.inl lv_)), none, some (.inl fi_), some (.inl g_), some (.inl (450 * c_ + 3 * g_)), some (.inl (S_.2.2.1 234 0 vx8_.toNat)), some (.inr (.inl (S_.2.2.2 238 0 (S_.2.2.1 230 0 (450 * c_ + 3 * g_).toNat).toNat))), none, some (.inr (.inl 0)), none, some (.inr (.inl 0)), none], [.inr (.inl 0), .inr (.inl 0), .inr (.inl (S_.2.2.2 238 0 (S_.2.2.1 230 0 (450 * c_ + 3 * g_).toNat).toNat)), .inl (S_.2.2.1 234 0 vx8_.toNat), .inl (S_.2.2.1 235 0 vx118_.toNat), .inl (fi_ + g_), .inr (.inr (some (238, 0)))], S_)) rfl ?_
                refine sm_T_cal (d1 := 0) (Q1 := vq_429n (S_.2.2.1 235 0 vx118_.toNat) (S_.2.2.1 234 0 vx8_.toNat) ((S_.2.2.2 238 0 (S_.2.2.1 230 0 (450 * c_ + 3 * g_).toNat).toNat)) 0 0 S_) rfl rfl (by decide) (vc_429n (S_.2.2.1 235 0 vx118_.toNat) (S_.2.2.1 234 0 vx8_.toNat) ((S_.2.2.2 238 0 (S_.2.2.1 230 0 (450 * c_ + 3 * g_).toNat).toNat)) 0 0 S_ hI_ (by omega) (by omega)) (fun u_ Sx120_ px123_ => ?_)
                obtain ⟨vx125_, rfl, hIx121_, hFx122_, px123_⟩ := px123_
                have hFx124_ : ai_fr (sx_W vw_430n) S0_ Sx120_ := ai_fr_tr hF_ (fr_le hFx122_ rfl)
                have e250_ := px123_
                have y250_ : Sx120_.2.2.2 238 0 = S_.2.2.2 238 0 := fr_lon (t_ := 238) (i_ := 0) hFx122_ rfl
                refine sm_T_last (n := 256) rfl rfl (by omega) (by omega) ?_
                have hIx126_ : gi (sm_aL Sx120_ 238 0 (fi_ + g_).toNat vx125_) := gi_aL hIx121_
                have hFx127_ : ai_fr (sx_W vw_430n) S0_ (sm_aL Sx120_ 238 0 (fi_ + g_).toNat vx125_) := ai_fr_tr hFx124_ (ai_fr_aL rfl)
                refine sm_T_inc (a := 8) (z := 1) (v := g_) (w := g_ + 1) rfl rfl (by omega) (by omega) (by omega) ?_ -- pc_ 254
                refine sm_T_go 1 (c1 := (58, [some (.inr (.inr (some (13, 0)))), some (.inl c_), some (.inl w_), some (.inl stuck), some (.inl pin_), some (.inr (.inl lv_)), none, some (.inl fi_), some (.inl (g_ + 1)), some (.inl (450 * c_ + 3 * g_)), some (.inl (S_.2.2.1 234 0 vx8_.toNat)), some (.inr (.inl (S_.2.2.2 238 0 (S_.2.2.1 230 0 (450 * c_ + 3 * g_).toNat).toNat))), none, some (.inr (.inl 0)), none, some (.inr (.inl 0)), none], [], sm_aL Sx120_ 238 0 (fi_ + g_).toNat vx125_)) rfl ?_
                refine sm_T_wk [some (.inr (.inr (some (13, 0)))), some (.inl c_), some (.inl w_), some (.inl stuck), some (.inl pin_), some (.inr (.inl lv_)), none, some (.inl fi_), some (.inl (g_ + 1)), none, none, none, none, none, none, none, none] (by exact ⟨rfl, rfl, rfl, rfl, rfl, rfl, rfl, rfl, trivial⟩) ?_
                refine ih_.2 lv_ fi_ (g_ + 1) (sm_aL Sx120_ 238 0 (fi_ + g_).toNat vx125_) hIx126_ hFx127_ ⟨?_, ?_, trivial⟩ ?_
                · omega
                · first | (exfalso; omega) | (intro i9_ hi9_; rw [show (g_ + 1).toNat = g_.toNat + 1 by omega]; refine kpr_s (hv_ i9_ hi9_) (fun k9_ => by (rw [rd_leq, y250_, show (fi_ + g_).toNat = (S0_.2.2.1 223 0 c_.toNat + S0_.2.2.1 224 0 c_.toNat).toNat + g_.toNat by omega])) (fun m9_ => ?_); have q9_ := e250_ (by (rw [← n89_]; exact m9_)) i9_ hi9_; rw [← n89_, ← n238_] at q9_; unfold gvl; rw [a0_, a1_, a2_]; first | exact q9_ | (have l3_ : ¬ 3 ≤ krN c_ S0_ g_.toNat := (by omega); rw [decide_eq_false l3_, Bool.false_and] at q9_ ⊢; first | exact q9_ | (have l2_ : ¬ 2 ≤ krN c_ S0_ g_.toNat := (by omega); rw [decide_eq_false l2_, Bool.false_and] at q9_ ⊢; exact q9_)))
                · omega
              · have cx112_ : ¬ (fi_ + g_ ≠ stuck) := of_decide_eq_false cx112_
                refine sm_T_go 2 (c1 := (253, [some (.inr (.inr (some (13, 0)))), some (.inl c_), some (.inl w_), some (.inl stuck), some (.inl pin_), some (.inr (.inl lv_)), none, some (.inl fi_), some (.inl g_), some (.inl (450 * c_ + 3 * g_)), some (.inl (S_.2.2.1 234 0 vx8_.toNat)), some (.inr (.inl (S_.2.2.2 238 0 (S_.2.2.1 230 0 (450 * c_ + 3 * g_).toNat).toNat))), none, some (.inr (.inl 0)), none, some (.inr (.inl 0)), none], [.inr (.inl lv_), .inl (fi_ + g_), .inr (.inr (some (238, 0)))], S_)) rfl ?_
                refine sm_T_last (n := 256) rfl rfl (by omega) (by omega) ?_
                have hIx128_ : gi (sm_aL S_ 238 0 (fi_ + g_).toNat lv_) := gi_aL hI_
                have hFx129_ : ai_fr (sx_W vw_430n) S0_ (sm_aL S_ 238 0 (fi_ + g_).toNat lv_) := ai_fr_tr hF_ (ai_fr_aL rfl)
                refine sm_T_inc (a := 8) (z := 1) (v := g_) (w := g_ + 1) rfl rfl (by omega) (by omega) (by omega) ?_ -- pc_ 254
                refine sm_T_go 1 (c1 := (58, [some (.inr (.inr (some (13, 0)))), some (.inl c_), some (.inl w_), some (.inl stuck), some (.inl pin_), some (.inr (.inl lv_)), none, some (.inl fi_), some (.inl (g_ + 1)), some (.inl (450 * c_ + 3 * g_)), some (.inl (S_.2.2.1 234 0 vx8_.toNat)), some (.inr (.inl (S_.2.2.2 238 0 (S_.2.2.1 230 0 (450 * c_ + 3 * g_).toNat).toNat))), none, some (.inr (.inl 0)), none, some (.inr (.inl 0)), none], [], sm_aL S_ 238 0 (fi_ + g_).toNat lv_)) rfl ?_
                refine sm_T_wk [some (.inr (.inr (some (13, 0)))), some (.inl c_), some (.inl w_), some (.inl stuck), some (.inl pin_), some (.inr (.inl lv_)), none, some (.inl fi_), some (.inl (g_ + 1)), none, none, none, none, none, none, none, none] (by exact ⟨rfl, rfl, rfl, rfl, rfl, rfl, rfl, rfl, trivial⟩) ?_
                refine ih_.2 lv_ fi_ (g_ + 1) (sm_aL S_ 238 0 (fi_ + g_).toNat lv_) hIx128_ hFx129_ ⟨?_, ?_, trivial⟩ ?_
                · omega
                · first | (exfalso; omega) | (intro i9_ hi9_; rw [show (g_ + 1).toNat = g_.toNat + 1 by omega]; refine kpr_s (hv_ i9_ hi9_) (fun k9_ => by (rw [rd_leq, y250_, show (fi_ + g_).toNat = (S0_.2.2.1 223 0 c_.toNat + S0_.2.2.1 224 0 c_.toNat).toNat + g_.toNat by omega])) (fun m9_ => ?_); have q9_ := e250_ (by (rw [← n89_]; exact m9_)) i9_ hi9_; rw [← n89_, ← n238_] at q9_; unfold gvl; rw [a0_, a1_, a2_]; first | exact q9_ | (have l3_ : ¬ 3 ≤ krN c_ S0_ g_.toNat := (by omega); rw [decide_eq_false l3_, Bool.false_and] at q9_ ⊢; first | exact q9_ | (have l2_ : ¬ 2 ≤ krN c_ S0_ g_.toNat := (by omega); rw [decide_eq_false l2_, Bool.false_and] at q9_ ⊢; exact q9_)))
                · omega
        · have cx10_ : ¬ (pin_ ≠ 3 * g_) := of_decide_eq_false cx10_
          refine sm_T_go 5 (c1 := (126, [some (.inr (.inr (some (13, 0)))), some (.inl c_), some (.inl w_), some (.inl stuck), some (.inl pin_), some (.inr (.inl lv_)), none, some (.inl fi_), some (.inl g_), some (.inl (450 * c_ + 3 * g_)), some (.inl (S_.2.2.1 234 0 vx8_.toNat)), some (.inr (.inl lv_)), none, none, none, none, none], [.inl 2, .inl (S_.2.2.1 234 0 vx8_.toNat)], S_)) rfl ?_
          refine sm_T_br (a := 3) (z := 7) rfl (fun cx130_ => ?_) (fun cx130_ => ?_)
          · have cx130_ : 2 ≤ (S_.2.2.1 234 0 vx8_.toNat) := of_decide_eq_true cx130_
            have G1_ := hg9_ g_ (by omega) (by omega) 1 (by decide) (by decide) (Or.inr (by rw [← e89_.2]; omega))
            rw [f223_, f224_] at G1_
            refine sm_T_go 3 (c1 := (138, [some (.inr (.inr (some (13, 0)))), some (.inl c_), some (.inl w_), some (.inl stuck), some (.inl pin_), some (.inr (.inl lv_)), none, some (.inl fi_), some (.inl g_), some (.inl (450 * c_ + 3 * g_)), some (.inl (S_.2.2.1 234 0 vx8_.toNat)), some (.inr (.inl lv_)), none, none, none, none, none], [.inl g_, .inl 3, .inl pin_], S_)) rfl ?_
            refine sm_T_bin (w := 3 * g_) rfl (bi_mul (by omega) (by omega) (by omega)) ?_ -- pc_ 138
            refine sm_T_go 1 (c1 := (140, [some (.inr (.inr (some (13, 0)))), some (.inl c_), some (.inl w_), some (.inl stuck), some (.inl pin_), some (.inr (.inl lv_)), none, some (.inl fi_), some (.inl g_), some (.inl (450 * c_ + 3 * g_)), some (.inl (S_.2.2.1 234 0 vx8_.toNat)), some (.inr (.inl lv_)), none, none, none, none, none], [.inl 1, .inl (3 * g_), .inl pin_], S_)) rfl ?_
            refine sm_T_bin (w := 3 * g_ + 1) rfl (bi_add (by omega) (by omega) (by omega)) ?_ -- pc_ 140
            refine sm_T_br (a := 1) (z := 8) rfl (fun cx131_ => ?_) (fun cx131_ => ?_)
            · have cx131_ : pin_ ≠ 3 * g_ + 1 := of_decide_eq_true cx131_
              refine sm_T_go 6 (c1 := (160, [some (.inr (.inr (some (13, 0)))), some (.inl c_), some (.inl w_), some (.inl stuck), some (.inl pin_), some (.inr (.inl lv_)), none, some (.inl fi_), some (.inl g_), some (.inl (450 * c_ + 3 * g_)), some (.inl (S_.2.2.1 234 0 vx8_.toNat)), some (.inr (.inl lv_)), none, none, none, none, none], [.inl 1, .inl (450 * c_ + 3 * g_), .inr (.inr (some (230, 0))), .inr (.inr (some (238, 0)))], S_)) rfl ?_
              refine sm_T_bin (w := 450 * c_ + 3 * g_ + 1) rfl (bi_add (by omega) (by omega) (by omega)) ?_ -- pc_ 160
              refine sm_T_iald (n := 1800) rfl rfl (by omega) (by omega) ?_
              have bx132_ : (-1) ≤ S_.2.2.1 230 0 (450 * c_ + 3 * g_ + 1).toNat ∧ S_.2.2.1 230 0 (450 * c_ + 3 * g_ + 1).toNat ≤ 161 := hI_.2 230 0 _
              refine sm_T_lald (n := 256) rfl rfl (by omega) (by omega) ?_
              refine sm_T_go 3 (c1 := (168, [some (.inr (.inr (some (13, 0)))), some (.inl c_), some (.inl w_), some (.inl stuck), some (.inl pin_), some (.inr (.inl lv_)), none, some (.inl fi_), some (.inl g_), some (.inl (450 * c_ + 3 * g_)), some (.inl (S_.2.2.1 234 0 vx8_.toNat)), some (.inr (.inl lv_)), none, some (.inr (.inl (S_.2.2.2 238 0 (S_.2.2.1 230 0 (450 * c_ + 3 * g_ + 1).toNat).toNat))), none, none, none], [.inl 3, .inl (S_.2.2.1 234 0 vx8_.toNat)], S_)) rfl ?_
              refine sm_T_br (a := 3) (z := 7) rfl (fun cx133_ => ?_) (fun cx133_ => ?_)
              · have cx133_ : 3 ≤ (S_.2.2.1 234 0 vx8_.toNat) := of_decide_eq_true cx133_
                have G2_ := hg9_ g_ (by omega) (by omega) 2 (by decide) (by decide) (Or.inr (by rw [← e89_.2]; omega))
                rw [f223_, f224_] at G2_
                refine sm_T_go 3 (c1 := (180, [some (.inr (.inr (some (13, 0)))), some (.inl c_), some (.inl w_), some (.inl stuck), some (.inl pin_), some (.inr (.inl lv_)), none, some (.inl fi_), some (.inl g_), some (.inl (450 * c_ + 3 * g_)), some (.inl (S_.2.2.1 234 0 vx8_.toNat)), some (.inr (.inl lv_)), none, some (.inr (.inl (S_.2.2.2 238 0 (S_.2.2.1 230 0 (450 * c_ + 3 * g_ + 1).toNat).toNat))), none, none, none], [.inl g_, .inl 3, .inl pin_], S_)) rfl ?_
                refine sm_T_bin (w := 3 * g_) rfl (bi_mul (by omega) (by omega) (by omega)) ?_ -- pc_ 180
                refine sm_T_go 1 (c1 := (182, [some (.inr (.inr (some (13, 0)))), some (.inl c_), some (.inl w_), some (.inl stuck), some (.inl pin_), some (.inr (.inl lv_)), none, some (.inl fi_), some (.inl g_), some (.inl (450 * c_ + 3 * g_)), some (.inl (S_.2.2.1 234 0 vx8_.toNat)), some (.inr (.inl lv_)), none, some (.inr (.inl (S_.2.2.2 238 0 (S_.2.2.1 230 0 (450 * c_ + 3 * g_ + 1).toNat).toNat))), none, none, none], [.inl 2, .inl (3 * g_), .inl pin_], S_)) rfl ?_
                refine sm_T_bin (w := 3 * g_ + 2) rfl (bi_add (by omega) (by omega) (by omega)) ?_ -- pc_ 182
                refine sm_T_br (a := 1) (z := 8) rfl (fun cx134_ => ?_) (fun cx134_ => ?_)
                · have cx134_ : pin_ ≠ 3 * g_ + 2 := of_decide_eq_true cx134_
                  refine sm_T_go 6 (c1 := (202, [some (.inr (.inr (some (13, 0)))), some (.inl c_), some (.inl w_), some (.inl stuck), some (.inl pin_), some (.inr (.inl lv_)), none, some (.inl fi_), some (.inl g_), some (.inl (450 * c_ + 3 * g_)), some (.inl (S_.2.2.1 234 0 vx8_.toNat)), some (.inr (.inl lv_)), none, some (.inr (.inl (S_.2.2.2 238 0 (S_.2.2.1 230 0 (450 * c_ + 3 * g_ + 1).toNat).toNat))), none, none, none], [.inl 2, .inl (450 * c_ + 3 * g_), .inr (.inr (some (230, 0))), .inr (.inr (some (238, 0)))], S_)) rfl ?_
                  refine sm_T_bin (w := 450 * c_ + 3 * g_ + 2) rfl (bi_add (by omega) (by omega) (by omega)) ?_ -- pc_ 202
                  refine sm_T_iald (n := 1800) rfl rfl (by omega) (by omega) ?_
                  have bx135_ : (-1) ≤ S_.2.2.1 230 0 (450 * c_ + 3 * g_ + 2).toNat ∧ S_.2.2.1 230 0 (450 * c_ + 3 * g_ + 2).toNat ≤ 161 := hI_.2 230 0 _
                  refine sm_T_lald (n := 256) rfl rfl (by omega) (by omega) ?_
                  refine sm_T_go 5 (c1 := (215, [some (.inr (.inr (some (13, 0)))), some (.inl c_), some (.inl w_), some (.inl stuck), some (.inl pin_), some (.inr (.inl lv_)), none, some (.inl fi_), some (.inl g_), some (.inl (450 * c_ + 3 * g_)), some (.inl (S_.2.2.1 234 0 vx8_.toNat)), some (.inr (.inl lv_)), none, some (.inr (.inl (S_.2.2.2 238 0 (S_.2.2.1 230 0 (450 * c_ + 3 * g_ + 1).toNat).toNat))), none, some (.inr (.inl (S_.2.2.2 238 0 (S_.2.2.1 230 0 (450 * c_ + 3 * g_ + 2).toNat).toNat))), none], [.inl g_, .inl fi_, .inr (.inr (some (238, 0)))], S_)) rfl ?_
                  refine sm_T_bin (w := fi_ + g_) rfl (bi_add (by omega) (by omega) (by omega)) ?_ -- pc_ 215
                  refine sm_T_go 2 (c1 := (220, [some (.inr (.inr (some (13, 0)))), some (.inl c_), some (.inl w_), some (.inl stuck), some (.inl pin_), some (.inr (.inl lv_)), none, some (.inl fi_), some (.inl g_), some (.inl (450 * c_ + 3 * g_)), some (.inl (S_.2.2.1 234 0 vx8_.toNat)), some (.inr (.inl lv_)), none, some (.inr (.inl (S_.2.2.2 238 0 (S_.2.2.1 230 0 (450 * c_ + 3 * g_ + 1).toNat).toNat))), none, some (.inr (.inl (S_.2.2.2 238 0 (S_.2.2.1 230 0 (450 * c_ + 3 * g_ + 2).toNat).toNat))), none], [.inl g_, .inl fi_, .inl (fi_ + g_), .inr (.inr (some (238, 0)))], S_)) rfl ?_
                  refine sm_T_bin (w := fi_ + g_) rfl (bi_add (by omega) (by omega) (by omega)) ?_ -- pc_ 220
                  refine sm_T_go 1 (c1 := (222, [some (.inr (.inr (some (13, 0)))), some (.inl c_), some (.inl w_), some (.inl stuck), some (.inl pin_), some (.inr (.inl lv_)), none, some (.inl fi_), some (.inl g_), some (.inl (450 * c_ + 3 * g_)), some (.inl (S_.2.2.1 234 0 vx8_.toNat)), some (.inr (.inl lv_)), none, some (.inr (.inl (S_.2.2.2 238 0 (S_.2.2.1 230 0 (450 * c_ + 3 * g_ + 1).toNat).toNat))), none, some (.inr (.inl (S_.2.2.2 238 0 (S_.2.2.1 230 0 (450 * c_ + 3 * g_ + 2).toNat).toNat))), none], [.inl stuck, .inl (fi_ + g_), .inl (fi_ + g_), .inr (.inr (some (238, 0)))], S_)) rfl ?_
                  refine sm_T_br (a := 1) (z := 8) rfl (fun cx136_ => ?_) (fun cx136_ => ?_)
                  · have cx136_ : fi_ + g_ ≠ stuck := of_decide_eq_true cx136_
                    refine sm_T_go 5 (c1 := (238, [some (.inr (.inr (some (13, 0)))), some (.inl c_), some (.inl w_), some (.inl stuck), some (.inl pin_), some (.inr (.inl lv_)), none, some (.inl fi_), some (.inl g_), some (.inl (450 * c_ + 3 * g_)), some (.inl (S_.2.2.1 234 0 vx8_.toNat)), some (.inr (.inl lv_)), none, some (.inr (.inl (S_.2.2.2 238 0 (S_.2.2.1 230 0 (450 * c_ + 3 * g_ + 1).toNat).toNat))), none, some (.inr (.inl (S_.2.2.2 238 0 (S_.2.2.1 230 0 (450 * c_ + 3 * g_ + 2).toNat).toNat))), none], [.inl g_, .inl c_, .inr (.inr (some (13, 0))), .inr (.inr (some (235, 0))), .inl (fi_ + g_), .inr (.inr (some (238, 0)))], S_)) rfl ?_
                    refine sm_T_cal (d1 := 0) (Q1 := vq_421 c_ g_ S_) rfl rfl (by decide) (vc_421 c_ g_ S_ hI_ (by omega) (by omega)) (fun u_ Sx137_ px140_ => ?_)
                    obtain ⟨rfl, vx142_, rfl, px140_⟩ := px140_
                    have e238_ := px140_
                    have n238_ : krT c_ S0_ g_.toNat = S_.2.2.1 235 0 (vx142_).toNat := by (rw [← (krX_fr (c_ := c_) hF_).1]; unfold krT; rw [show ((g_.toNat : Nat) : Int) = g_ by omega, ← e238_.2])
                    refine sm_T_iald (n := 48) rfl rfl (by omega) (by omega) ?_
                    have bx143_ : 0 ≤ S_.2.2.1 235 0 vx142_.toNat ∧ S_.2.2.1 235 0 vx142_.toNat ≤ 255 := hI_.2 235 0 _
                    refine sm_T_go 4 (c1 := (250, [some (.inr (.inr (some (13, 0)))), some (.inl c_), some (.inl w_), some (.inl stuck), some (.inl pin_), some (.inr (.inl lv_)), none, some (.inl fi_), some (.inl g_), some (.inl (450 * c_ + 3 * g_)), some (.inl (S_.2.2.1 234 0 vx8_.toNat)), some (.inr (.inl lv_)), none, some (.inr (.inl (S_.2.2.2 238 0 (S_.2.2.1 230 0 (450 * c_ + 3 * g_ + 1).toNat).toNat))), none, some (.inr (.inl (S_.2.2.2 238 0 (S_.2.2.1 230 0 (450 * c_ + 3 * g_ + 2).toNat).toNat))), none], [.inr (.inl (S_.2.2.2 238 0 (S_.2.2.1 230 0 (450 * c_ + 3 * g_ + 2).toNat).toNat)), .inr (.inl (S_.2.2.2 238 0 (S_.2.2.1 230 0 (450 * c_ + 3 * g_ + 1).toNat).toNat)), .inr (.inl lv_), .inl (S_.2.2.1 234 0 vx8_.toNat), .inl (S_.2.2.1 235 0 vx142_.toNat), .inl (fi_ + g_), .inr (.inr (some (238, 0)))], S_)) rfl ?_
                    refine sm_T_cal (d1 := 0) (Q1 := vq_429n (S_.2.2.1 235 0 vx142_.toNat) (S_.2.2.1 234 0 vx8_.toNat) lv_ ((S_.2.2.2 238 0 (S_.2.2.1 230 0 (450 * c_ + 3 * g_ + 1).toNat).toNat)) ((S_.2.2.2 238 0 (S_.2.2.1 230 0 (450 * c_ + 3 * g_ + 2).toNat).toNat)) S_) rfl rfl (by decide) (vc_429n (S_.2.2.1 235 0 vx142_.toNat) (S_.2.2.1 234 0 vx8_.toNat) lv_ ((S_.2.2.2 238 0 (S_.2.2.1 230 0 (450 * c_ + 3 * g_ + 1).toNat).toNat)) ((S_.2.2.2 238 0 (S_.2.2.1 230 0 (450 * c_ + 3 * g_ + 2).toNat).toNat)) S_ hI_ (by omega) (by omega)) (fun u_ Sx144_ px147_ => ?_)
                    obtain ⟨vx149_, rfl, hIx145_, hFx146_, px147_⟩ := px147_
                    have hFx148_ : ai_fr (sx_W vw_430n) S0_ Sx144_ := ai_fr_tr hF_ (fr_le hFx146_ rfl)
                    have e250_ := px147_
                    have y250_ : Sx144_.2.2.2 238 0 = S_.2.2.2 238 0 := fr_lon (t_ := 238) (i_ := 0) hFx146_ rfl
                    refine sm_T_last (n := 256) rfl rfl (by omega) (by omega) ?_
                    have hIx150_ : gi (sm_aL Sx144_ 238 0 (fi_ + g_).toNat vx149_) := gi_aL hIx145_
                    have hFx151_ : ai_fr (sx_W vw_430n) S0_ (sm_aL Sx144_ 238 0 (fi_ + g_).toNat vx149_) := ai_fr_tr hFx148_ (ai_fr_aL rfl)
                    refine sm_T_inc (a := 8) (z := 1) (v := g_) (w := g_ + 1) rfl rfl (by omega) (by omega) (by omega) ?_ -- pc_ 254
                    refine sm_T_go 1 (c1 := (58, [some (.inr (.inr (some (13, 0)))), some (.inl c_), some (.inl w_), some (.inl stuck), some (.inl pin_), some (.inr (.inl lv_)), none, some (.inl fi_), some (.inl (g_ + 1)), some (.inl (450 * c_ + 3 * g_)), some (.inl (S_.2.2.1 234 0 vx8_.toNat)), some (.inr (.inl lv_)), none, some (.inr (.inl (S_.2.2.2 238 0 (S_.2.2.1 230 0 (450 * c_ + 3 * g_ + 1).toNat).toNat))), none, some (.inr (.inl (S_.2.2.2 238 0 (S_.2.2.1 230 0 (450 * c_ + 3 * g_ + 2).toNat).toNat))), none], [], sm_aL Sx144_ 238 0 (fi_ + g_).toNat vx149_)) rfl ?_
                    refine sm_T_wk [some (.inr (.inr (some (13, 0)))), some (.inl c_), some (.inl w_), some (.inl stuck), some (.inl pin_), some (.inr (.inl lv_)), none, some (.inl fi_), some (.inl (g_ + 1)), none, none, none, none, none, none, none, none] (by exact ⟨rfl, rfl, rfl, rfl, rfl, rfl, rfl, rfl, trivial⟩) ?_
                    refine ih_.2 lv_ fi_ (g_ + 1) (sm_aL Sx144_ 238 0 (fi_ + g_).toNat vx149_) hIx150_ hFx151_ ⟨?_, ?_, trivial⟩ ?_
                    · omega
                    · first | (exfalso; omega) | (intro i9_ hi9_; rw [show (g_ + 1).toNat = g_.toNat + 1 by omega]; refine kpr_s (hv_ i9_ hi9_) (fun k9_ => by (rw [rd_leq, y250_, show (fi_ + g_).toNat = (S0_.2.2.1 223 0 c_.toNat + S0_.2.2.1 224 0 c_.toNat).toNat + g_.toNat by omega])) (fun m9_ => ?_); have q9_ := e250_ (by (rw [← n89_]; exact m9_)) i9_ hi9_; rw [← n89_, ← n238_] at q9_; unfold gvl; rw [a0_, a1_, a2_]; first | exact q9_ | (have l3_ : ¬ 3 ≤ krN c_ S0_ g_.toNat := (by omega); rw [decide_eq_false l3_, Bool.false_and] at q9_ ⊢; first | exact q9_ | (have l2_ : ¬ 2 ≤ krN c_ S0_ g_.toNat := (by omega); rw [decide_eq_false l2_, Bool.false_and] at q9_ ⊢; exact q9_)))
                    · omega
                  · have cx136_ : ¬ (fi_ + g_ ≠ stuck) := of_decide_eq_false cx136_
                    refine sm_T_go 2 (c1 := (253, [some (.inr (.inr (some (13, 0)))), some (.inl c_), some (.inl w_), some (.inl stuck), some (.inl pin_), some (.inr (.inl lv_)), none, some (.inl fi_), some (.inl g_), some (.inl (450 * c_ + 3 * g_)), some (.inl (S_.2.2.1 234 0 vx8_.toNat)), some (.inr (.inl lv_)), none, some (.inr (.inl (S_.2.2.2 238 0 (S_.2.2.1 230 0 (450 * c_ + 3 * g_ + 1).toNat).toNat))), none, some (.inr (.inl (S_.2.2.2 238 0 (S_.2.2.1 230 0 (450 * c_ + 3 * g_ + 2).toNat).toNat))), none], [.inr (.inl lv_), .inl (fi_ + g_), .inr (.inr (some (238, 0)))], S_)) rfl ?_
                    refine sm_T_last (n := 256) rfl rfl (by omega) (by omega) ?_
                    have hIx152_ : gi (sm_aL S_ 238 0 (fi_ + g_).toNat lv_) := gi_aL hI_
                    have hFx153_ : ai_fr (sx_W vw_430n) S0_ (sm_aL S_ 238 0 (fi_ + g_).toNat lv_) := ai_fr_tr hF_ (ai_fr_aL rfl)
                    refine sm_T_inc (a := 8) (z := 1) (v := g_) (w := g_ + 1) rfl rfl (by omega) (by omega) (by omega) ?_ -- pc_ 254
                    refine sm_T_go 1 (c1 := (58, [some (.inr (.inr (some (13, 0)))), some (.inl c_), some (.inl w_), some (.inl stuck), some (.inl pin_), some (.inr (.inl lv_)), none, some (.inl fi_), some (.inl (g_ + 1)), some (.inl (450 * c_ + 3 * g_)), some (.inl (S_.2.2.1 234 0 vx8_.toNat)), some (.inr (.inl lv_)), none, some (.inr (.inl (S_.2.2.2 238 0 (S_.2.2.1 230 0 (450 * c_ + 3 * g_ + 1).toNat).toNat))), none, some (.inr (.inl (S_.2.2.2 238 0 (S_.2.2.1 230 0 (450 * c_ + 3 * g_ + 2).toNat).toNat))), none], [], sm_aL S_ 238 0 (fi_ + g_).toNat lv_)) rfl ?_
                    refine sm_T_wk [some (.inr (.inr (some (13, 0)))), some (.inl c_), some (.inl w_), some (.inl stuck), some (.inl pin_), some (.inr (.inl lv_)), none, some (.inl fi_), some (.inl (g_ + 1)), none, none, none, none, none, none, none, none] (by exact ⟨rfl, rfl, rfl, rfl, rfl, rfl, rfl, rfl, trivial⟩) ?_
                    refine ih_.2 lv_ fi_ (g_ + 1) (sm_aL S_ 238 0 (fi_ + g_).toNat lv_) hIx152_ hFx153_ ⟨?_, ?_, trivial⟩ ?_
                    · omega
                    · first | (exfalso; omega) | (intro i9_ hi9_; rw [show (g_ + 1).toNat = g_.toNat + 1 by omega]; refine kpr_s (hv_ i9_ hi9_) (fun k9_ => by (rw [rd_leq, y250_, show (fi_ + g_).toNat = (S0_.2.2.1 223 0 c_.toNat + S0_.2.2.1 224 0 c_.toNat).toNat + g_.toNat by omega])) (fun m9_ => ?_); have q9_ := e250_ (by (rw [← n89_]; exact m9_)) i9_ hi9_; rw [← n89_, ← n238_] at q9_; unfold gvl; rw [a0_, a1_, a2_]; first | exact q9_ | (have l3_ : ¬ 3 ≤ krN c_ S0_ g_.toNat := (by omega); rw [decide_eq_false l3_, Bool.false_and] at q9_ ⊢; first | exact q9_ | (have l2_ : ¬ 2 ≤ krN c_ S0_ g_.toNat := (by omega); rw [decide_eq_false l2_, Bool.false_and] at q9_ ⊢; exact q9_)))
                    · omega
                · have cx134_ : ¬ (pin_ ≠ 3 * g_ + 2) := of_decide_eq_false cx134_
                  exfalso; omega
              · have cx133_ : ¬ (3 ≤ (S_.2.2.1 234 0 vx8_.toNat)) := of_decide_eq_false cx133_
                refine sm_T_go 7 (c1 := (215, [some (.inr (.inr (some (13, 0)))), some (.inl c_), some (.inl w_), some (.inl stuck), some (.inl pin_), some (.inr (.inl lv_)), none, some (.inl fi_), some (.inl g_), some (.inl (450 * c_ + 3 * g_)), some (.inl (S_.2.2.1 234 0 vx8_.toNat)), some (.inr (.inl lv_)), none, some (.inr (.inl (S_.2.2.2 238 0 (S_.2.2.1 230 0 (450 * c_ + 3 * g_ + 1).toNat).toNat))), none, some (.inr (.inl 0)), none], [.inl g_, .inl fi_, .inr (.inr (some (238, 0)))], S_)) rfl ?_
                refine sm_T_bin (w := fi_ + g_) rfl (bi_add (by omega) (by omega) (by omega)) ?_ -- pc_ 215
                refine sm_T_go 2 (c1 := (220, [some (.inr (.inr (some (13, 0)))), some (.inl c_), some (.inl w_), some (.inl stuck), some (.inl pin_), some (.inr (.inl lv_)), none, some (.inl fi_), some (.inl g_), some (.inl (450 * c_ + 3 * g_)), some (.inl (S_.2.2.1 234 0 vx8_.toNat)), some (.inr (.inl lv_)), none, some (.inr (.inl (S_.2.2.2 238 0 (S_.2.2.1 230 0 (450 * c_ + 3 * g_ + 1).toNat).toNat))), none, some (.inr (.inl 0)), none], [.inl g_, .inl fi_, .inl (fi_ + g_), .inr (.inr (some (238, 0)))], S_)) rfl ?_
                refine sm_T_bin (w := fi_ + g_) rfl (bi_add (by omega) (by omega) (by omega)) ?_ -- pc_ 220
                refine sm_T_go 1 (c1 := (222, [some (.inr (.inr (some (13, 0)))), some (.inl c_), some (.inl w_), some (.inl stuck), some (.inl pin_), some (.inr (.inl lv_)), none, some (.inl fi_), some (.inl g_), some (.inl (450 * c_ + 3 * g_)), some (.inl (S_.2.2.1 234 0 vx8_.toNat)), some (.inr (.inl lv_)), none, some (.inr (.inl (S_.2.2.2 238 0 (S_.2.2.1 230 0 (450 * c_ + 3 * g_ + 1).toNat).toNat))), none, some (.inr (.inl 0)), none], [.inl stuck, .inl (fi_ + g_), .inl (fi_ + g_), .inr (.inr (some (238, 0)))], S_)) rfl ?_
                refine sm_T_br (a := 1) (z := 8) rfl (fun cx154_ => ?_) (fun cx154_ => ?_)
                · have cx154_ : fi_ + g_ ≠ stuck := of_decide_eq_true cx154_
                  refine sm_T_go 5 (c1 := (238, [some (.inr (.inr (some (13, 0)))), some (.inl c_), some (.inl w_), some (.inl stuck), some (.inl pin_), some (.inr (.inl lv_)), none, some (.inl fi_), some (.inl g_), some (.inl (450 * c_ + 3 * g_)), some (.inl (S_.2.2.1 234 0 vx8_.toNat)), some (.inr (.inl lv_)), none, some (.inr (.inl (S_.2.2.2 238 0 (S_.2.2.1 230 0 (450 * c_ + 3 * g_ + 1).toNat).toNat))), none, some (.inr (.inl 0)), none], [.inl g_, .inl c_, .inr (.inr (some (13, 0))), .inr (.inr (some (235, 0))), .inl (fi_ + g_), .inr (.inr (some (238, 0)))], S_)) rfl ?_
                  refine sm_T_cal (d1 := 0) (Q1 := vq_421 c_ g_ S_) rfl rfl (by decide) (vc_421 c_ g_ S_ hI_ (by omega) (by omega)) (fun u_ Sx155_ px158_ => ?_)
                  obtain ⟨rfl, vx160_, rfl, px158_⟩ := px158_
                  have e238_ := px158_
                  have n238_ : krT c_ S0_ g_.toNat = S_.2.2.1 235 0 (vx160_).toNat := by (rw [← (krX_fr (c_ := c_) hF_).1]; unfold krT; rw [show ((g_.toNat : Nat) : Int) = g_ by omega, ← e238_.2])
                  refine sm_T_iald (n := 48) rfl rfl (by omega) (by omega) ?_
                  have bx161_ : 0 ≤ S_.2.2.1 235 0 vx160_.toNat ∧ S_.2.2.1 235 0 vx160_.toNat ≤ 255 := hI_.2 235 0 _
                  refine sm_T_go 4 (c1 := (250, [some (.inr (.inr (some (13, 0)))), some (.inl c_), some (.inl w_), some (.inl stuck), some (.inl pin_), some (.inr (.inl lv_)), none, some (.inl fi_), some (.inl g_), some (.inl (450 * c_ + 3 * g_)), some (.inl (S_.2.2.1 234 0 vx8_.toNat)), some (.inr (.inl lv_)), none, some (.inr (.inl (S_.2.2.2 238 0 (S_.2.2.1 230 0 (450 * c_ + 3 * g_ + 1).toNat).toNat))), none, some (.inr (.inl 0)), none], [.inr (.inl 0), .inr (.inl (S_.2.2.2 238 0 (S_.2.2.1 230 0 (450 * c_ + 3 * g_ + 1).toNat).toNat)), .inr (.inl lv_), .inl (S_.2.2.1 234 0 vx8_.toNat), .inl (S_.2.2.1 235 0 vx160_.toNat), .inl (fi_ + g_), .inr (.inr (some (238, 0)))], S_)) rfl ?_
                  refine sm_T_cal (d1 := 0) (Q1 := vq_429n (S_.2.2.1 235 0 vx160_.toNat) (S_.2.2.1 234 0 vx8_.toNat) lv_ ((S_.2.2.2 238 0 (S_.2.2.1 230 0 (450 * c_ + 3 * g_ + 1).toNat).toNat)) 0 S_) rfl rfl (by decide) (vc_429n (S_.2.2.1 235 0 vx160_.toNat) (S_.2.2.1 234 0 vx8_.toNat) lv_ ((S_.2.2.2 238 0 (S_.2.2.1 230 0 (450 * c_ + 3 * g_ + 1).toNat).toNat)) 0 S_ hI_ (by omega) (by omega)) (fun u_ Sx162_ px165_ => ?_)
                  obtain ⟨vx167_, rfl, hIx163_, hFx164_, px165_⟩ := px165_
                  have hFx166_ : ai_fr (sx_W vw_430n) S0_ Sx162_ := ai_fr_tr hF_ (fr_le hFx164_ rfl)
                  have e250_ := px165_
                  have y250_ : Sx162_.2.2.2 238 0 = S_.2.2.2 238 0 := fr_lon (t_ := 238) (i_ := 0) hFx164_ rfl
                  refine sm_T_last (n := 256) rfl rfl (by omega) (by omega) ?_
                  have hIx168_ : gi (sm_aL Sx162_ 238 0 (fi_ + g_).toNat vx167_) := gi_aL hIx163_
                  have hFx169_ : ai_fr (sx_W vw_430n) S0_ (sm_aL Sx162_ 238 0 (fi_ + g_).toNat vx167_) := ai_fr_tr hFx166_ (ai_fr_aL rfl)
                  refine sm_T_inc (a := 8) (z := 1) (v := g_) (w := g_ + 1) rfl rfl (by omega) (by omega) (by omega) ?_ -- pc_ 254
                  refine sm_T_go 1 (c1 := (58, [some (.inr (.inr (some (13, 0)))), some (.inl c_), some (.inl w_), some (.inl stuck), some (.inl pin_), some (.inr (.inl lv_)), none, some (.inl fi_), some (.inl (g_ + 1)), some (.inl (450 * c_ + 3 * g_)), some (.inl (S_.2.2.1 234 0 vx8_.toNat)), some (.inr (.inl lv_)), none, some (.inr (.inl (S_.2.2.2 238 0 (S_.2.2.1 230 0 (450 * c_ + 3 * g_ + 1).toNat).toNat))), none, some (.inr (.inl 0)), none], [], sm_aL Sx162_ 238 0 (fi_ + g_).toNat vx167_)) rfl ?_
                  refine sm_T_wk [some (.inr (.inr (some (13, 0)))), some (.inl c_), some (.inl w_), some (.inl stuck), some (.inl pin_), some (.inr (.inl lv_)), none, some (.inl fi_), some (.inl (g_ + 1)), none, none, none, none, none, none, none, none] (by exact ⟨rfl, rfl, rfl, rfl, rfl, rfl, rfl, rfl, trivial⟩) ?_
                  refine ih_.2 lv_ fi_ (g_ + 1) (sm_aL Sx162_ 238 0 (fi_ + g_).toNat vx167_) hIx168_ hFx169_ ⟨?_, ?_, trivial⟩ ?_
                  · omega
                  · first | (exfalso; omega) | (intro i9_ hi9_; rw [show (g_ + 1).toNat = g_.toNat + 1 by omega]; refine kpr_s (hv_ i9_ hi9_) (fun k9_ => by (rw [rd_leq, y250_, show (fi_ + g_).toNat = (S0_.2.2.1 223 0 c_.toNat + S0_.2.2.1 224 0 c_.toNat).toNat + g_.toNat by omega])) (fun m9_ => ?_); have q9_ := e250_ (by (rw [← n89_]; exact m9_)) i9_ hi9_; rw [← n89_, ← n238_] at q9_; unfold gvl; rw [a0_, a1_, a2_]; first | exact q9_ | (have l3_ : ¬ 3 ≤ krN c_ S0_ g_.toNat := (by omega); rw [decide_eq_false l3_, Bool.false_and] at q9_ ⊢; first | exact q9_ | (have l2_ : ¬ 2 ≤ krN c_ S0_ g_.toNat := (by omega); rw [decide_eq_false l2_, Bool.false_and] at q9_ ⊢; exact q9_)))
                  · omega
                · have cx154_ : ¬ (fi_ + g_ ≠ stuck) := of_decide_eq_false cx154_
                  refine sm_T_go 2 (c1 := (253, [some (.inr (.inr (some (13, 0)))), some (.inl c_), some (.inl w_), some (.inl stuck), some (.inl pin_), some (.inr (.inl lv_)), none, some (.inl fi_), some (.inl g_), some (.inl (450 * c_ + 3 * g_)), some (.inl (S_.2.2.1 234 0 vx8_.toNat)), some (.inr (.inl lv_)), none, some (.inr (.inl (S_.2.2.2 238 0 (S_.2.2.1 230 0 (450 * c_ + 3 * g_ + 1).toNat).toNat))), none, some (.inr (.inl 0)), none], [.inr (.inl lv_), .inl (fi_ + g_), .inr (.inr (some (238, 0)))], S_)) rfl ?_
                  refine sm_T_last (n := 256) rfl rfl (by omega) (by omega) ?_
                  have hIx170_ : gi (sm_aL S_ 238 0 (fi_ + g_).toNat lv_) := gi_aL hI_
                  have hFx171_ : ai_fr (sx_W vw_430n) S0_ (sm_aL S_ 238 0 (fi_ + g_).toNat lv_) := ai_fr_tr hF_ (ai_fr_aL rfl)
                  refine sm_T_inc (a := 8) (z := 1) (v := g_) (w := g_ + 1) rfl rfl (by omega) (by omega) (by omega) ?_ -- pc_ 254
                  refine sm_T_go 1 (c1 := (58, [some (.inr (.inr (some (13, 0)))), some (.inl c_), some (.inl w_), some (.inl stuck), some (.inl pin_), some (.inr (.inl lv_)), none, some (.inl fi_), some (.inl (g_ + 1)), some (.inl (450 * c_ + 3 * g_)), some (.inl (S_.2.2.1 234 0 vx8_.toNat)), some (.inr (.inl lv_)), none, some (.inr (.inl (S_.2.2.2 238 0 (S_.2.2.1 230 0 (450 * c_ + 3 * g_ + 1).toNat).toNat))), none, some (.inr (.inl 0)), none], [], sm_aL S_ 238 0 (fi_ + g_).toNat lv_)) rfl ?_
                  refine sm_T_wk [some (.inr (.inr (some (13, 0)))), some (.inl c_), some (.inl w_), some (.inl stuck), some (.inl pin_), some (.inr (.inl lv_)), none, some (.inl fi_), some (.inl (g_ + 1)), none, none, none, none, none, none, none, none] (by exact ⟨rfl, rfl, rfl, rfl, rfl, rfl, rfl, rfl, trivial⟩) ?_
                  refine ih_.2 lv_ fi_ (g_ + 1) (sm_aL S_ 238 0 (fi_ + g_).toNat lv_) hIx170_ hFx171_ ⟨?_, ?_, trivial⟩ ?_
                  · omega
                  · first | (exfalso; omega) | (intro i9_ hi9_; rw [show (g_ + 1).toNat = g_.toNat + 1 by omega]; refine kpr_s (hv_ i9_ hi9_) (fun k9_ => by (rw [rd_leq, y250_, show (fi_ + g_).toNat = (S0_.2.2.1 223 0 c_.toNat + S0_.2.2.1 224 0 c_.toNat).toNat + g_.toNat by omega])) (fun m9_ => ?_); have q9_ := e250_ (by (rw [← n89_]; exact m9_)) i9_ hi9_; rw [← n89_, ← n238_] at q9_; unfold gvl; rw [a0_, a1_, a2_]; first | exact q9_ | (have l3_ : ¬ 3 ≤ krN c_ S0_ g_.toNat := (by omega); rw [decide_eq_false l3_, Bool.false_and] at q9_ ⊢; first | exact q9_ | (have l2_ : ¬ 2 ≤ krN c_ S0_ g_.toNat := (by omega); rw [decide_eq_false l2_, Bool.false_and] at q9_ ⊢; exact q9_)))
                  · omega
            · have cx131_ : ¬ (pin_ ≠ 3 * g_ + 1) := of_decide_eq_false cx131_
              exfalso; omega
          · have cx130_ : ¬ (2 ≤ (S_.2.2.1 234 0 vx8_.toNat)) := of_decide_eq_false cx130_
            refine sm_T_go 5 (c1 := (168, [some (.inr (.inr (some (13, 0)))), some (.inl c_), some (.inl w_), some (.inl stuck), some (.inl pin_), some (.inr (.inl lv_)), none, some (.inl fi_), some (.inl g_), some (.inl (450 * c_ + 3 * g_)), some (.inl (S_.2.2.1 234 0 vx8_.toNat)), some (.inr (.inl lv_)), none, some (.inr (.inl 0)), none, none, none], [.inl 3, .inl (S_.2.2.1 234 0 vx8_.toNat)], S_)) rfl ?_
            refine sm_T_br (a := 3) (z := 7) rfl (fun cx172_ => ?_) (fun cx172_ => ?_)
            · have cx172_ : 3 ≤ (S_.2.2.1 234 0 vx8_.toNat) := of_decide_eq_true cx172_
              exfalso; omega
            · have cx172_ : ¬ (3 ≤ (S_.2.2.1 234 0 vx8_.toNat)) := of_decide_eq_false cx172_
              refine sm_T_go 7 (c1 := (215, [some (.inr (.inr (some (13, 0)))), some (.inl c_), some (.inl w_), some (.inl stuck), some (.inl pin_), some (.inr (.inl lv_)), none, some (.inl fi_), some (.inl g_), some (.inl (450 * c_ + 3 * g_)), some (.inl (S_.2.2.1 234 0 vx8_.toNat)), some (.inr (.inl lv_)), none, some (.inr (.inl 0)), none, some (.inr (.inl 0)), none], [.inl g_, .inl fi_, .inr (.inr (some (238, 0)))], S_)) rfl ?_
              refine sm_T_bin (w := fi_ + g_) rfl (bi_add (by omega) (by omega) (by omega)) ?_ -- pc_ 215
              refine sm_T_go 2 (c1 := (220, [some (.inr (.inr (some (13, 0)))), some (.inl c_), some (.inl w_), some (.inl stuck), some (.inl pin_), some (.inr (.inl lv_)), none, some (.inl fi_), some (.inl g_), some (.inl (450 * c_ + 3 * g_)), some (.inl (S_.2.2.1 234 0 vx8_.toNat)), some (.inr (.inl lv_)), none, some (.inr (.inl 0)), none, some (.inr (.inl 0)), none], [.inl g_, .inl fi_, .inl (fi_ + g_), .inr (.inr (some (238, 0)))], S_)) rfl ?_
              refine sm_T_bin (w := fi_ + g_) rfl (bi_add (by omega) (by omega) (by omega)) ?_ -- pc_ 220
              refine sm_T_go 1 (c1 := (222, [some (.inr (.inr (some (13, 0)))), some (.inl c_), some (.inl w_), some (.inl stuck), some (.inl pin_), some (.inr (.inl lv_)), none, some (.inl fi_), some (.inl g_), some (.inl (450 * c_ + 3 * g_)), some (.inl (S_.2.2.1 234 0 vx8_.toNat)), some (.inr (.inl lv_)), none, some (.inr (.inl 0)), none, some (.inr (.inl 0)), none], [.inl stuck, .inl (fi_ + g_), .inl (fi_ + g_), .inr (.inr (some (238, 0)))], S_)) rfl ?_
              refine sm_T_br (a := 1) (z := 8) rfl (fun cx173_ => ?_) (fun cx173_ => ?_)
              · have cx173_ : fi_ + g_ ≠ stuck := of_decide_eq_true cx173_
                refine sm_T_go 5 (c1 := (238, [some (.inr (.inr (some (13, 0)))), some (.inl c_), some (.inl w_), some (.inl stuck), some (.inl pin_), some (.inr (.inl lv_)), none, some (.inl fi_), some (.inl g_), some (.inl (450 * c_ + 3 * g_)), some (.inl (S_.2.2.1 234 0 vx8_.toNat)), some (.inr (.inl lv_)), none, some (.inr (.inl 0)), none, some (.inr (.inl 0)), none], [.inl g_, .inl c_, .inr (.inr (some (13, 0))), .inr (.inr (some (235, 0))), .inl (fi_ + g_), .inr (.inr (some (238, 0)))], S_)) rfl ?_
                refine sm_T_cal (d1 := 0) (Q1 := vq_421 c_ g_ S_) rfl rfl (by decide) (vc_421 c_ g_ S_ hI_ (by omega) (by omega)) (fun u_ Sx174_ px177_ => ?_)
                obtain ⟨rfl, vx179_, rfl, px177_⟩ := px177_
                have e238_ := px177_
                have n238_ : krT c_ S0_ g_.toNat = S_.2.2.1 235 0 (vx179_).toNat := by (rw [← (krX_fr (c_ := c_) hF_).1]; unfold krT; rw [show ((g_.toNat : Nat) : Int) = g_ by omega, ← e238_.2])
                refine sm_T_iald (n := 48) rfl rfl (by omega) (by omega) ?_
                have bx180_ : 0 ≤ S_.2.2.1 235 0 vx179_.toNat ∧ S_.2.2.1 235 0 vx179_.toNat ≤ 255 := hI_.2 235 0 _
                refine sm_T_go 4 (c1 := (250, [some (.inr (.inr (some (13, 0)))), some (.inl c_), some (.inl w_), some (.inl stuck), some (.inl pin_), some (.inr (.inl lv_)), none, some (.inl fi_), some (.inl g_), some (.inl (450 * c_ + 3 * g_)), some (.inl (S_.2.2.1 234 0 vx8_.toNat)), some (.inr (.inl lv_)), none, some (.inr (.inl 0)), none, some (.inr (.inl 0)), none], [.inr (.inl 0), .inr (.inl 0), .inr (.inl lv_), .inl (S_.2.2.1 234 0 vx8_.toNat), .inl (S_.2.2.1 235 0 vx179_.toNat), .inl (fi_ + g_), .inr (.inr (some (238, 0)))], S_)) rfl ?_
                refine sm_T_cal (d1 := 0) (Q1 := vq_429n (S_.2.2.1 235 0 vx179_.toNat) (S_.2.2.1 234 0 vx8_.toNat) lv_ 0 0 S_) rfl rfl (by decide) (vc_429n (S_.2.2.1 235 0 vx179_.toNat) (S_.2.2.1 234 0 vx8_.toNat) lv_ 0 0 S_ hI_ (by omega) (by omega)) (fun u_ Sx181_ px184_ => ?_)
                obtain ⟨vx186_, rfl, hIx182_, hFx183_, px184_⟩ := px184_
                have hFx185_ : ai_fr (sx_W vw_430n) S0_ Sx181_ := ai_fr_tr hF_ (fr_le hFx183_ rfl)
                have e250_ := px184_
                have y250_ : Sx181_.2.2.2 238 0 = S_.2.2.2 238 0 := fr_lon (t_ := 238) (i_ := 0) hFx183_ rfl
                refine sm_T_last (n := 256) rfl rfl (by omega) (by omega) ?_
                have hIx187_ : gi (sm_aL Sx181_ 238 0 (fi_ + g_).toNat vx186_) := gi_aL hIx182_
                have hFx188_ : ai_fr (sx_W vw_430n) S0_ (sm_aL Sx181_ 238 0 (fi_ + g_).toNat vx186_) := ai_fr_tr hFx185_ (ai_fr_aL rfl)
                refine sm_T_inc (a := 8) (z := 1) (v := g_) (w := g_ + 1) rfl rfl (by omega) (by omega) (by omega) ?_ -- pc_ 254
                refine sm_T_go 1 (c1 := (58, [some (.inr (.inr (some (13, 0)))), some (.inl c_), some (.inl w_), some (.inl stuck), some (.inl pin_), some (.inr (.inl lv_)), none, some (.inl fi_), some (.inl (g_ + 1)), some (.inl (450 * c_ + 3 * g_)), some (.inl (S_.2.2.1 234 0 vx8_.toNat)), some (.inr (.inl lv_)), none, some (.inr (.inl 0)), none, some (.inr (.inl 0)), none], [], sm_aL Sx181_ 238 0 (fi_ + g_).toNat vx186_)) rfl ?_
                refine sm_T_wk [some (.inr (.inr (some (13, 0)))), some (.inl c_), some (.inl w_), some (.inl stuck), some (.inl pin_), some (.inr (.inl lv_)), none, some (.inl fi_), some (.inl (g_ + 1)), none, none, none, none, none, none, none, none] (by exact ⟨rfl, rfl, rfl, rfl, rfl, rfl, rfl, rfl, trivial⟩) ?_
                refine ih_.2 lv_ fi_ (g_ + 1) (sm_aL Sx181_ 238 0 (fi_ + g_).toNat vx186_) hIx187_ hFx188_ ⟨?_, ?_, trivial⟩ ?_
                · omega
                · first | (exfalso; omega) | (intro i9_ hi9_; rw [show (g_ + 1).toNat = g_.toNat + 1 by omega]; refine kpr_s (hv_ i9_ hi9_) (fun k9_ => by (rw [rd_leq, y250_, show (fi_ + g_).toNat = (S0_.2.2.1 223 0 c_.toNat + S0_.2.2.1 224 0 c_.toNat).toNat + g_.toNat by omega])) (fun m9_ => ?_); have q9_ := e250_ (by (rw [← n89_]; exact m9_)) i9_ hi9_; rw [← n89_, ← n238_] at q9_; unfold gvl; rw [a0_, a1_, a2_]; first | exact q9_ | (have l3_ : ¬ 3 ≤ krN c_ S0_ g_.toNat := (by omega); rw [decide_eq_false l3_, Bool.false_and] at q9_ ⊢; first | exact q9_ | (have l2_ : ¬ 2 ≤ krN c_ S0_ g_.toNat := (by omega); rw [decide_eq_false l2_, Bool.false_and] at q9_ ⊢; exact q9_)))
                · omega
              · have cx173_ : ¬ (fi_ + g_ ≠ stuck) := of_decide_eq_false cx173_
                refine sm_T_go 2 (c1 := (253, [some (.inr (.inr (some (13, 0)))), some (.inl c_), some (.inl w_), some (.inl stuck), some (.inl pin_), some (.inr (.inl lv_)), none, some (.inl fi_), some (.inl g_), some (.inl (450 * c_ + 3 * g_)), some (.inl (S_.2.2.1 234 0 vx8_.toNat)), some (.inr (.inl lv_)), none, some (.inr (.inl 0)), none, some (.inr (.inl 0)), none], [.inr (.inl lv_), .inl (fi_ + g_), .inr (.inr (some (238, 0)))], S_)) rfl ?_
                refine sm_T_last (n := 256) rfl rfl (by omega) (by omega) ?_
                have hIx189_ : gi (sm_aL S_ 238 0 (fi_ + g_).toNat lv_) := gi_aL hI_
                have hFx190_ : ai_fr (sx_W vw_430n) S0_ (sm_aL S_ 238 0 (fi_ + g_).toNat lv_) := ai_fr_tr hF_ (ai_fr_aL rfl)
                refine sm_T_inc (a := 8) (z := 1) (v := g_) (w := g_ + 1) rfl rfl (by omega) (by omega) (by omega) ?_ -- pc_ 254
                refine sm_T_go 1 (c1 := (58, [some (.inr (.inr (some (13, 0)))), some (.inl c_), some (.inl w_), some (.inl stuck), some (.inl pin_), some (.inr (.inl lv_)), none, some (.inl fi_), some (.inl (g_ + 1)), some (.inl (450 * c_ + 3 * g_)), some (.inl (S_.2.2.1 234 0 vx8_.toNat)), some (.inr (.inl lv_)), none, some (.inr (.inl 0)), none, some (.inr (.inl 0)), none], [], sm_aL S_ 238 0 (fi_ + g_).toNat lv_)) rfl ?_
                refine sm_T_wk [some (.inr (.inr (some (13, 0)))), some (.inl c_), some (.inl w_), some (.inl stuck), some (.inl pin_), some (.inr (.inl lv_)), none, some (.inl fi_), some (.inl (g_ + 1)), none, none, none, none, none, none, none, none] (by exact ⟨rfl, rfl, rfl, rfl, rfl, rfl, rfl, rfl, trivial⟩) ?_
                refine ih_.2 lv_ fi_ (g_ + 1) (sm_aL S_ 238 0 (fi_ + g_).toNat lv_) hIx189_ hFx190_ ⟨?_, ?_, trivial⟩ ?_
                · omega
                · first | (exfalso; omega) | (intro i9_ hi9_; rw [show (g_ + 1).toNat = g_.toNat + 1 by omega]; refine kpr_s (hv_ i9_ hi9_) (fun k9_ => by (rw [rd_leq, y250_, show (fi_ + g_).toNat = (S0_.2.2.1 223 0 c_.toNat + S0_.2.2.1 224 0 c_.toNat).toNat + g_.toNat by omega])) (fun m9_ => ?_); have q9_ := e250_ (by (rw [← n89_]; exact m9_)) i9_ hi9_; rw [← n89_, ← n238_] at q9_; unfold gvl; rw [a0_, a1_, a2_]; first | exact q9_ | (have l3_ : ¬ 3 ≤ krN c_ S0_ g_.toNat := (by omega); rw [decide_eq_false l3_, Bool.false_and] at q9_ ⊢; first | exact q9_ | (have l2_ : ¬ 2 ≤ krN c_ S0_ g_.toNat := (by omega); rw [decide_eq_false l2_, Bool.false_and] at q9_ ⊢; exact q9_)))
                · omega
set_option maxHeartbeats 400000 in
set_option maxRecDepth 20000 in
theorem vc_430n {sc_ : Nat × (Nat → Int)} (c_ : Int) (w_ : Int) (stuck : Int) (pin_ : Int) (lv_ : Int) (S0_ : sm_S) (hI_ : gi S0_) (hc_ : 0 ≤ c_ ∧ c_ ≤ 3) (hw_ : 0 ≤ w_ ∧ w_ ≤ 63) (hx_ : S0_.2.2.1 223 0 c_.toNat + S0_.2.2.1 224 0 c_.toNat ≤ 12) (hg_ : cgt c_ S0_) (hp_ : stuck = -1 ∧ pin_ = -1) : sm_T (mt_P sc_) 1 430 (0, [some (.inr (.inr (some (13, 0)))), some (.inl c_), some (.inl w_), some (.inl stuck), some (.inl pin_), some (.inr (.inl lv_)), none, none, none, none, none, none, none, none, none, none, none], [], S0_) (fun ro9_ => ∃ u_ S1_, ro9_ = (.inl u_, S1_, 0) ∧ vq_430n c_ w_ stuck pin_ lv_ S0_ u_ S1_) := by
  have hF_ : ai_fr (sx_W vw_430n) S0_ S0_ := ai_fr_rf
  have cA0_ : 0 ≤ S0_.2.2.1 223 0 c_.toNat := (hI_.2 223 0 _).1
  have cB0_ : 0 ≤ S0_.2.2.1 224 0 c_.toNat := (hI_.2 224 0 _).1
  have cG0_ : 0 ≤ S0_.2.2.1 228 0 c_.toNat := (hI_.2 228 0 _).1
  refine sm_T_go 3 (c1 := (5, [some (.inr (.inr (some (13, 0)))), some (.inl c_), some (.inl w_), some (.inl stuck), some (.inl pin_), some (.inr (.inl lv_)), none, none, none, none, none, none, none, none, none, none, none], [.inl c_, .inr (.inr (some (223, 0)))], S0_)) rfl ?_
  refine sm_T_iald (n := 4) rfl rfl (by omega) (by omega) ?_
  have bx1_ : 0 ≤ S0_.2.2.1 223 0 c_.toNat ∧ S0_.2.2.1 223 0 c_.toNat ≤ 12 := hI_.2 223 0 _
  refine sm_T_go 3 (c1 := (11, [some (.inr (.inr (some (13, 0)))), some (.inl c_), some (.inl w_), some (.inl stuck), some (.inl pin_), some (.inr (.inl lv_)), none, none, none, none, none, none, none, none, none, none, none], [.inl c_, .inr (.inr (some (224, 0))), .inl (S0_.2.2.1 223 0 c_.toNat)], S0_)) rfl ?_
  refine sm_T_iald (n := 4) rfl rfl (by omega) (by omega) ?_
  have bx2_ : 0 ≤ S0_.2.2.1 224 0 c_.toNat ∧ S0_.2.2.1 224 0 c_.toNat ≤ 6 := hI_.2 224 0 _
  refine sm_T_bin (w := (S0_.2.2.1 223 0 c_.toNat) + (S0_.2.2.1 224 0 c_.toNat)) rfl (bi_add (by omega) (by omega) (by omega)) ?_ -- pc_ 12
  refine sm_T_go 3 (c1 := (18, [some (.inr (.inr (some (13, 0)))), some (.inl c_), some (.inl w_), some (.inl stuck), some (.inl pin_), some (.inr (.inl lv_)), none, some (.inl ((S0_.2.2.1 223 0 c_.toNat) + (S0_.2.2.1 224 0 c_.toNat))), some (.inl 0), none, none, none, none, none, none, none, none], [], S0_)) rfl ?_
  refine (vl_430n c_ w_ stuck pin_ lv_ S0_ hc_ hw_ hx_ hg_ hp_ _).1 lv_ ((S0_.2.2.1 223 0 c_.toNat) + (S0_.2.2.1 224 0 c_.toNat)) 0 S0_ hI_ hF_ ⟨?_, ?_, trivial⟩ (Nat.lt_succ_self _)
  · omega
  · (intro m9_ hm9_; exfalso; omega)
/-! M_.bitOfNet -/
def vw_431n : sx_Wl := ([], [], [])
def vq_431n (n_ : Int) (k_ : Int) (S0_ : sm_S) (u_ : Option sm_V) (S1_ : sm_S) : Prop := S0_ = S1_ ∧ ∃ v_ : Int, u_ = some (.inl v_) ∧ (v_ = if nev (fun m_ => lbt (S0_.2.2.2 238 0 m_) k_.toNat) n_ = true then 1 else 0)
set_option maxHeartbeats 400000 in
set_option maxRecDepth 20000 in
theorem vc_431n {sc_ : Nat × (Nat → Int)} (n_ : Int) (k_ : Int) (S0_ : sm_S) (hI_ : gi S0_) (hn_ : -2 ≤ n_ ∧ n_ ≤ 255) (hk_ : 0 ≤ k_ ∧ k_ ≤ 63) : sm_T (mt_P sc_) 0 431 (0, [some (.inr (.inr (some (13, 0)))), some (.inl n_), some (.inl k_)], [], S0_) (fun ro9_ => ∃ u_ S1_, ro9_ = (.inl u_, S1_, 0) ∧ vq_431n n_ k_ S0_ u_ S1_) := by
  have hF_ : ai_fr (sx_W vw_431n) S0_ S0_ := ai_fr_rf
  refine sm_T_go 2 (c1 := (2, [some (.inr (.inr (some (13, 0)))), some (.inl n_), some (.inl k_)], [.inl (-1), .inl n_], S0_)) rfl ?_
  refine sm_T_br (a := 1) (z := 7) rfl (fun cx1_ => ?_) (fun cx1_ => ?_)
  · have cx1_ : n_ ≠ (-1) := of_decide_eq_true cx1_
    refine sm_T_go 2 (c1 := (12, [some (.inr (.inr (some (13, 0)))), some (.inl n_), some (.inl k_)], [.inl (-2), .inl n_], S0_)) rfl ?_
    refine sm_T_br (a := 1) (z := 7) rfl (fun cx2_ => ?_) (fun cx2_ => ?_)
    · have cx2_ : n_ ≠ (-2) := of_decide_eq_true cx2_
      refine sm_T_go 3 (c1 := (24, [some (.inr (.inr (some (13, 0)))), some (.inl n_), some (.inl k_)], [.inl n_, .inr (.inr (some (238, 0)))], S0_)) rfl ?_
      refine sm_T_lald (n := 256) rfl rfl (by omega) (by omega) ?_
      have bx3_ := l_l2i_n ((l_3 ((l_s2 ((S0_.2.2.2 238 0 n_.toNat)) k_)) 1))
      refine sm_T_go 5 (c1 := (30, [some (.inr (.inr (some (13, 0)))), some (.inl n_), some (.inl k_)], [.inl (l_l2i ((l_3 ((l_s2 ((S0_.2.2.2 238 0 n_.toNat)) k_)) 1)))], S0_)) rfl ?_
      refine sm_T_ri rfl ⟨_, _, rfl, rfl, _, rfl, ?_⟩
      first | exact (nev_r1 (by omega)).symm | exact (nev_r2 (by omega)).symm | exact nev_r3 hk_ (by omega)
    · have cx2_ : ¬ (n_ ≠ (-2)) := of_decide_eq_false cx2_
      refine sm_T_go 2 (c1 := (30, [some (.inr (.inr (some (13, 0)))), some (.inl n_), some (.inl k_)], [.inl 1], S0_)) rfl ?_
      refine sm_T_ri rfl ⟨_, _, rfl, rfl, _, rfl, ?_⟩
      first | exact (nev_r1 (by omega)).symm | exact (nev_r2 (by omega)).symm | exact nev_r3 hk_ (by omega)
  · have cx1_ : ¬ (n_ ≠ (-1)) := of_decide_eq_false cx1_
    refine sm_T_go 2 (c1 := (30, [some (.inr (.inr (some (13, 0)))), some (.inl n_), some (.inl k_)], [.inl 0], S0_)) rfl ?_
    refine sm_T_ri rfl ⟨_, _, rfl, rfl, _, rfl, ?_⟩
    first | exact (nev_r1 (by omega)).symm | exact (nev_r2 (by omega)).symm | exact nev_r3 hk_ (by omega)
