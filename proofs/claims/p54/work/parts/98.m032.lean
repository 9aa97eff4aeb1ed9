/-! 99.ztZ5 -/
section
/-! the mapper: needed nodes and uses; written by wip/p55/gen/vg -/

/-! uses of_ nodes -/
def psm (g_ : Nat → Nat) (a_ : Nat) : Nat → Nat
  | 0 => 0
  | l_ + 1 => psm g_ a_ l_ + g_ (a_ + l_)
theorem psm_c {g_ : Nat → Nat} {a_ : Nat} : ∀ l_ : Nat, psm g_ a_ (l_ + 1) = g_ a_ + psm g_ (a_ + 1) l_
  | 0 => by
    show 0 + g_ (a_ + 0) = g_ a_ + 0
    rw [Nat.zero_add, Nat.add_zero, Nat.add_zero]
  | l_ + 1 => by
    show psm g_ a_ (l_ + 1) + g_ (a_ + (l_ + 1)) = g_ a_ + (psm g_ (a_ + 1) l_ + g_ (a_ + 1 + l_))
    rw [psm_c l_, show a_ + 1 + l_ = a_ + (l_ + 1) by omega]
    omega
theorem psm_cg {g_ h_ : Nat → Nat} {a_ : Nat} : ∀ l_ : Nat, (∀ i_, i_ < l_ → g_ (a_ + i_) = h_ (a_ + i_)) → psm g_ a_ l_ = psm h_ a_ l_
  | 0, _ => rfl
  | l_ + 1, e_ => by
    show psm g_ a_ l_ + g_ (a_ + l_) = psm h_ a_ l_ + h_ (a_ + l_)
    rw [psm_cg l_ (fun i_ hi_ => e_ i_ (by omega)), e_ l_ (Nat.lt_succ_self l_)]
def rcn (sf_ rt_ : Nat → Int) : Nat → Nat → Nat
  | 0, _ => 0
  | k_ + 1, q_ => rcn sf_ rt_ k_ q_ + if q_ = nsw sf_ (rt_ k_) then 1 else 0
def pgn (sf_ lo_ hi_ : Nat → Int) (nd_ : Nat → Bool) (q_ n_ : Nat) : Nat := if nd_ n_ = true then (if q_ = nsw sf_ (lo_ n_) then 1 else 0) + (if q_ = nsw sf_ (hi_ n_) then 1 else 0) else 0
/-- which nodes are_ needed -/
def ndf (F_ N_ K_ : Nat) (sf_ lo_ hi_ rt_ : Nat → Int) : Nat → Bool := (ndk N_ sf_ lo_ hi_ (nd0 sf_ rt_ K_) (N_ - F_)).1
/-- uses; a_ root counts for_ two_ -/
def usn (F_ N_ K_ : Nat) (sf_ lo_ hi_ rt_ : Nat → Int) (q_ : Nat) : Nat := 2 * rcn sf_ rt_ K_ q_ + psm (pgn sf_ lo_ hi_ (ndf F_ N_ K_ sf_ lo_ hi_ rt_) q_) F_ (N_ - F_)
theorem inc2 {u_ : Nat → Int} {a_ b_ q_ c_ : Nat} (h_ : u_ q_ = (c_ : Int)) : (if q_ = b_ then (if b_ = a_ then u_ a_ + 1 else u_ b_) + 1 else if q_ = a_ then u_ a_ + 1 else u_ q_) = ((c_ + ((if q_ = a_ then 1 else 0) + (if q_ = b_ then 1 else 0)) : Nat) : Int) := by
  by_cases z_ : q_ = b_
  · subst z_
    rw [if_pos rfl, if_pos rfl]
    by_cases y_ : q_ = a_
    · subst y_
      rw [if_pos rfl, if_pos rfl, h_]
      omega
    · rw [if_neg y_, if_neg y_, h_]
      omega
  · rw [if_neg z_, if_neg z_]
    by_cases y_ : q_ = a_
    · subst y_
      rw [if_pos rfl, if_pos rfl, h_]
      omega
    · rw [if_neg y_, if_neg y_, h_]
      omega
theorem nsw_le {N_ : Nat} {sf_ : Nat → Int} {l_ : Int} (hs_ : ∀ m_, m_ < N_ → 0 ≤ sf_ m_ ∧ sf_ m_ ≤ 2 * (m_ : Int) + 1) (h0_ : 0 ≤ l_) (h1_ : l_ < 2 * (N_ : Int)) : (nsw sf_ l_ : Int) ≤ l_ / 2 := by
  have s_ := hs_ (l_ / 2).toNat (by omega)
  unfold nsw
  omega
theorem ndk_st {F_ N_ : Nat} {sf_ lo_ hi_ : Nat → Int} {m0_ : Nat → Bool} (hg_ : glo F_ N_ lo_ hi_) (hs_ : ∀ m_, m_ < N_ → 0 ≤ sf_ m_ ∧ sf_ m_ ≤ 2 * (m_ : Int) + 1) {j_ q_ : Nat} (hj_ : j_ < N_ - F_) (hq_ : N_ - 1 - j_ ≤ q_) : (ndk N_ sf_ lo_ hi_ m0_ (j_ + 1)).1 q_ = (ndk N_ sf_ lo_ hi_ m0_ j_).1 q_ := by
  have g_ := hg_ (N_ - 1 - j_) (by omega) (by omega)
  have b1_ := nsw_le hs_ (l_ := lo_ (N_ - 1 - j_)) (by omega) (by omega)
  have b2_ := nsw_le hs_ (l_ := hi_ (N_ - 1 - j_)) (by omega) (by omega)
  cases x_ : (ndk N_ sf_ lo_ hi_ m0_ j_).1 (N_ - 1 - j_)
  · rw [ndk_n x_]
  · rw [ndk_y x_]
    show (((ndk N_ sf_ lo_ hi_ m0_ j_).1 q_ || decide (q_ = nsw sf_ (lo_ (N_ - 1 - j_)))) || decide (q_ = nsw sf_ (hi_ (N_ - 1 - j_)))) = (ndk N_ sf_ lo_ hi_ m0_ j_).1 q_
    rw [decide_eq_false (show ¬ q_ = nsw sf_ (lo_ (N_ - 1 - j_)) by omega), decide_eq_false (show ¬ q_ = nsw sf_ (hi_ (N_ - 1 - j_)) by omega), Bool.or_false, Bool.or_false]
theorem ndk_fn {F_ N_ : Nat} {sf_ lo_ hi_ : Nat → Int} {m0_ : Nat → Bool} (hg_ : glo F_ N_ lo_ hi_) (hs_ : ∀ m_, m_ < N_ → 0 ≤ sf_ m_ ∧ sf_ m_ ≤ 2 * (m_ : Int) + 1) : ∀ (i_ j_ q_ : Nat), j_ + i_ = N_ - F_ → N_ - 1 - j_ ≤ q_ → (ndk N_ sf_ lo_ hi_ m0_ (N_ - F_)).1 q_ = (ndk N_ sf_ lo_ hi_ m0_ j_).1 q_
  | 0, j_, q_, e_, _ => by
    have e_ : j_ = N_ - F_ := e_
    rw [e_]
  | i_ + 1, j_, q_, e_, h_ => by
    rw [ndk_fn hg_ hs_ i_ (j_ + 1) q_ (by omega) (by omega)]
    exact ndk_st hg_ hs_ (by omega) h_

/-! Design.markNeeded -/
def vw_67mn : sx_Wl := ([], [59], [])
def vq_67mn (dd_ : Nat) (F_ : Nat) (S0_ : sm_S) (u_ : Option sm_V) (S1_ : sm_S) : Prop := ∃ v_ : Int, u_ = some (.inl v_) ∧ gi S1_ ∧ ai_fr (sx_W vw_67mn) S0_ S1_ ∧ (((0 ≤ v_ ∧ v_ ≤ 1000) ∧ mkd dd_ F_ S1_ (S1_.2.2.1 59 0)) ∧ ndi (S0_.1 3 dd_ 4).toNat ((S0_.1 3 dd_ 4).toNat - F_) (S0_.2.2.1 44 (0 + dd_)) (S0_.2.2.1 42 (0 + dd_)) (S0_.2.2.1 43 (0 + dd_)) (nd0 (S0_.2.2.1 44 (0 + dd_)) (fun j_ => rtv dd_ S0_ (j_ : Int)) (S0_.1 3 dd_ 3 + S0_.1 3 dd_ 2).toNat) (S1_.2.2.1 59 0) v_)
set_option maxHeartbeats 2000000 in
theorem vl_67mn {sc_ : Nat × (Nat → Int)} (dd_ : Nat) (F_ : Nat) (S0_ : sm_S) (hg_ : dgr dd_ F_ S0_) (hr_ : drt dd_ S0_) (hs_ : swp dd_ F_ S0_) : ∀ nn_ : Nat, (∀ (k_ : Int) (S_ : sm_S), gi S_ → ai_fr (sx_W vw_67mn) S0_ S_ → ((ni0 (S0_.1 3 dd_ 4).toNat k_.toNat (S0_.2.2.1 44 (0 + dd_)) (fun j_ => rtv dd_ S0_ (j_ : Int)) (S_.2.2.1 59 0)) ∧ (0 ≤ k_ ∧ k_ ≤ S0_.1 3 dd_ 3 + S0_.1 3 dd_ 2) ∧ (∀ j9_ : Nat, j9_ < 1013 → S_.2.2.1 59 0 j9_ = 0 ∨ (S_.2.2.1 59 0 j9_ = 1 ∧ (j9_ : Int) < S0_.1 3 dd_ 4 ∧ S0_.2.2.1 44 (0 + dd_) j9_ = 2 * (j9_ : Int))) ∧ (∀ i9_ : Int, 0 ≤ i9_ → i9_ < k_ → S_.2.2.1 59 0 (srp dd_ S0_ (rtv dd_ S0_ i9_)) = 1) ∧ True) → ((5000 + (100 - k_)).toNat) < nn_ → sm_T (mt_P sc_) 1 67 (7, [some (.inr (.inr (some (3, dd_)))), some (.inr (.inr (some (59, 0)))), some (.inl k_), none], [], S_) (fun ro9_ => ∃ u_ S1_, ro9_ = (.inl u_, S1_, 0) ∧ vq_67mn dd_ F_ S0_ u_ S1_)) ∧ (∀ (c_ : Int) (n_ : Int) (S_ : sm_S), gi S_ → ai_fr (sx_W vw_67mn) S0_ S_ → ((ndi (S0_.1 3 dd_ 4).toNat (S0_.1 3 dd_ 4 - 1 - n_).toNat (S0_.2.2.1 44 (0 + dd_)) (S0_.2.2.1 42 (0 + dd_)) (S0_.2.2.1 43 (0 + dd_)) (nd0 (S0_.2.2.1 44 (0 + dd_)) (fun j_ => rtv dd_ S0_ (j_ : Int)) (S0_.1 3 dd_ 3 + S0_.1 3 dd_ 2).toNat) (S_.2.2.1 59 0) c_) ∧ ((F_ : Int) - 1 ≤ n_ ∧ n_ < S0_.1 3 dd_ 4 ∧ 0 ≤ c_ ∧ c_ ≤ S0_.1 3 dd_ 4 - 1 - n_) ∧ (∀ j9_ : Nat, j9_ < 1013 → S_.2.2.1 59 0 j9_ = 0 ∨ (S_.2.2.1 59 0 j9_ = 1 ∧ (j9_ : Int) < S0_.1 3 dd_ 4 ∧ S0_.2.2.1 44 (0 + dd_) j9_ = 2 * (j9_ : Int))) ∧ (∀ i9_ : Int, 0 ≤ i9_ → i9_ < S0_.1 3 dd_ 3 + S0_.1 3 dd_ 2 → S_.2.2.1 59 0 (srp dd_ S0_ (rtv dd_ S0_ i9_)) = 1) ∧ (∀ j9_ : Nat, n_ < (j9_ : Int) → F_ ≤ j9_ → (j9_ : Int) < S0_.1 3 dd_ 4 → S_.2.2.1 59 0 j9_ = 1 → S_.2.2.1 59 0 (srp dd_ S0_ (S0_.2.2.1 42 (0 + dd_) j9_)) = 1 ∧ S_.2.2.1 59 0 (srp dd_ S0_ (S0_.2.2.1 43 (0 + dd_) j9_)) = 1) ∧ True) → ((n_ + 1).toNat) < nn_ → sm_T (mt_P sc_) 1 67 (44, [some (.inr (.inr (some (3, dd_)))), some (.inr (.inr (some (59, 0)))), some (.inl c_), some (.inl n_)], [], S_) (fun ro9_ => ∃ u_ S1_, ro9_ = (.inl u_, S1_, 0) ∧ vq_67mn dd_ F_ S0_ u_ S1_)) := by
  intro nn_
  induction nn_ with
  | zero => exact ⟨fun _ _ _ _ _ h_ => absurd h_ (Nat.not_lt_zero _), fun _ _ _ _ _ _ h_ => absurd h_ (Nat.not_lt_zero _)⟩
  | succ nn_ ih_ =>
    refine ⟨?_, ?_⟩
    · rintro k_ S_ hI_ hF_ ⟨hnd_, h0_, hz_, hq_, -⟩ hm_
      have g1_ := hg_.1
      have g2_ := hg_.2.1
      have r1_ := hr_.1
      have e2_ : S_.1 3 dd_ 2 = S0_.1 3 dd_ 2 := hF_.1 3 dd_ 2 rfl
      have e1_ : S_.1 3 dd_ 1 = S0_.1 3 dd_ 1 := hF_.1 3 dd_ 1 rfl
      have e3_ : S_.1 3 dd_ 3 = S0_.1 3 dd_ 3 := hF_.1 3 dd_ 3 rfl
      have e4_ : S_.1 3 dd_ 4 = S0_.1 3 dd_ 4 := hF_.1 3 dd_ 4 rfl
      have n13_ : S_.1 3 dd_ 4 ≤ 1013 := (hI_.1 3 dd_ 4 rfl).2
      have f44_ : S_.2.2.1 44 (0 + dd_) = S0_.2.2.1 44 (0 + dd_) := fr_arr hF_ rfl
      have f42_ : S_.2.2.1 42 (0 + dd_) = S0_.2.2.1 42 (0 + dd_) := fr_arr hF_ rfl
      have f43_ : S_.2.2.1 43 (0 + dd_) = S0_.2.2.1 43 (0 + dd_) := fr_arr hF_ rfl
      have f45_ : S_.2.2.1 45 (0 + dd_) = S0_.2.2.1 45 (0 + dd_) := fr_arr hF_ rfl
      have f46_ : S_.2.2.1 46 (0 + dd_) = S0_.2.2.1 46 (0 + dd_) := fr_arr hF_ rfl
      refine sm_T_go 2 (c1 := (9, [some (.inr (.inr (some (3, dd_)))), some (.inr (.inr (some (59, 0)))), some (.inl k_), none], [.inr (.inr (some (3, dd_))), .inl k_], S_)) rfl ?_
      refine sm_T_cal (d1 := 0) (Q1 := vq_66 dd_ S_) rfl rfl (by decide) (vc_66 dd_ S_ hI_ (by omega)) (fun u_ Sx1_ px4_ => ?_)
      obtain ⟨rfl, vx6_, rfl, px4_⟩ := px4_
      have e9_ := px4_
      refine sm_T_br (a := 3) (z := 23) rfl (fun cx7_ => ?_) (fun cx7_ => ?_)
      · have cx7_ : vx6_ ≤ k_ := of_decide_eq_true cx7_
        have bx8_ : 0 ≤ S_.1 3 dd_ 4 ∧ S_.1 3 dd_ 4 ≤ 1013 := hI_.1 3 dd_ 4 rfl
        refine sm_T_go 5 (c1 := (42, [some (.inr (.inr (some (3, dd_)))), some (.inr (.inr (some (59, 0)))), some (.inl 0), none], [.inl 1, .inl (S_.1 3 dd_ 4)], S_)) rfl ?_
        refine sm_T_bin (w := (S_.1 3 dd_ 4) - 1) rfl (bi_sub (by omega) (by omega) (by omega)) ?_ -- pc_ 42
        refine sm_T_go 1 (c1 := (44, [some (.inr (.inr (some (3, dd_)))), some (.inr (.inr (some (59, 0)))), some (.inl 0), some (.inl ((S_.1 3 dd_ 4) - 1))], [], S_)) rfl ?_
        refine ih_.2 0 ((S_.1 3 dd_ 4) - 1) S_ hI_ hF_ ⟨?_, ?_, ?_, ?_, ?_, trivial⟩ ?_
        · have j9_ : ∀ x9_ : Int, x9_ = S0_.1 3 dd_ 4 - 1 → (S0_.1 3 dd_ 4 - 1 - x9_).toNat = 0 := fun x9_ y9_ => by omega
          rw [j9_ _ (by omega), show (S0_.1 3 dd_ 3 + S0_.1 3 dd_ 2).toNat = k_.toNat by omega]
          exact ndi_0 hnd_
        · omega
        · exact hz_
        · (intro i9_ q8_ q9_; exact hq_ i9_ q8_ (by omega))
        · (intro j9_ q7_ q8_ q9_; omega)
        · omega
      · have cx7_ : ¬ (vx6_ ≤ k_) := of_decide_eq_false cx7_
        refine sm_T_go 4 (c1 := (19, [some (.inr (.inr (some (3, dd_)))), some (.inr (.inr (some (59, 0)))), some (.inl k_), none], [.inl k_, .inr (.inr (some (3, dd_))), .inr (.inr (some (3, dd_))), .inr (.inr (some (59, 0)))], S_)) rfl ?_
        refine sm_T_cal (d1 := 0) (Q1 := vq_65 k_ dd_ S_) rfl rfl (by decide) (vc_65 k_ dd_ S_ hI_ (by exact drt_fr hr_ hF_ rfl rfl rfl rfl rfl) (by omega)) (fun u_ Sx9_ px12_ => ?_)
        obtain ⟨rfl, vx14_, rfl, px12_⟩ := px12_
        have e19_ := px12_
        have v19_ : vx14_ = rtv dd_ S0_ k_ := by rw [e19_.1]; unfold rtv; rw [e3_, f45_, f46_]
        refine sm_T_cal (d1 := 0) (Q1 := vq_64 vx14_ dd_ S_) rfl rfl (by decide) (vc_64 vx14_ dd_ S_ hI_ (by omega)) (fun u_ Sx15_ px18_ => ?_)
        obtain ⟨rfl, vx20_, rfl, px18_⟩ := px18_
        have e22_ := px18_
        rw [f44_] at e22_
        have sw9_ := swl_n hs_ (l_ := rtv dd_ S0_ k_) (by omega) (by omega) (by omega)
        rw [v19_] at e22_
        rw [← e22_] at sw9_
        have sb9_ := srp_b hs_ (l_ := rtv dd_ S0_ k_) (by omega) (by omega)
        have tn9_ : (vx20_ / 2).toNat = srp dd_ S0_ (rtv dd_ S0_ k_) := by omega
        refine sm_T_go 1 (c1 := (26, [some (.inr (.inr (some (3, dd_)))), some (.inr (.inr (some (59, 0)))), some (.inl k_), none], [.inl 1, .inl vx20_, .inr (.inr (some (59, 0)))], S_)) rfl ?_
        refine sm_T_bin (w := (vx20_ / 2)) rfl (bi_shr (k := 1) (by decide) (by omega) (by omega)) ?_ -- pc_ 26
        refine sm_T_go 1 (c1 := (28, [some (.inr (.inr (some (3, dd_)))), some (.inr (.inr (some (59, 0)))), some (.inl k_), none], [.inl 1, .inl (vx20_ / 2), .inr (.inr (some (59, 0)))], S_)) rfl ?_
        refine sm_T_iast (n := 1013) rfl rfl (by omega) (by omega) ?_
        have hIx21_ : gi (sm_aI S_ 59 0 (vx20_ / 2).toNat 1) := gi_aI hI_ (show 0 ≤ 1 ∧ 1 ≤ 1 from ⟨by omega, by omega⟩)
        have hFx22_ : ai_fr (sx_W vw_67mn) S0_ (sm_aI S_ 59 0 (vx20_ / 2).toNat 1) := ai_fr_tr hF_ (ai_fr_aI rfl)
        refine sm_T_inc (a := 2) (z := 1) (v := k_) (w := k_ + 1) rfl rfl (by omega) (by omega) (by omega) ?_ -- pc_ 29
        refine sm_T_go 1 (c1 := (7, [some (.inr (.inr (some (3, dd_)))), some (.inr (.inr (some (59, 0)))), some (.inl (k_ + 1)), none], [], sm_aI S_ 59 0 (vx20_ / 2).toNat 1)) rfl ?_
        refine ih_.1 (k_ + 1) (sm_aI S_ 59 0 (vx20_ / 2).toNat 1) hIx21_ hFx22_ ⟨?_, ?_, ?_, ?_, trivial⟩ ?_
        · rw [show (k_ + 1).toNat = k_.toNat + 1 by omega]
          refine ni0_s hnd_ (fun q9_ => rd_eq.trans ?_)
          show _ = if q9_ = srp dd_ S0_ (rtv dd_ S0_ ((k_.toNat : Nat) : Int)) then 1 else _
          rw [show ((k_.toNat : Nat) : Int) = k_ by omega, ← tn9_]
        · omega
        · intro j9_ hj9_
          rw [rd_eq]
          by_cases z9_ : j9_ = srp dd_ S0_ (rtv dd_ S0_ k_)
          · rw [if_pos (by omega)]; right; rw [z9_]; exact ⟨rfl, by omega, sb9_.2.1⟩
          · rw [if_neg (by omega)]; exact hz_ j9_ hj9_
        · intro i9_ q8_ q9_
          rw [rd_eq]
          by_cases z9_ : srp dd_ S0_ (rtv dd_ S0_ i9_) = srp dd_ S0_ (rtv dd_ S0_ k_)
          · rw [if_pos (by omega)]
          · rw [if_neg (by omega)]; exact hq_ i9_ q8_ (by by_cases y9_ : i9_ = k_; (exact absurd (by rw [y9_]) z9_); omega)
        · omega
    · rintro c_ n_ S_ hI_ hF_ ⟨hnd_, h0_, hz_, hq_, hc_, -⟩ hm_
      have g1_ := hg_.1
      have g2_ := hg_.2.1
      have r1_ := hr_.1
      have e2_ : S_.1 3 dd_ 2 = S0_.1 3 dd_ 2 := hF_.1 3 dd_ 2 rfl
      have e1_ : S_.1 3 dd_ 1 = S0_.1 3 dd_ 1 := hF_.1 3 dd_ 1 rfl
      have e3_ : S_.1 3 dd_ 3 = S0_.1 3 dd_ 3 := hF_.1 3 dd_ 3 rfl
      have e4_ : S_.1 3 dd_ 4 = S0_.1 3 dd_ 4 := hF_.1 3 dd_ 4 rfl
      have n13_ : S_.1 3 dd_ 4 ≤ 1013 := (hI_.1 3 dd_ 4 rfl).2
      have f44_ : S_.2.2.1 44 (0 + dd_) = S0_.2.2.1 44 (0 + dd_) := fr_arr hF_ rfl
      have f42_ : S_.2.2.1 42 (0 + dd_) = S0_.2.2.1 42 (0 + dd_) := fr_arr hF_ rfl
      have f43_ : S_.2.2.1 43 (0 + dd_) = S0_.2.2.1 43 (0 + dd_) := fr_arr hF_ rfl
      have f45_ : S_.2.2.1 45 (0 + dd_) = S0_.2.2.1 45 (0 + dd_) := fr_arr hF_ rfl
      have f46_ : S_.2.2.1 46 (0 + dd_) = S0_.2.2.1 46 (0 + dd_) := fr_arr hF_ rfl
      refine sm_T_go 2 (c1 := (46, [some (.inr (.inr (some (3, dd_)))), some (.inr (.inr (some (59, 0)))), some (.inl c_), some (.inl n_)], [.inr (.inr (some (3, dd_))), .inl n_], S_)) rfl ?_
      refine sm_T_cal (d1 := 0) (Q1 := vq_63 dd_ S_) rfl rfl (by decide) (vc_63 dd_ S_ hI_ (by omega)) (fun u_ Sx1_ px4_ => ?_)
      obtain ⟨rfl, vx6_, rfl, px4_⟩ := px4_
      have e46_ := px4_
      refine sm_T_br (a := 2) (z := 48) rfl (fun cx7_ => ?_) (fun cx7_ => ?_)
      · have cx7_ : n_ < vx6_ := of_decide_eq_true cx7_
        refine sm_T_go 1 (c1 := (98, [some (.inr (.inr (some (3, dd_)))), some (.inr (.inr (some (59, 0)))), some (.inl c_), some (.inl n_)], [.inl c_], S_)) rfl ?_
        refine sm_T_ri rfl ⟨_, _, rfl, _, rfl, hI_, hF_, ?_⟩
        refine ⟨⟨by omega, fun j9_ hj9_ => ?_, fun i9_ q8_ q9_ => ?_, fun j9_ q7_ q8_ q9_ => ?_⟩, by (rw [show (S0_.1 3 dd_ 4 - 1 - n_).toNat = (S0_.1 3 dd_ 4).toNat - F_ by omega] at hnd_; exact hnd_)⟩
        · have q9_ := hz_ j9_ hj9_; rw [e4_, f44_]; exact q9_
        · have q7_ := hq_ i9_ q8_ (by omega); unfold srp rtv; rw [e3_, f44_, f45_, f46_]; exact q7_
        · have q6_ := hc_ j9_ (by omega) q7_ (by omega) q9_; unfold srp; rw [f42_, f43_, f44_]; exact q6_
      · have cx7_ : ¬ (n_ < vx6_) := of_decide_eq_false cx7_
        have gn_ := hg_.2.2 n_.toNat (by omega) (by omega)
        rw [← f42_, ← f43_] at gn_
        refine sm_T_go 2 (c1 := (54, [some (.inr (.inr (some (3, dd_)))), some (.inr (.inr (some (59, 0)))), some (.inl c_), some (.inl n_)], [.inl n_, .inr (.inr (some (59, 0)))], S_)) rfl ?_
        refine sm_T_iald (n := 1013) rfl rfl (by omega) (by omega) ?_
        have bx8_ : 0 ≤ S_.2.2.1 59 0 n_.toNat ∧ S_.2.2.1 59 0 n_.toNat ≤ 1 := hI_.2 59 0 _
        refine sm_T_b0 (a := 0) (z := 36) rfl (fun cx9_ => ?_) (fun cx9_ => ?_)
        · have cx9_ : (S_.2.2.1 59 0 n_.toNat) = 0 := of_decide_eq_true cx9_
          refine sm_T_inc (a := 3) (z := (-1)) (v := n_) (w := n_ - 1) rfl rfl (by omega) (by omega) (by omega) ?_ -- pc_ 91
          refine sm_T_go 1 (c1 := (44, [some (.inr (.inr (some (3, dd_)))), some (.inr (.inr (some (59, 0)))), some (.inl c_), some (.inl (n_ - 1))], [], S_)) rfl ?_
          refine ih_.2 c_ (n_ - 1) S_ hI_ hF_ ⟨?_, ?_, ?_, ?_, ?_, trivial⟩ ?_
          · have j9_ : ∀ x9_ : Int, x9_ = n_ - 1 → (S0_.1 3 dd_ 4 - 1 - x9_).toNat = (S0_.1 3 dd_ 4 - 1 - n_).toNat + 1 := fun x9_ y9_ => by omega
            rw [j9_ _ (by omega)]
            exact ndi_n (n_ := n_.toNat) hnd_ (by omega) (by omega) (by omega)
          · omega
          · exact hz_
          · exact hq_
          · intro j9_ q6_ q7_ q8_ q9_
            by_cases z9_ : (j9_ : Int) = n_
            · exfalso; rw [show j9_ = n_.toNat by omega] at q9_; omega
            · exact hc_ j9_ (by omega) q7_ q8_ q9_
          · omega
        · have cx9_ : ¬ ((S_.2.2.1 59 0 n_.toNat) = 0) := of_decide_eq_false cx9_
          refine sm_T_inc (a := 2) (z := 1) (v := c_) (w := c_ + 1) rfl rfl (by omega) (by omega) (by omega) ?_ -- pc_ 58
          refine sm_T_go 5 (c1 := (68, [some (.inr (.inr (some (3, dd_)))), some (.inr (.inr (some (59, 0)))), some (.inl (c_ + 1)), some (.inl n_)], [.inl n_, .inr (.inr (some (42, (0 + dd_)))), .inr (.inr (some (3, dd_))), .inr (.inr (some (59, 0)))], S_)) rfl ?_
          refine sm_T_iald (n := 1013) rfl rfl (by omega) (by omega) ?_
          have bx10_ : 0 ≤ S_.2.2.1 42 (0 + dd_) n_.toNat ∧ S_.2.2.1 42 (0 + dd_) n_.toNat ≤ 2025 := hI_.2 42 (0 + dd_) _
          refine sm_T_cal (d1 := 0) (Q1 := vq_64 (S_.2.2.1 42 (0 + dd_) n_.toNat) dd_ S_) rfl rfl (by decide) (vc_64 (S_.2.2.1 42 (0 + dd_) n_.toNat) dd_ S_ hI_ (by omega)) (fun u_ Sx11_ px14_ => ?_)
          obtain ⟨rfl, vx16_, rfl, px14_⟩ := px14_
          have e69_ := px14_
          rw [f44_, f42_] at e69_
          rw [f42_, f43_] at gn_
          have sw9_ := swl_n hs_ (l_ := S0_.2.2.1 42 (0 + dd_) n_.toNat) (by omega) (by omega) (by omega)
          rw [← e69_] at sw9_
          have sb9_ := srp_b hs_ (l_ := S0_.2.2.1 42 (0 + dd_) n_.toNat) (by omega) (by omega)
          have tl9_ : (vx16_ / 2).toNat = srp dd_ S0_ (S0_.2.2.1 42 (0 + dd_) n_.toNat) := by omega
          refine sm_T_go 1 (c1 := (73, [some (.inr (.inr (some (3, dd_)))), some (.inr (.inr (some (59, 0)))), some (.inl (c_ + 1)), some (.inl n_)], [.inl 1, .inl vx16_, .inr (.inr (some (59, 0)))], S_)) rfl ?_
          refine sm_T_bin (w := (vx16_ / 2)) rfl (bi_shr (k := 1) (by decide) (by omega) (by omega)) ?_ -- pc_ 73
          refine sm_T_go 1 (c1 := (75, [some (.inr (.inr (some (3, dd_)))), some (.inr (.inr (some (59, 0)))), some (.inl (c_ + 1)), some (.inl n_)], [.inl 1, .inl (vx16_ / 2), .inr (.inr (some (59, 0)))], S_)) rfl ?_
          refine sm_T_iast (n := 1013) rfl rfl (by omega) (by omega) ?_
          have hIx17_ : gi (sm_aI S_ 59 0 (vx16_ / 2).toNat 1) := gi_aI hI_ (show 0 ≤ 1 ∧ 1 ≤ 1 from ⟨by omega, by omega⟩)
          have hFx18_ : ai_fr (sx_W vw_67mn) S0_ (sm_aI S_ 59 0 (vx16_ / 2).toNat 1) := ai_fr_tr hF_ (ai_fr_aI rfl)
          refine sm_T_go 5 (c1 := (83, [some (.inr (.inr (some (3, dd_)))), some (.inr (.inr (some (59, 0)))), some (.inl (c_ + 1)), some (.inl n_)], [.inl n_, .inr (.inr (some (43, (0 + dd_)))), .inr (.inr (some (3, dd_))), .inr (.inr (some (59, 0)))], sm_aI S_ 59 0 (vx16_ / 2).toNat 1)) rfl ?_
          refine sm_T_iald (n := 1013) rfl rfl (by omega) (by omega) ?_
          have bx19_ : 0 ≤ S_.2.2.1 43 (0 + dd_) n_.toNat ∧ S_.2.2.1 43 (0 + dd_) n_.toNat ≤ 2025 := hI_.2 43 (0 + dd_) _
          refine sm_T_go 0 (c1 := (84, [some (.inr (.inr (some (3, dd_)))), some (.inr (.inr (some (59, 0)))), some (.inl (c_ + 1)), some (.inl n_)], [.inl (S_.2.2.1 43 (0 + dd_) n_.toNat), .inr (.inr (some (3, dd_))), .inr (.inr (some (59, 0)))], sm_aI S_ 59 0 (vx16_ / 2).toNat 1)) rfl ?_
          refine sm_T_cal (d1 := 0) (Q1 := vq_64 (S_.2.2.1 43 (0 + dd_) n_.toNat) dd_ (sm_aI S_ 59 0 (vx16_ / 2).toNat 1)) rfl rfl (by decide) (vc_64 (S_.2.2.1 43 (0 + dd_) n_.toNat) dd_ (sm_aI S_ 59 0 (vx16_ / 2).toNat 1) hIx17_ (by (rw [f43_]; omega))) (fun u_ Sx20_ px23_ => ?_)
          obtain ⟨rfl, vx25_, rfl, px23_⟩ := px23_
          have e84_ := px23_
          simp only [rd_ne, ne_eq, Nat.reduceEqDiff, not_false_eq_true] at e84_
          rw [f44_, f43_] at e84_
          have sw8_ := swl_n hs_ (l_ := S0_.2.2.1 43 (0 + dd_) n_.toNat) (by omega) (by omega) (by omega)
          rw [← e84_] at sw8_
          have sb8_ := srp_b hs_ (l_ := S0_.2.2.1 43 (0 + dd_) n_.toNat) (by omega) (by omega)
          have th9_ : (vx25_ / 2).toNat = srp dd_ S0_ (S0_.2.2.1 43 (0 + dd_) n_.toNat) := by omega
          refine sm_T_go 1 (c1 := (88, [some (.inr (.inr (some (3, dd_)))), some (.inr (.inr (some (59, 0)))), some (.inl (c_ + 1)), some (.inl n_)], [.inl 1, .inl vx25_, .inr (.inr (some (59, 0)))], sm_aI S_ 59 0 (vx16_ / 2).toNat 1)) rfl ?_
          refine sm_T_bin (w := (vx25_ / 2)) rfl (bi_shr (k := 1) (by decide) (by omega) (by omega)) ?_ -- pc_ 88
          refine sm_T_go 1 (c1 := (90, [some (.inr (.inr (some (3, dd_)))), some (.inr (.inr (some (59, 0)))), some (.inl (c_ + 1)), some (.inl n_)], [.inl 1, .inl (vx25_ / 2), .inr (.inr (some (59, 0)))], sm_aI S_ 59 0 (vx16_ / 2).toNat 1)) rfl ?_
          refine sm_T_iast (n := 1013) rfl rfl (by omega) (by omega) ?_
          have hIx26_ : gi (sm_aI (sm_aI S_ 59 0 (vx16_ / 2).toNat 1) 59 0 (vx25_ / 2).toNat 1) := gi_aI hIx17_ (show 0 ≤ 1 ∧ 1 ≤ 1 from ⟨by omega, by omega⟩)
          have hFx27_ : ai_fr (sx_W vw_67mn) S0_ (sm_aI (sm_aI S_ 59 0 (vx16_ / 2).toNat 1) 59 0 (vx25_ / 2).toNat 1) := ai_fr_tr hFx18_ (ai_fr_aI rfl)
          refine sm_T_inc (a := 3) (z := (-1)) (v := n_) (w := n_ - 1) rfl rfl (by omega) (by omega) (by omega) ?_ -- pc_ 91
          refine sm_T_go 1 (c1 := (44, [some (.inr (.inr (some (3, dd_)))), some (.inr (.inr (some (59, 0)))), some (.inl (c_ + 1)), some (.inl (n_ - 1))], [], sm_aI (sm_aI S_ 59 0 (vx16_ / 2).toNat 1) 59 0 (vx25_ / 2).toNat 1)) rfl ?_
          refine ih_.2 (c_ + 1) (n_ - 1) (sm_aI (sm_aI S_ 59 0 (vx16_ / 2).toNat 1) 59 0 (vx25_ / 2).toNat 1) hIx26_ hFx27_ ⟨?_, ?_, ?_, ?_, ?_, trivial⟩ ?_
          · have j9_ : ∀ x9_ : Int, x9_ = n_ - 1 → (S0_.1 3 dd_ 4 - 1 - x9_).toNat = (S0_.1 3 dd_ 4 - 1 - n_).toNat + 1 := fun x9_ y9_ => by omega
            rw [j9_ _ (by omega)]
            refine ndi_y (n_ := n_.toNat) hnd_ ?_ (by omega) (by omega) (fun q9_ => ?_)
            · rcases hz_ n_.toNat (by omega) with z9_ | z9_
              · exfalso; omega
              · exact z9_.1
            · rw [rd_eq, rd_eq]
              show _ = if q9_ = srp dd_ S0_ (S0_.2.2.1 43 (0 + dd_) n_.toNat) then 1 else if q9_ = srp dd_ S0_ (S0_.2.2.1 42 (0 + dd_) n_.toNat) then 1 else _
              rw [← tl9_, ← th9_]
          · omega
          · intro j9_ hj9_
            rw [rd_eq]
            by_cases z9_ : j9_ = srp dd_ S0_ (S0_.2.2.1 43 (0 + dd_) n_.toNat)
            · rw [if_pos (by omega)]; right; rw [z9_]; exact ⟨rfl, by omega, sb8_.2.1⟩
            · rw [if_neg (by omega), rd_eq]
              by_cases y9_ : j9_ = srp dd_ S0_ (S0_.2.2.1 42 (0 + dd_) n_.toNat)
              · rw [if_pos (by omega)]; right; rw [y9_]; exact ⟨rfl, by omega, sb9_.2.1⟩
              · rw [if_neg (by omega)]; exact hz_ j9_ hj9_
          · intro i9_ q8_ q9_
            rw [rd_eq]
            split
            · rfl
            · rw [rd_eq]; split; rfl; exact hq_ i9_ q8_ q9_
          · have mono : ∀ j8_ : Nat, S_.2.2.1 59 0 j8_ = 1 → ((sm_aI (sm_aI S_ 59 0 (vx16_ / 2).toNat 1) 59 0 (vx25_ / 2).toNat 1)).2.2.1 59 0 j8_ = 1 := fun j8_ w8_ => by rw [rd_eq]; split; rfl; (rw [rd_eq]; split; rfl; exact w8_)
            intro j9_ q6_ q7_ q8_ q9_
            by_cases z9_ : (j9_ : Int) = n_
            · rw [show j9_ = n_.toNat by omega]
              refine ⟨?_, ?_⟩
              · rw [rd_eq]; split; rfl; (rw [rd_eq, if_pos (by omega)])
              · rw [rd_eq, if_pos (by omega)]
            · have lt9_ := hg_.2.2 j9_ q7_ q8_
              have q5_ : S_.2.2.1 59 0 j9_ = 1 := by rw [rd_eq, if_neg (by omega), rd_eq, if_neg (by omega)] at q9_; exact q9_
              have w9_ := hc_ j9_ (by omega) q7_ q8_ q5_
              exact ⟨mono _ w9_.1, mono _ w9_.2⟩
          · omega
set_option maxHeartbeats 2000000 in
theorem vc_67mn {sc_ : Nat × (Nat → Int)} (dd_ : Nat) (F_ : Nat) (S0_ : sm_S) (hI_ : gi S0_) (hg_ : dgr dd_ F_ S0_) (hr_ : drt dd_ S0_) (hs_ : swp dd_ F_ S0_) : sm_T (mt_P sc_) 1 67 (0, [some (.inr (.inr (some (3, dd_)))), some (.inr (.inr (some (59, 0)))), none, none], [], S0_) (fun ro9_ => ∃ u_ S1_, ro9_ = (.inl u_, S1_, 0) ∧ vq_67mn dd_ F_ S0_ u_ S1_) := by
  have hF_ : ai_fr (sx_W vw_67mn) S0_ S0_ := ai_fr_rf
  refine sm_T_go 2 (c1 := (2, [some (.inr (.inr (some (3, dd_)))), some (.inr (.inr (some (59, 0)))), none, none], [.inl 0, .inr (.inr (some (59, 0)))], S0_)) rfl ?_
  refine sm_T_cal (d1 := 0) (Q1 := vq_2m9 0 S0_) rfl rfl (by decide) (vc_2m9 0 S0_ hI_ (by decide)) (fun u_ Sx1_ px4_ => ?_)
  obtain ⟨rfl, hIx2_, hFx3_, px4_⟩ := px4_
  have hFx5_ : ai_fr (sx_W vw_67mn) S0_ Sx1_ := ai_fr_tr hF_ (fr_le hFx3_ rfl)
  have e0_ := px4_
  refine sm_T_go 2 (c1 := (7, [some (.inr (.inr (some (3, dd_)))), some (.inr (.inr (some (59, 0)))), some (.inl 0), none], [], Sx1_)) rfl ?_
  refine (vl_67mn dd_ F_ S0_ hg_ hr_ hs_ _).1 0 Sx1_ hIx2_ hFx5_ ⟨?_, ?_, ?_, ?_, trivial⟩ (Nat.lt_succ_self _)
  · (have g1_ := hg_.1; have g2_ := hg_.2.1; exact ni0_0 (fun q9_ hq9_ => e0_ q9_ (by omega)))
  · (have r1_ := hr_.1; omega)
  · (intro j9_ hj9_; left; exact e0_ j9_ hj9_)
  · (intro i9_ q8_ q9_; omega)
/-! Mapper.findRoots -/
def vw_95n : sx_Wl := ([], [60], [])
def vq_95n (dd_ : Nat) (F_ : Nat) (S0_ : sm_S) (u_ : Option sm_V) (S1_ : sm_S) : Prop := u_ = none ∧ gi S1_ ∧ ai_fr (sx_W vw_95n) S0_ S1_ ∧ ((∀ q9_ : Nat, (q9_ : Int) < S0_.1 3 dd_ 4 → S1_.2.2.1 60 0 q9_ = if 1 < usn F_ (S0_.1 3 dd_ 4).toNat (S0_.1 3 dd_ 3 + S0_.1 3 dd_ 2).toNat (S0_.2.2.1 44 (0 + dd_)) (S0_.2.2.1 42 (0 + dd_)) (S0_.2.2.1 43 (0 + dd_)) (fun j_ => rtv dd_ S0_ (j_ : Int)) q9_ then 1 else 0) ∧ ∀ i_ : Int, 0 ≤ i_ → i_ < S0_.1 3 dd_ 3 + S0_.1 3 dd_ 2 → S1_.2.2.1 60 0 (srp dd_ S0_ (rtv dd_ S0_ i_)) ≠ 0)
set_option maxHeartbeats 3000000 in
theorem vl_95n {sc_ : Nat × (Nat → Int)} (dd_ : Nat) (F_ : Nat) (S0_ : sm_S) (hd_ : S0_.2.1 6 0 0 = some dd_) (hr_ : drt dd_ S0_) (hg_ : dgr dd_ F_ S0_) (hs_ : swp dd_ F_ S0_) (hnf_ : ∀ q9_ : Nat, (q9_ : Int) < S0_.1 3 dd_ 4 → (S0_.2.2.1 59 0 q9_ = 0 ∨ S0_.2.2.1 59 0 q9_ = 1) ∧ (S0_.2.2.1 59 0 q9_ = 1 ↔ (ndf F_ (S0_.1 3 dd_ 4).toNat (S0_.1 3 dd_ 3 + S0_.1 3 dd_ 2).toNat (S0_.2.2.1 44 (0 + dd_)) (S0_.2.2.1 42 (0 + dd_)) (S0_.2.2.1 43 (0 + dd_)) (fun j_ => rtv dd_ S0_ (j_ : Int))) q9_ = true)) : ∀ nn_ : Nat, (∀ (k_ : Int) (S_ : sm_S), gi S_ → ai_fr (sx_W vw_95n) S0_ S_ → ((∀ q9_ : Nat, (q9_ : Int) < S0_.1 3 dd_ 4 → S_.2.2.1 60 0 q9_ = 2 * ((rcn (S0_.2.2.1 44 (0 + dd_)) (fun j_ => rtv dd_ S0_ (j_ : Int)) k_.toNat q9_ : Nat) : Int)) ∧ (0 ≤ k_ ∧ k_ ≤ S0_.1 3 dd_ 3 + S0_.1 3 dd_ 2) ∧ (∀ j_ : Nat, j_ < 1013 → 0 ≤ S_.2.2.1 60 0 j_ ∧ S_.2.2.1 60 0 j_ ≤ 2 * k_) ∧ (∀ i_ : Int, 0 ≤ i_ → i_ < k_ → 2 ≤ S_.2.2.1 60 0 (srp dd_ S0_ (rtv dd_ S0_ i_))) ∧ True) → ((9000 - k_).toNat) < nn_ → sm_T (mt_P sc_) 2 95 (10, [some (.inr (.inr (some (6, 0)))), some (.inl k_)], [], S_) (fun ro9_ => ∃ u_ S1_, ro9_ = (.inl u_, S1_, 0) ∧ vq_95n dd_ F_ S0_ u_ S1_)) ∧ (∀ (n_ : Int) (S_ : sm_S), gi S_ → ai_fr (sx_W vw_95n) S0_ S_ → ((∀ q9_ : Nat, (q9_ : Int) < S0_.1 3 dd_ 4 → S_.2.2.1 60 0 q9_ = ((2 * rcn (S0_.2.2.1 44 (0 + dd_)) (fun j_ => rtv dd_ S0_ (j_ : Int)) (S0_.1 3 dd_ 3 + S0_.1 3 dd_ 2).toNat q9_ + psm (pgn (S0_.2.2.1 44 (0 + dd_)) (S0_.2.2.1 42 (0 + dd_)) (S0_.2.2.1 43 (0 + dd_)) (ndf F_ (S0_.1 3 dd_ 4).toNat (S0_.1 3 dd_ 3 + S0_.1 3 dd_ 2).toNat (S0_.2.2.1 44 (0 + dd_)) (S0_.2.2.1 42 (0 + dd_)) (S0_.2.2.1 43 (0 + dd_)) (fun j_ => rtv dd_ S0_ (j_ : Int))) q9_) F_ (n_.toNat - F_) : Nat) : Int)) ∧ ((F_ : Int) ≤ n_ ∧ n_ ≤ S0_.1 3 dd_ 4) ∧ (0 ≤ n_ ∧ n_ ≤ 1013) ∧ (∀ j_ : Nat, j_ < 1013 → 0 ≤ S_.2.2.1 60 0 j_ ∧ S_.2.2.1 60 0 j_ ≤ 100 + 2 * n_) ∧ (∀ i_ : Int, 0 ≤ i_ → i_ < S0_.1 3 dd_ 3 + S0_.1 3 dd_ 2 → 2 ≤ S_.2.2.1 60 0 (srp dd_ S0_ (rtv dd_ S0_ i_))) ∧ True) → ((5000 - n_).toNat) < nn_ → sm_T (mt_P sc_) 2 95 (61, [some (.inr (.inr (some (6, 0)))), some (.inl n_)], [], S_) (fun ro9_ => ∃ u_ S1_, ro9_ = (.inl u_, S1_, 0) ∧ vq_95n dd_ F_ S0_ u_ S1_)) ∧ (∀ (n_ : Int) (S_ : sm_S), gi S_ → ai_fr (sx_W vw_95n) S0_ S_ → ((∀ q9_ : Nat, (q9_ : Int) < S0_.1 3 dd_ 4 → S_.2.2.1 60 0 q9_ = if (q9_ : Int) < n_ then (if 1 < usn F_ (S0_.1 3 dd_ 4).toNat (S0_.1 3 dd_ 3 + S0_.1 3 dd_ 2).toNat (S0_.2.2.1 44 (0 + dd_)) (S0_.2.2.1 42 (0 + dd_)) (S0_.2.2.1 43 (0 + dd_)) (fun j_ => rtv dd_ S0_ (j_ : Int)) q9_ then 1 else 0) else ((usn F_ (S0_.1 3 dd_ 4).toNat (S0_.1 3 dd_ 3 + S0_.1 3 dd_ 2).toNat (S0_.2.2.1 44 (0 + dd_)) (S0_.2.2.1 42 (0 + dd_)) (S0_.2.2.1 43 (0 + dd_)) (fun j_ => rtv dd_ S0_ (j_ : Int)) q9_ : Nat) : Int)) ∧ (0 ≤ n_ ∧ n_ ≤ 1013) ∧ (∀ i_ : Int, 0 ≤ i_ → i_ < S0_.1 3 dd_ 3 + S0_.1 3 dd_ 2 → imq ((srp dd_ S0_ (rtv dd_ S0_ i_) : Int) < n_) (S_.2.2.1 60 0 (srp dd_ S0_ (rtv dd_ S0_ i_)) = 1) ∧ imq (n_ ≤ (srp dd_ S0_ (rtv dd_ S0_ i_) : Int)) (2 ≤ S_.2.2.1 60 0 (srp dd_ S0_ (rtv dd_ S0_ i_)))) ∧ True) → ((2000 - n_).toNat) < nn_ → sm_T (mt_P sc_) 2 95 (117, [some (.inr (.inr (some (6, 0)))), some (.inl n_)], [], S_) (fun ro9_ => ∃ u_ S1_, ro9_ = (.inl u_, S1_, 0) ∧ vq_95n dd_ F_ S0_ u_ S1_)) := by
  intro nn_
  induction nn_ with
  | zero => exact ⟨fun _ _ _ _ _ h_ => absurd h_ (Nat.not_lt_zero _), fun _ _ _ _ _ h_ => absurd h_ (Nat.not_lt_zero _), fun _ _ _ _ _ h_ => absurd h_ (Nat.not_lt_zero _)⟩
  | succ nn_ ih_ =>
    refine ⟨?_, ?_, ?_⟩
    · rintro k_ S_ hI_ hF_ ⟨hu_, h0_, hb_, hq_, -⟩ hm_
      have r1_ := hr_.1
      have c1_ : 0 ≤ S_.1 3 dd_ 1 ∧ S_.1 3 dd_ 1 ≤ 320 := hI_.1 3 dd_ 1 rfl
      have n13_ : 0 ≤ S_.1 3 dd_ 4 ∧ S_.1 3 dd_ 4 ≤ 1013 := hI_.1 3 dd_ 4 rfl
      have f1_ : S_.1 3 dd_ 1 = S0_.1 3 dd_ 1 := hF_.1 3 dd_ 1 rfl
      have f2_ : S_.1 3 dd_ 2 = S0_.1 3 dd_ 2 := hF_.1 3 dd_ 2 rfl
      have f3_ : S_.1 3 dd_ 3 = S0_.1 3 dd_ 3 := hF_.1 3 dd_ 3 rfl
      have f4_ : S_.1 3 dd_ 4 = S0_.1 3 dd_ 4 := hF_.1 3 dd_ 4 rfl
      have g1_ := hg_.1
      have f44_ : S_.2.2.1 44 (0 + dd_) = S0_.2.2.1 44 (0 + dd_) := fr_arr hF_ rfl
      have f45_ : S_.2.2.1 45 (0 + dd_) = S0_.2.2.1 45 (0 + dd_) := fr_arr hF_ rfl
      have f46_ : S_.2.2.1 46 (0 + dd_) = S0_.2.2.1 46 (0 + dd_) := fr_arr hF_ rfl
      refine sm_T_go 2 (c1 := (12, [some (.inr (.inr (some (6, 0)))), some (.inl k_)], [.inr (.inr (some (6, 0))), .inl k_], S_)) rfl ?_
      refine sm_T_gr rfl rfl ((hF_.2.1 6 0 0 rfl).trans hd_) ?_
      refine sm_T_cal (d1 := 0) (Q1 := vq_66 dd_ S_) rfl rfl (by decide) (vc_66 dd_ S_ hI_ (by omega)) (fun u_ Sx1_ px4_ => ?_)
      obtain ⟨rfl, vx6_, rfl, px4_⟩ := px4_
      have r15_ := px4_
      refine sm_T_br (a := 3) (z := 35) rfl (fun cx7_ => ?_) (fun cx7_ => ?_)
      · have cx7_ : vx6_ ≤ k_ := of_decide_eq_true cx7_
        refine sm_T_go 1 (c1 := (54, [some (.inr (.inr (some (6, 0)))), some (.inl k_)], [.inr (.inr (some (6, 0)))], S_)) rfl ?_
        refine sm_T_gr rfl rfl ((hF_.2.1 6 0 0 rfl).trans hd_) ?_
        refine sm_T_cal (d1 := 0) (Q1 := vq_63 dd_ S_) rfl rfl (by decide) (vc_63 dd_ S_ hI_ (by omega)) (fun u_ Sx8_ px11_ => ?_)
        obtain ⟨rfl, vx13_, rfl, px11_⟩ := px11_
        have a57_ := px11_
        refine sm_T_go 1 (c1 := (61, [some (.inr (.inr (some (6, 0)))), some (.inl vx13_)], [], S_)) rfl ?_
        refine ih_.2.1 vx13_ S_ hI_ hF_ ⟨?_, ?_, ?_, ?_, ?_, trivial⟩ ?_
        · intro q9_ hq9_
          have w9_ := hu_ q9_ hq9_
          rw [w9_, show (S0_.1 3 dd_ 3 + S0_.1 3 dd_ 2).toNat = k_.toNat by omega]
          have n9_ : ∀ x9_ : Int, x9_ = (F_ : Int) → x9_.toNat - F_ = 0 := fun x9_ y9_ => by omega
          rw [n9_ _ (by omega)]
          show _ = ((2 * rcn (S0_.2.2.1 44 (0 + dd_)) (fun j_ => rtv dd_ S0_ (j_ : Int)) k_.toNat q9_ + 0 : Nat) : Int)
          omega
        · (have c9_ := hg_.2.1; have c8_ := hg_.1.1; omega)
        · omega
        · (intro j_ hj_; have w9_ := hb_ j_ hj_; omega)
        · (intro i_ u_ w_; exact hq_ i_ u_ (by omega))
        · omega
      · have cx7_ : ¬ (vx6_ ≤ k_) := of_decide_eq_false cx7_
        refine sm_T_go 3 (c1 := (26, [some (.inr (.inr (some (6, 0)))), some (.inl k_)], [.inr (.inr (some (6, 0))), .inr (.inr (some (60, 0)))], S_)) rfl ?_
        refine sm_T_gr rfl rfl ((hF_.2.1 6 0 0 rfl).trans hd_) ?_
        refine sm_T_go 1 (c1 := (30, [some (.inr (.inr (some (6, 0)))), some (.inl k_)], [.inr (.inr (some (6, 0))), .inr (.inr (some (3, dd_))), .inr (.inr (some (60, 0)))], S_)) rfl ?_
        refine sm_T_gr rfl rfl ((hF_.2.1 6 0 0 rfl).trans hd_) ?_
        refine sm_T_go 1 (c1 := (34, [some (.inr (.inr (some (6, 0)))), some (.inl k_)], [.inl k_, .inr (.inr (some (3, dd_))), .inr (.inr (some (3, dd_))), .inr (.inr (some (60, 0)))], S_)) rfl ?_
        refine sm_T_cal (d1 := 0) (Q1 := vq_65 k_ dd_ S_) rfl rfl (by decide) (vc_65 k_ dd_ S_ hI_ (by exact drt_fr hr_ hF_ rfl rfl rfl rfl rfl) (by omega)) (fun u_ Sx14_ px17_ => ?_)
        obtain ⟨rfl, vx19_, rfl, px17_⟩ := px17_
        have t34_ := px17_
        have v34_ : vx19_ = rtv dd_ S0_ k_ := by (rw [t34_.1]; unfold rtv; rw [f3_, f45_, f46_])
        refine sm_T_cal (d1 := 0) (Q1 := vq_64 vx19_ dd_ S_) rfl rfl (by decide) (vc_64 vx19_ dd_ S_ hI_ (by omega)) (fun u_ Sx20_ px23_ => ?_)
        obtain ⟨rfl, vx25_, rfl, px23_⟩ := px23_
        have e37_ := px23_
        have x37_ : 0 ≤ vx25_ ∧ vx25_ ≤ 2025 := by (rw [e37_]; exact swx (hI_.2 44 (0 + dd_) _) (by omega))
        rw [f44_, v34_] at e37_
        have rb9_ := (rtv_b hr_ hs_ h0_.1 (show k_ < S0_.1 3 dd_ 3 + S0_.1 3 dd_ 2 by omega)).1
        have sw9_ := swl_n hs_ (l_ := rtv dd_ S0_ k_) rb9_.1 rb9_.2 (by omega)
        rw [← e37_] at sw9_
        have tn9_ : (vx25_ / 2).toNat = srp dd_ S0_ (rtv dd_ S0_ k_) := by omega
        have hb9_ := hb_ (vx25_ / 2).toNat (by omega)
        refine sm_T_go 1 (c1 := (41, [some (.inr (.inr (some (6, 0)))), some (.inl k_)], [.inl 1, .inl vx25_, .inr (.inr (some (60, 0)))], S_)) rfl ?_
        refine sm_T_bin (w := (vx25_ / 2)) rfl (bi_shr (k := 1) (by decide) (by omega) (by omega)) ?_ -- pc_ 41
        refine sm_T_go 1 (c1 := (43, [some (.inr (.inr (some (6, 0)))), some (.inl k_)], [.inl (vx25_ / 2), .inr (.inr (some (60, 0))), .inl (vx25_ / 2), .inr (.inr (some (60, 0)))], S_)) rfl ?_
        refine sm_T_iald (n := 1013) rfl rfl (by omega) (by omega) ?_
        have bx26_ : (-2147483648) ≤ S_.2.2.1 60 0 (vx25_ / 2).toNat ∧ S_.2.2.1 60 0 (vx25_ / 2).toNat ≤ 2147483647 := hI_.2 60 0 _
        refine sm_T_go 1 (c1 := (45, [some (.inr (.inr (some (6, 0)))), some (.inl k_)], [.inl 2, .inl (S_.2.2.1 60 0 (vx25_ / 2).toNat), .inl (vx25_ / 2), .inr (.inr (some (60, 0)))], S_)) rfl ?_
        refine sm_T_bin (w := (S_.2.2.1 60 0 (vx25_ / 2).toNat) + 2) rfl (bi_add (by omega) (by omega) (by omega)) ?_ -- pc_ 45
        refine sm_T_iast (n := 1013) rfl rfl (by omega) (by omega) ?_
        have hIx27_ : gi (sm_aI S_ 60 0 (vx25_ / 2).toNat ((S_.2.2.1 60 0 (vx25_ / 2).toNat) + 2)) := gi_aI hI_ (show (-2147483648) ≤ (S_.2.2.1 60 0 (vx25_ / 2).toNat) + 2 ∧ (S_.2.2.1 60 0 (vx25_ / 2).toNat) + 2 ≤ 2147483647 from ⟨by omega, by omega⟩)
        have hFx28_ : ai_fr (sx_W vw_95n) S0_ (sm_aI S_ 60 0 (vx25_ / 2).toNat ((S_.2.2.1 60 0 (vx25_ / 2).toNat) + 2)) := ai_fr_tr hF_ (ai_fr_aI rfl)
        refine sm_T_inc (a := 1) (z := 1) (v := k_) (w := k_ + 1) rfl rfl (by omega) (by omega) (by omega) ?_ -- pc_ 47
        refine sm_T_go 1 (c1 := (10, [some (.inr (.inr (some (6, 0)))), some (.inl (k_ + 1))], [], sm_aI S_ 60 0 (vx25_ / 2).toNat ((S_.2.2.1 60 0 (vx25_ / 2).toNat) + 2))) rfl ?_
        refine ih_.1 (k_ + 1) (sm_aI S_ 60 0 (vx25_ / 2).toNat ((S_.2.2.1 60 0 (vx25_ / 2).toNat) + 2)) hIx27_ hFx28_ ⟨?_, ?_, ?_, ?_, trivial⟩ ?_
        · intro q9_ hq9_
          have w9_ := hu_ q9_ hq9_
          rw [show (k_ + 1).toNat = k_.toNat + 1 by omega, rd_eq]
          show _ = 2 * ((rcn (S0_.2.2.1 44 (0 + dd_)) (fun j_ => rtv dd_ S0_ (j_ : Int)) k_.toNat q9_ + (if q9_ = srp dd_ S0_ (rtv dd_ S0_ ((k_.toNat : Nat) : Int)) then 1 else 0) : Nat) : Int)
          rw [show ((k_.toNat : Nat) : Int) = k_ by omega]
          by_cases z9_ : q9_ = srp dd_ S0_ (rtv dd_ S0_ k_)
          · rw [if_pos (by omega), if_pos z9_, tn9_, ← z9_, w9_]; omega
          · rw [if_neg (by omega), if_neg z9_, w9_]; omega
        · omega
        · intro j_ hj_
          rw [rd_eq]
          have w9_ := hb_ j_ hj_
          split
          · omega
          · omega
        · intro i_ u_ w_
          rw [rd_eq]
          by_cases y_ : i_ = k_
          · rw [if_pos (by rw [y_, tn9_])]; omega
          · have w8_ := hq_ i_ u_ (by omega)
            split
            · omega
            · exact w8_
        · omega
    · rintro n_ S_ hI_ hF_ ⟨hu_, hn9_, h0_, hb_, hq_, -⟩ hm_
      have r1_ := hr_.1
      have c1_ : 0 ≤ S_.1 3 dd_ 1 ∧ S_.1 3 dd_ 1 ≤ 320 := hI_.1 3 dd_ 1 rfl
      have n13_ : 0 ≤ S_.1 3 dd_ 4 ∧ S_.1 3 dd_ 4 ≤ 1013 := hI_.1 3 dd_ 4 rfl
      have f1_ : S_.1 3 dd_ 1 = S0_.1 3 dd_ 1 := hF_.1 3 dd_ 1 rfl
      have f2_ : S_.1 3 dd_ 2 = S0_.1 3 dd_ 2 := hF_.1 3 dd_ 2 rfl
      have f3_ : S_.1 3 dd_ 3 = S0_.1 3 dd_ 3 := hF_.1 3 dd_ 3 rfl
      have f4_ : S_.1 3 dd_ 4 = S0_.1 3 dd_ 4 := hF_.1 3 dd_ 4 rfl
      have g1_ := hg_.1
      have f44_ : S_.2.2.1 44 (0 + dd_) = S0_.2.2.1 44 (0 + dd_) := fr_arr hF_ rfl
      have f45_ : S_.2.2.1 45 (0 + dd_) = S0_.2.2.1 45 (0 + dd_) := fr_arr hF_ rfl
      have f46_ : S_.2.2.1 46 (0 + dd_) = S0_.2.2.1 46 (0 + dd_) := fr_arr hF_ rfl
      refine sm_T_go 2 (c1 := (63, [some (.inr (.inr (some (6, 0)))), some (.inl n_)], [.inr (.inr (some (6, 0))), .inl n_], S_)) rfl ?_
      refine sm_T_gr rfl rfl ((hF_.2.1 6 0 0 rfl).trans hd_) ?_
      have bx1_ : 0 ≤ S_.1 3 dd_ 4 ∧ S_.1 3 dd_ 4 ≤ 1013 := hI_.1 3 dd_ 4 rfl
      refine sm_T_go 1 (c1 := (69, [some (.inr (.inr (some (6, 0)))), some (.inl n_)], [.inl (S_.1 3 dd_ 4), .inl n_], S_)) rfl ?_
      refine sm_T_br (a := 3) (z := 46) rfl (fun cx2_ => ?_) (fun cx2_ => ?_)
      · have cx2_ : (S_.1 3 dd_ 4) ≤ n_ := of_decide_eq_true cx2_
        refine sm_T_go 2 (c1 := (117, [some (.inr (.inr (some (6, 0)))), some (.inl 0)], [], S_)) rfl ?_
        refine ih_.2.2 0 S_ hI_ hF_ ⟨?_, ?_, ?_, trivial⟩ ?_
        · intro q9_ hq9_
          have w9_ := hu_ q9_ hq9_
          rw [if_neg (by omega), w9_]
          unfold usn
          rw [show n_.toNat - F_ = (S0_.1 3 dd_ 4).toNat - F_ by omega]
        · omega
        · intro i_ u_ w_
          exact ⟨fun q9_ => by (exfalso; omega), fun _ => hq_ i_ u_ w_⟩
        · omega
      · have cx2_ : ¬ ((S_.1 3 dd_ 4) ≤ n_) := of_decide_eq_false cx2_
        refine sm_T_go 3 (c1 := (77, [some (.inr (.inr (some (6, 0)))), some (.inl n_)], [.inl n_, .inr (.inr (some (59, 0)))], S_)) rfl ?_
        refine sm_T_iald (n := 1013) rfl rfl (by omega) (by omega) ?_
        have bx3_ : 0 ≤ S_.2.2.1 59 0 n_.toNat ∧ S_.2.2.1 59 0 n_.toNat ≤ 1 := hI_.2 59 0 _
        refine sm_T_b0 (a := 0) (z := 31) rfl (fun cx4_ => ?_) (fun cx4_ => ?_)
        · have cx4_ : (S_.2.2.1 59 0 n_.toNat) = 0 := of_decide_eq_true cx4_
          refine sm_T_inc (a := 1) (z := 1) (v := n_) (w := n_ + 1) rfl rfl (by omega) (by omega) (by omega) ?_ -- pc_ 109
          refine sm_T_go 1 (c1 := (61, [some (.inr (.inr (some (6, 0)))), some (.inl (n_ + 1))], [], S_)) rfl ?_
          refine ih_.2.1 (n_ + 1) S_ hI_ hF_ ⟨?_, ?_, ?_, ?_, ?_, trivial⟩ ?_
          · intro q9_ hq9_
            have w9_ := hu_ q9_ hq9_
            have nf9_ := hnf_ n_.toNat (by omega)
            have f59_ : S_.2.2.1 59 0 = S0_.2.2.1 59 0 := fr_arr hF_ rfl
            have fb9_ : (ndf F_ (S0_.1 3 dd_ 4).toNat (S0_.1 3 dd_ 3 + S0_.1 3 dd_ 2).toNat (S0_.2.2.1 44 (0 + dd_)) (S0_.2.2.1 42 (0 + dd_)) (S0_.2.2.1 43 (0 + dd_)) (fun j_ => rtv dd_ S0_ (j_ : Int))) n_.toNat ≠ true := fun z9_ => by (have y9_ := nf9_.2.mpr z9_; rw [← f59_] at y9_; omega)
            rw [w9_, show (n_ + 1).toNat - F_ = (n_.toNat - F_) + 1 by omega]
            show _ = ((2 * rcn (S0_.2.2.1 44 (0 + dd_)) (fun j_ => rtv dd_ S0_ (j_ : Int)) (S0_.1 3 dd_ 3 + S0_.1 3 dd_ 2).toNat q9_ + (psm (pgn (S0_.2.2.1 44 (0 + dd_)) (S0_.2.2.1 42 (0 + dd_)) (S0_.2.2.1 43 (0 + dd_)) (ndf F_ (S0_.1 3 dd_ 4).toNat (S0_.1 3 dd_ 3 + S0_.1 3 dd_ 2).toNat (S0_.2.2.1 44 (0 + dd_)) (S0_.2.2.1 42 (0 + dd_)) (S0_.2.2.1 43 (0 + dd_)) (fun j_ => rtv dd_ S0_ (j_ : Int))) q9_) F_ (n_.toNat - F_) + pgn (S0_.2.2.1 44 (0 + dd_)) (S0_.2.2.1 42 (0 + dd_)) (S0_.2.2.1 43 (0 + dd_)) (ndf F_ (S0_.1 3 dd_ 4).toNat (S0_.1 3 dd_ 3 + S0_.1 3 dd_ 2).toNat (S0_.2.2.1 44 (0 + dd_)) (S0_.2.2.1 42 (0 + dd_)) (S0_.2.2.1 43 (0 + dd_)) (fun j_ => rtv dd_ S0_ (j_ : Int))) q9_ (F_ + (n_.toNat - F_))) : Nat) : Int)
            rw [show F_ + (n_.toNat - F_) = n_.toNat by omega]
            unfold pgn
            rw [if_neg fb9_]
            omega
          · omega
          · omega
          · first | (intro j_ hj_; rw [rd_eq]; have w9_ := hb6_ j_ hj_; split; (omega); (omega)) | (intro j_ hj_; have w9_ := hb_ j_ hj_; omega)
          · first | exact hq_ | (intro i_ u_ w_; rw [rd_eq]; have w9_ := hq6_ _ (hq_ i_ u_ w_); split; (rename_i z9_; rw [z9_] at w9_; omega); (exact w9_))
          · omega
        · have cx4_ : ¬ ((S_.2.2.1 59 0 n_.toNat) = 0) := of_decide_eq_false cx4_
          refine sm_T_go 4 (c1 := (87, [some (.inr (.inr (some (6, 0)))), some (.inl n_)], [.inl n_, .inr (.inr (some (6, 0))), .inr (.inr (some (60, 0)))], S_)) rfl ?_
          refine sm_T_cal (d1 := 1) (Q1 := vq_92 n_ dd_ S_) rfl rfl (by decide) (vc_92 n_ dd_ S_ hI_ (by exact (hF_.2.1 6 0 0 rfl).trans hd_) (by omega)) (fun u_ Sx5_ px8_ => ?_)
          obtain ⟨rfl, vx10_, rfl, px8_⟩ := px8_
          have l87_ := px8_.1
          have v87_ : vx10_ = (srp dd_ S0_ (S0_.2.2.1 42 (0 + dd_) n_.toNat) : Int) := by (have q9_ := px8_.2 F_ (dgr_fr hg_ hF_ rfl rfl rfl rfl rfl) (swp_fr hs_ hF_ rfl rfl rfl rfl) (by omega) (by rw [hF_.1 3 dd_ 4 rfl]; omega); unfold srp at q9_ ⊢; rw [fr_arr (t := 44) (i := 0 + dd_) hF_ rfl, fr_arr (t := 42) (i := 0 + dd_) hF_ rfl] at q9_; exact q9_)
          have nf9_ := hnf_ n_.toNat (by omega)
          have n87_ : (vx10_).toNat = srp dd_ S0_ (S0_.2.2.1 42 (0 + dd_) n_.toNat) := by omega
          have hb8_ := hb_ (vx10_).toNat (by omega)
          refine sm_T_go 1 (c1 := (91, [some (.inr (.inr (some (6, 0)))), some (.inl n_)], [.inl vx10_, .inr (.inr (some (60, 0))), .inl vx10_, .inr (.inr (some (60, 0)))], S_)) rfl ?_
          refine sm_T_iald (n := 1013) rfl rfl (by omega) (by omega) ?_
          have bx11_ : (-2147483648) ≤ S_.2.2.1 60 0 vx10_.toNat ∧ S_.2.2.1 60 0 vx10_.toNat ≤ 2147483647 := hI_.2 60 0 _
          refine sm_T_go 1 (c1 := (93, [some (.inr (.inr (some (6, 0)))), some (.inl n_)], [.inl 1, .inl (S_.2.2.1 60 0 vx10_.toNat), .inl vx10_, .inr (.inr (some (60, 0)))], S_)) rfl ?_
          refine sm_T_bin (w := (S_.2.2.1 60 0 vx10_.toNat) + 1) rfl (bi_add (by omega) (by omega) (by omega)) ?_ -- pc_ 93
          refine sm_T_iast (n := 1013) rfl rfl (by omega) (by omega) ?_
          have hIx12_ : gi (sm_aI S_ 60 0 vx10_.toNat ((S_.2.2.1 60 0 vx10_.toNat) + 1)) := gi_aI hI_ (show (-2147483648) ≤ (S_.2.2.1 60 0 vx10_.toNat) + 1 ∧ (S_.2.2.1 60 0 vx10_.toNat) + 1 ≤ 2147483647 from ⟨by omega, by omega⟩)
          have hFx13_ : ai_fr (sx_W vw_95n) S0_ (sm_aI S_ 60 0 vx10_.toNat ((S_.2.2.1 60 0 vx10_.toNat) + 1)) := ai_fr_tr hF_ (ai_fr_aI rfl)
          refine sm_T_go 4 (c1 := (101, [some (.inr (.inr (some (6, 0)))), some (.inl n_)], [.inl n_, .inr (.inr (some (6, 0))), .inr (.inr (some (60, 0)))], sm_aI S_ 60 0 vx10_.toNat ((S_.2.2.1 60 0 vx10_.toNat) + 1))) rfl ?_
          refine sm_T_cal (d1 := 1) (Q1 := vq_93 n_ dd_ (sm_aI S_ 60 0 vx10_.toNat ((S_.2.2.1 60 0 vx10_.toNat) + 1))) rfl rfl (by decide) (vc_93 n_ dd_ (sm_aI S_ 60 0 vx10_.toNat ((S_.2.2.1 60 0 vx10_.toNat) + 1)) hIx12_ (by exact (hFx13_.2.1 6 0 0 rfl).trans hd_) (by omega)) (fun u_ Sx14_ px17_ => ?_)
          obtain ⟨rfl, vx19_, rfl, px17_⟩ := px17_
          have l101_ := px17_.1
          have v101_ : vx19_ = (srp dd_ S0_ (S0_.2.2.1 43 (0 + dd_) n_.toNat) : Int) := by (have q9_ := px17_.2 F_ (dgr_fr hg_ hFx13_ rfl rfl rfl rfl rfl) (swp_fr hs_ hFx13_ rfl rfl rfl rfl) (by omega) (by rw [hFx13_.1 3 dd_ 4 rfl]; omega); unfold srp at q9_ ⊢; rw [fr_arr (t := 44) (i := 0 + dd_) hFx13_ rfl, fr_arr (t := 43) (i := 0 + dd_) hFx13_ rfl] at q9_; exact q9_)
          have n101_ : (vx19_).toNat = srp dd_ S0_ (S0_.2.2.1 43 (0 + dd_) n_.toNat) := by omega
          have hb6_ : ∀ j_ : Nat, j_ < 1013 → 0 ≤ (sm_aI S_ 60 0 vx10_.toNat ((S_.2.2.1 60 0 vx10_.toNat) + 1)).2.2.1 60 0 j_ ∧ (sm_aI S_ 60 0 vx10_.toNat ((S_.2.2.1 60 0 vx10_.toNat) + 1)).2.2.1 60 0 j_ ≤ 101 + 2 * n_ := by (intro j_ hj_; rw [rd_eq]; have w9_ := hb_ j_ hj_; split; (omega); (omega))
          have hb7_ := hb6_ (vx19_).toNat (by omega)
          have hq6_ : ∀ j_ : Nat, 2 ≤ S_.2.2.1 60 0 j_ → 2 ≤ (sm_aI S_ 60 0 vx10_.toNat ((S_.2.2.1 60 0 vx10_.toNat) + 1)).2.2.1 60 0 j_ := by (intro j_ hj_; rw [rd_eq]; split; (rename_i z9_; rw [z9_] at hj_; omega); (omega))
          refine sm_T_go 1 (c1 := (105, [some (.inr (.inr (some (6, 0)))), some (.inl n_)], [.inl vx19_, .inr (.inr (some (60, 0))), .inl vx19_, .inr (.inr (some (60, 0)))], sm_aI S_ 60 0 vx10_.toNat ((S_.2.2.1 60 0 vx10_.toNat) + 1))) rfl ?_
          refine sm_T_iald (n := 1013) rfl rfl (by omega) (by omega) ?_
          have bx20_ : (-2147483648) ≤ (sm_aI S_ 60 0 vx10_.toNat ((S_.2.2.1 60 0 vx10_.toNat) + 1)).2.2.1 60 0 vx19_.toNat ∧ (sm_aI S_ 60 0 vx10_.toNat ((S_.2.2.1 60 0 vx10_.toNat) + 1)).2.2.1 60 0 vx19_.toNat ≤ 2147483647 := hIx12_.2 60 0 _
          refine sm_T_go 1 (c1 := (107, [some (.inr (.inr (some (6, 0)))), some (.inl n_)], [.inl 1, .inl ((sm_aI S_ 60 0 vx10_.toNat ((S_.2.2.1 60 0 vx10_.toNat) + 1)).2.2.1 60 0 vx19_.toNat), .inl vx19_, .inr (.inr (some (60, 0)))], sm_aI S_ 60 0 vx10_.toNat ((S_.2.2.1 60 0 vx10_.toNat) + 1))) rfl ?_
          refine sm_T_bin (w := ((sm_aI S_ 60 0 vx10_.toNat ((S_.2.2.1 60 0 vx10_.toNat) + 1)).2.2.1 60 0 vx19_.toNat) + 1) rfl (bi_add (by omega) (by omega) (by omega)) ?_ -- pc_ 107
          refine sm_T_iast (n := 1013) rfl rfl (by omega) (by omega) ?_
          have hIx21_ : gi (sm_aI (sm_aI S_ 60 0 vx10_.toNat ((S_.2.2.1 60 0 vx10_.toNat) + 1)) 60 0 vx19_.toNat (((sm_aI S_ 60 0 vx10_.toNat ((S_.2.2.1 60 0 vx10_.toNat) + 1)).2.2.1 60 0 vx19_.toNat) + 1)) := gi_aI hIx12_ (show (-2147483648) ≤ ((sm_aI S_ 60 0 vx10_.toNat ((S_.2.2.1 60 0 vx10_.toNat) + 1)).2.2.1 60 0 vx19_.toNat) + 1 ∧ ((sm_aI S_ 60 0 vx10_.toNat ((S_.2.2.1 60 0 vx10_.toNat) + 1)).2.2.1 60 0 vx19_.toNat) + 1 ≤ 2147483647 from ⟨by omega, by omega⟩)
          have hFx22_ : ai_fr (sx_W vw_95n) S0_ (sm_aI (sm_aI S_ 60 0 vx10_.toNat ((S_.2.2.1 60 0 vx10_.toNat) + 1)) 60 0 vx19_.toNat (((sm_aI S_ 60 0 vx10_.toNat ((S_.2.2.1 60 0 vx10_.toNat) + 1)).2.2.1 60 0 vx19_.toNat) + 1)) := ai_fr_tr hFx13_ (ai_fr_aI rfl)
          refine sm_T_inc (a := 1) (z := 1) (v := n_) (w := n_ + 1) rfl rfl (by omega) (by omega) (by omega) ?_ -- pc_ 109
          refine sm_T_go 1 (c1 := (61, [some (.inr (.inr (some (6, 0)))), some (.inl (n_ + 1))], [], sm_aI (sm_aI S_ 60 0 vx10_.toNat ((S_.2.2.1 60 0 vx10_.toNat) + 1)) 60 0 vx19_.toNat (((sm_aI S_ 60 0 vx10_.toNat ((S_.2.2.1 60 0 vx10_.toNat) + 1)).2.2.1 60 0 vx19_.toNat) + 1))) rfl ?_
          refine ih_.2.1 (n_ + 1) (sm_aI (sm_aI S_ 60 0 vx10_.toNat ((S_.2.2.1 60 0 vx10_.toNat) + 1)) 60 0 vx19_.toNat (((sm_aI S_ 60 0 vx10_.toNat ((S_.2.2.1 60 0 vx10_.toNat) + 1)).2.2.1 60 0 vx19_.toNat) + 1)) hIx21_ hFx22_ ⟨?_, ?_, ?_, ?_, ?_, trivial⟩ ?_
          · intro q9_ hq9_
            have w9_ := hu_ q9_ hq9_
            have f59_ : S_.2.2.1 59 0 = S0_.2.2.1 59 0 := fr_arr hF_ rfl
            have tb9_ : (ndf F_ (S0_.1 3 dd_ 4).toNat (S0_.1 3 dd_ 3 + S0_.1 3 dd_ 2).toNat (S0_.2.2.1 44 (0 + dd_)) (S0_.2.2.1 42 (0 + dd_)) (S0_.2.2.1 43 (0 + dd_)) (fun j_ => rtv dd_ S0_ (j_ : Int))) n_.toNat = true := nf9_.2.mp (by (rcases nf9_.1 with y9_ | y9_; (rw [← f59_] at y9_; exfalso; omega); exact y9_))
            rw [show (n_ + 1).toNat - F_ = (n_.toNat - F_) + 1 by omega]
            show _ = ((2 * rcn (S0_.2.2.1 44 (0 + dd_)) (fun j_ => rtv dd_ S0_ (j_ : Int)) (S0_.1 3 dd_ 3 + S0_.1 3 dd_ 2).toNat q9_ + (psm (pgn (S0_.2.2.1 44 (0 + dd_)) (S0_.2.2.1 42 (0 + dd_)) (S0_.2.2.1 43 (0 + dd_)) (ndf F_ (S0_.1 3 dd_ 4).toNat (S0_.1 3 dd_ 3 + S0_.1 3 dd_ 2).toNat (S0_.2.2.1 44 (0 + dd_)) (S0_.2.2.1 42 (0 + dd_)) (S0_.2.2.1 43 (0 + dd_)) (fun j_ => rtv dd_ S0_ (j_ : Int))) q9_) F_ (n_.toNat - F_) + pgn (S0_.2.2.1 44 (0 + dd_)) (S0_.2.2.1 42 (0 + dd_)) (S0_.2.2.1 43 (0 + dd_)) (ndf F_ (S0_.1 3 dd_ 4).toNat (S0_.1 3 dd_ 3 + S0_.1 3 dd_ 2).toNat (S0_.2.2.1 44 (0 + dd_)) (S0_.2.2.1 42 (0 + dd_)) (S0_.2.2.1 43 (0 + dd_)) (fun j_ => rtv dd_ S0_ (j_ : Int))) q9_ (F_ + (n_.toNat - F_))) : Nat) : Int)
            rw [show F_ + (n_.toNat - F_) = n_.toNat by omega]
            unfold pgn
            rw [if_pos tb9_, rd_eq, rd_eq, rd_eq, n87_, n101_]
            exact (inc2 w9_).trans (congrArg (fun x_ : Nat => (x_ : Int)) (Nat.add_assoc _ _ _))
          · omega
          · omega
          · first | (intro j_ hj_; rw [rd_eq]; have w9_ := hb6_ j_ hj_; split; (omega); (omega)) | (intro j_ hj_; have w9_ := hb_ j_ hj_; omega)
          · first | exact hq_ | (intro i_ u_ w_; rw [rd_eq]; have w9_ := hq6_ _ (hq_ i_ u_ w_); split; (rename_i z9_; rw [z9_] at w9_; omega); (exact w9_))
          · omega
    · rintro n_ S_ hI_ hF_ ⟨hu_, h0_, hq2_, -⟩ hm_
      have r1_ := hr_.1
      have c1_ : 0 ≤ S_.1 3 dd_ 1 ∧ S_.1 3 dd_ 1 ≤ 320 := hI_.1 3 dd_ 1 rfl
      have n13_ : 0 ≤ S_.1 3 dd_ 4 ∧ S_.1 3 dd_ 4 ≤ 1013 := hI_.1 3 dd_ 4 rfl
      have f1_ : S_.1 3 dd_ 1 = S0_.1 3 dd_ 1 := hF_.1 3 dd_ 1 rfl
      have f2_ : S_.1 3 dd_ 2 = S0_.1 3 dd_ 2 := hF_.1 3 dd_ 2 rfl
      have f3_ : S_.1 3 dd_ 3 = S0_.1 3 dd_ 3 := hF_.1 3 dd_ 3 rfl
      have f4_ : S_.1 3 dd_ 4 = S0_.1 3 dd_ 4 := hF_.1 3 dd_ 4 rfl
      have g1_ := hg_.1
      have f44_ : S_.2.2.1 44 (0 + dd_) = S0_.2.2.1 44 (0 + dd_) := fr_arr hF_ rfl
      have f45_ : S_.2.2.1 45 (0 + dd_) = S0_.2.2.1 45 (0 + dd_) := fr_arr hF_ rfl
      have f46_ : S_.2.2.1 46 (0 + dd_) = S0_.2.2.1 46 (0 + dd_) := fr_arr hF_ rfl
      refine sm_T_go 2 (c1 := (119, [some (.inr (.inr (some (6, 0)))), some (.inl n_)], [.inr (.inr (some (6, 0))), .inl n_], S_)) rfl ?_
      refine sm_T_gr rfl rfl ((hF_.2.1 6 0 0 rfl).trans hd_) ?_
      have bx1_ : 0 ≤ S_.1 3 dd_ 4 ∧ S_.1 3 dd_ 4 ≤ 1013 := hI_.1 3 dd_ 4 rfl
      refine sm_T_go 1 (c1 := (125, [some (.inr (.inr (some (6, 0)))), some (.inl n_)], [.inl (S_.1 3 dd_ 4), .inl n_], S_)) rfl ?_
      refine sm_T_br (a := 3) (z := 30) rfl (fun cx2_ => ?_) (fun cx2_ => ?_)
      · have cx2_ : (S_.1 3 dd_ 4) ≤ n_ := of_decide_eq_true cx2_
        refine sm_T_rv rfl ⟨_, _, rfl, rfl, hI_, hF_, ?_⟩
        refine ⟨fun q9_ hq9_ => by (have w9_ := hu_ q9_ hq9_; rw [if_pos (by omega)] at w9_; exact w9_), ?_⟩
        intro i_ u_ w_
        have z9_ := (hq2_ i_ u_ w_).1
        have zb_ := (rtv_b hr_ hs_ u_ w_).2
        have z7_ := z9_ (by omega)
        omega
      · have cx2_ : ¬ ((S_.1 3 dd_ 4) ≤ n_) := of_decide_eq_false cx2_
        refine sm_T_go 6 (c1 := (138, [some (.inr (.inr (some (6, 0)))), some (.inl n_)], [.inl n_, .inr (.inr (some (60, 0))), .inl n_, .inr (.inr (some (60, 0)))], S_)) rfl ?_
        refine sm_T_iald (n := 1013) rfl rfl (by omega) (by omega) ?_
        have bx3_ : (-2147483648) ≤ S_.2.2.1 60 0 n_.toNat ∧ S_.2.2.1 60 0 n_.toNat ≤ 2147483647 := hI_.2 60 0 _
        refine sm_T_go 1 (c1 := (140, [some (.inr (.inr (some (6, 0)))), some (.inl n_)], [.inl 1, .inl (S_.2.2.1 60 0 n_.toNat), .inl n_, .inr (.inr (some (60, 0)))], S_)) rfl ?_
        refine sm_T_br (a := 5) (z := 7) rfl (fun cx4_ => ?_) (fun cx4_ => ?_)
        · have cx4_ : (S_.2.2.1 60 0 n_.toNat) ≤ 1 := of_decide_eq_true cx4_
          refine sm_T_go 1 (c1 := (148, [some (.inr (.inr (some (6, 0)))), some (.inl n_)], [.inl 0, .inl n_, .inr (.inr (some (60, 0)))], S_)) rfl ?_
          refine sm_T_iast (n := 1013) rfl rfl (by omega) (by omega) ?_
          have hIx5_ : gi (sm_aI S_ 60 0 n_.toNat 0) := gi_aI hI_ (show (-2147483648) ≤ 0 ∧ 0 ≤ 2147483647 from ⟨by omega, by omega⟩)
          have hFx6_ : ai_fr (sx_W vw_95n) S0_ (sm_aI S_ 60 0 n_.toNat 0) := ai_fr_tr hF_ (ai_fr_aI rfl)
          refine sm_T_inc (a := 1) (z := 1) (v := n_) (w := n_ + 1) rfl rfl (by omega) (by omega) (by omega) ?_ -- pc_ 149
          refine sm_T_go 1 (c1 := (117, [some (.inr (.inr (some (6, 0)))), some (.inl (n_ + 1))], [], sm_aI S_ 60 0 n_.toNat 0)) rfl ?_
          refine ih_.2.2 (n_ + 1) (sm_aI S_ 60 0 n_.toNat 0) hIx5_ hFx6_ ⟨?_, ?_, ?_, trivial⟩ ?_
          · intro q9_ hq9_
            have w9_ := hu_ q9_ hq9_
            rw [rd_eq]
            by_cases z9_ : q9_ = n_.toNat
            · rw [if_pos z9_, if_pos (show (q9_ : Int) < n_ + 1 by omega)]; rw [if_neg (show ¬ (q9_ : Int) < n_ by omega)] at w9_; rw [z9_] at w9_ ⊢; first | (rw [if_pos (by omega)]) | (rw [if_neg (by omega)])
            · rw [if_neg z9_, w9_]; by_cases y9_ : (q9_ : Int) < n_
              · rw [if_pos y9_, if_pos (show (q9_ : Int) < n_ + 1 by omega)]
              · rw [if_neg y9_, if_neg (show ¬ (q9_ : Int) < n_ + 1 by omega)]
          · omega
          · intro i_ u_ w_
            have z9_ := hq2_ i_ u_ w_
            rw [rd_eq]
            by_cases y_ : (srp dd_ S0_ (rtv dd_ S0_ i_) : Int) = n_
            · have z8_ := z9_.2 (by omega)
              rw [if_pos (by omega)]
              refine ⟨fun _ => ?_, fun q9_ => ?_⟩
              · first | rfl | (exfalso; have z6_ : srp dd_ S0_ (rtv dd_ S0_ i_) = n_.toNat := (by omega); rw [z6_] at z8_; omega)
              · exfalso; omega
            · rw [if_neg (by omega)]
              exact ⟨fun q9_ => z9_.1 (by omega), fun q9_ => z9_.2 (by omega)⟩
          · omega
        · have cx4_ : ¬ ((S_.2.2.1 60 0 n_.toNat) ≤ 1) := of_decide_eq_false cx4_
          refine sm_T_go 2 (c1 := (148, [some (.inr (.inr (some (6, 0)))), some (.inl n_)], [.inl 1, .inl n_, .inr (.inr (some (60, 0)))], S_)) rfl ?_
          refine sm_T_iast (n := 1013) rfl rfl (by omega) (by omega) ?_
          have hIx7_ : gi (sm_aI S_ 60 0 n_.toNat 1) := gi_aI hI_ (show (-2147483648) ≤ 1 ∧ 1 ≤ 2147483647 from ⟨by omega, by omega⟩)
          have hFx8_ : ai_fr (sx_W vw_95n) S0_ (sm_aI S_ 60 0 n_.toNat 1) := ai_fr_tr hF_ (ai_fr_aI rfl)
          refine sm_T_inc (a := 1) (z := 1) (v := n_) (w := n_ + 1) rfl rfl (by omega) (by omega) (by omega) ?_ -- pc_ 149
          refine sm_T_go 1 (c1 := (117, [some (.inr (.inr (some (6, 0)))), some (.inl (n_ + 1))], [], sm_aI S_ 60 0 n_.toNat 1)) rfl ?_
          refine ih_.2.2 (n_ + 1) (sm_aI S_ 60 0 n_.toNat 1) hIx7_ hFx8_ ⟨?_, ?_, ?_, trivial⟩ ?_
          · intro q9_ hq9_
            have w9_ := hu_ q9_ hq9_
            rw [rd_eq]
            by_cases z9_ : q9_ = n_.toNat
            · rw [if_pos z9_, if_pos (show (q9_ : Int) < n_ + 1 by omega)]; rw [if_neg (show ¬ (q9_ : Int) < n_ by omega)] at w9_; rw [z9_] at w9_ ⊢; first | (rw [if_pos (by omega)]) | (rw [if_neg (by omega)])
            · rw [if_neg z9_, w9_]; by_cases y9_ : (q9_ : Int) < n_
              · rw [if_pos y9_, if_pos (show (q9_ : Int) < n_ + 1 by omega)]
              · rw [if_neg y9_, if_neg (show ¬ (q9_ : Int) < n_ + 1 by omega)]
          · omega
          · intro i_ u_ w_
            have z9_ := hq2_ i_ u_ w_
            rw [rd_eq]
            by_cases y_ : (srp dd_ S0_ (rtv dd_ S0_ i_) : Int) = n_
            · have z8_ := z9_.2 (by omega)
              rw [if_pos (by omega)]
              refine ⟨fun _ => ?_, fun q9_ => ?_⟩
              · first | rfl | (exfalso; have z6_ : srp dd_ S0_ (rtv dd_ S0_ i_) = n_.toNat := (by omega); rw [z6_] at z8_; omega)
              · exfalso; omega
            · rw [if_neg (by omega)]
              exact ⟨fun q9_ => z9_.1 (by omega), fun q9_ => z9_.2 (by omega)⟩
          · omega
set_option maxHeartbeats 3000000 in
theorem vc_95n {sc_ : Nat × (Nat → Int)} (dd_ : Nat) (F_ : Nat) (S0_ : sm_S) (hI_ : gi S0_) (hd_ : S0_.2.1 6 0 0 = some dd_) (hr_ : drt dd_ S0_) (hg_ : dgr dd_ F_ S0_) (hs_ : swp dd_ F_ S0_) (hnf_ : ∀ q9_ : Nat, (q9_ : Int) < S0_.1 3 dd_ 4 → (S0_.2.2.1 59 0 q9_ = 0 ∨ S0_.2.2.1 59 0 q9_ = 1) ∧ (S0_.2.2.1 59 0 q9_ = 1 ↔ (ndf F_ (S0_.1 3 dd_ 4).toNat (S0_.1 3 dd_ 3 + S0_.1 3 dd_ 2).toNat (S0_.2.2.1 44 (0 + dd_)) (S0_.2.2.1 42 (0 + dd_)) (S0_.2.2.1 43 (0 + dd_)) (fun j_ => rtv dd_ S0_ (j_ : Int))) q9_ = true)) : sm_T (mt_P sc_) 2 95 (0, [some (.inr (.inr (some (6, 0)))), none], [], S0_) (fun ro9_ => ∃ u_ S1_, ro9_ = (.inl u_, S1_, 0) ∧ vq_95n dd_ F_ S0_ u_ S1_) := by
  have hF_ : ai_fr (sx_W vw_95n) S0_ S0_ := ai_fr_rf
  have r1_ := hr_.1
  have g1_ := hg_.1
  refine sm_T_go 3 (c1 := (5, [some (.inr (.inr (some (6, 0)))), none], [.inl 0, .inr (.inr (some (60, 0)))], S0_)) rfl ?_
  refine sm_T_cal (d1 := 0) (Q1 := vq_2r0 0 S0_) rfl rfl (by decide) (vc_2r0 0 S0_ hI_ (by decide)) (fun u_ Sx1_ px4_ => ?_)
  obtain ⟨rfl, hIx2_, hFx3_, px4_⟩ := px4_
  have hFx5_ : ai_fr (sx_W vw_95n) S0_ Sx1_ := ai_fr_tr hF_ (fr_le hFx3_ rfl)
  have e5_ := px4_
  refine sm_T_go 2 (c1 := (10, [some (.inr (.inr (some (6, 0)))), some (.inl 0)], [], Sx1_)) rfl ?_
  refine (vl_95n dd_ F_ S0_ hd_ hr_ hg_ hs_ hnf_ _).1 0 Sx1_ hIx2_ hFx5_ ⟨?_, ?_, ?_, ?_, trivial⟩ (Nat.lt_succ_self _)
  · (intro q9_ hq9_; have c9_ := hg_.2.1; have c8_ := hg_.1.2.1; rw [e5_ q9_ (by omega)]; rfl)
  · omega
  · (intro j_ hj_; rw [e5_ j_ hj_]; omega)
  · (intro i_ u_ w_; exfalso; omega)
end
/-! 99.ztZ6 -/
section
/-! the reference: the graph laid for mapping; written by wip/p55/gen/vg -/

/-! the_ graph laid for_ mapping -/
theorem nod_n {d_ l_ : Int} {S_ : sm_S} (hd_ : 0 ≤ d_) (hl_ : 0 ≤ l_) : (nod d_ S_ l_).toNat = nsw (fun m_ => S_.2.2.1 166 0 (2048 * d_.toNat + m_)) l_ := by
  show (S_.2.2.1 166 0 (2048 * d_ + l_ / 2).toNat / 2).toNat = (S_.2.2.1 166 0 (2048 * d_.toNat + (l_ / 2).toNat) / 2).toNat
  rw [show (2048 * d_ + l_ / 2).toNat = 2048 * d_.toNat + (l_ / 2).toNat by omega]
/-- marks of_ needed nodes -/
def ndw (N_ j_ : Nat) (sf_ lo_ hi_ : Nat → Int) (m0_ : Nat → Bool) (u_ : Nat → Int) : Prop := ∀ q_, q_ < N_ → (u_ q_ = 1 ↔ (ndk N_ sf_ lo_ hi_ m0_ j_).1 q_ = true)
theorem ndw_n {N_ j_ n_ : Nat} {sf_ lo_ hi_ u_ : Nat → Int} {m0_ : Nat → Bool} (h_ : ndw N_ j_ sf_ lo_ hi_ m0_ u_) (hn_ : u_ n_ ≠ 1) (e_ : N_ - 1 - j_ = n_) (hl_ : n_ < N_) : ndw N_ (j_ + 1) sf_ lo_ hi_ m0_ u_ := (ndi_n ⟨rfl, h_⟩ hn_ e_ hl_).2
theorem ndw_y {N_ j_ n_ : Nat} {sf_ lo_ hi_ u_ u'_ : Nat → Int} {m0_ : Nat → Bool} (h_ : ndw N_ j_ sf_ lo_ hi_ m0_ u_) (hn_ : u_ n_ = 1) (e_ : N_ - 1 - j_ = n_) (hl_ : n_ < N_) (hu_ : ∀ q_, u'_ q_ = if q_ = nsw sf_ (hi_ n_) then 1 else if q_ = nsw sf_ (lo_ n_) then 1 else u_ q_) : ndw N_ (j_ + 1) sf_ lo_ hi_ m0_ u'_ := (ndi_y ⟨rfl, h_⟩ hn_ e_ hl_ hu_).2
theorem rcn_le {sf_ rt_ : Nat → Int} {q_ : Nat} : ∀ k_ : Nat, rcn sf_ rt_ k_ q_ ≤ k_
  | 0 => Nat.le_refl _
  | k_ + 1 => by
    have h_ := rcn_le (sf_ := sf_) (rt_ := rt_) (q_ := q_) k_
    show rcn sf_ rt_ k_ q_ + (if q_ = nsw sf_ (rt_ k_) then 1 else 0) ≤ k_ + 1
    split <;> omega
theorem pgn_le {sf_ lo_ hi_ : Nat → Int} {nd_ : Nat → Bool} {q_ n_ : Nat} : pgn sf_ lo_ hi_ nd_ q_ n_ ≤ 2 := by
  unfold pgn
  split
  · split <;> split <;> omega
  · omega
theorem psm_le {g_ : Nat → Nat} (h_ : ∀ n_, g_ n_ ≤ 2) {a_ : Nat} : ∀ l_ : Nat, psm g_ a_ l_ ≤ 2 * l_
  | 0 => Nat.le_refl _
  | l_ + 1 => by
    have e_ := psm_le h_ (a_ := a_) l_
    have w_ := h_ (a_ + l_)
    show psm g_ a_ l_ + g_ (a_ + l_) ≤ 2 * (l_ + 1)
    omega
theorem glo_k {F_ N_ d_ : Int} {S_ : sm_S} (h_ : dmp F_ N_ d_ S_) : glo F_.toNat N_.toNat (fun m_ => S_.2.2.1 164 0 (2048 * d_.toNat + m_)) (fun m_ => S_.2.2.1 165 0 (2048 * d_.toNat + m_)) := by
  obtain ⟨⟨a1_, a2_, a3_, a4_, a5_, a6_, a7_, a8_, a9_⟩, F1_, I_, R_, N1_, k1_, k2_, k3_, k4_⟩ := h_
  rw [show F_.toNat = F1_ by omega, show N_.toNat = N1_ by omega]
  exact k2_
theorem sfb_k {F_ N_ d_ : Int} {S_ : sm_S} (h_ : dmp F_ N_ d_ S_) : ∀ m_ : Nat, m_ < N_.toNat → 0 ≤ S_.2.2.1 166 0 (2048 * d_.toNat + m_) ∧ S_.2.2.1 166 0 (2048 * d_.toNat + m_) ≤ 2 * (m_ : Int) + 1 := by
  obtain ⟨⟨a1_, a2_, a3_, a4_, a5_, a6_, a7_, a8_, a9_⟩, F1_, I_, R_, N1_, k1_, k2_, k3_, k4_⟩ := h_
  intro m_ hm9_
  exact (k3_.2 m_ (by omega)).1
def swt (sf_ : Nat → Int) (l_ : Int) : Int := i_xor (sf_ (l_ / 2).toNat) (l_ % 2)
/-- the_ sides of_ a_ node: the_ lesser literal first -/
def sdv (sf_ lo_ hi_ : Nat → Int) (a_ b_ : Int) (n_ : Nat) : Prop := a_ = (if swt sf_ (lo_ n_) < swt sf_ (hi_ n_) then swt sf_ (lo_ n_) else swt sf_ (hi_ n_)) ∧ b_ = (if swt sf_ (lo_ n_) < swt sf_ (hi_ n_) then swt sf_ (hi_ n_) else swt sf_ (lo_ n_))

/-! M_.want -/
def vw_393n : sx_Wl := ([], [201, 202, 203], [])
def vq_393n (l_ : Int) (F_ : Int) (N_ : Int) (d_ : Int) (S0_ : sm_S) (u_ : Option sm_V) (S1_ : sm_S) : Prop := u_ = none ∧ gi S1_ ∧ ai_fr (sx_W vw_393n) S0_ S1_ ∧ (((∀ j9_, S1_.2.2.1 202 0 j9_ = if j9_ = (nod d_ S0_ l_).toNat then 1 else S0_.2.2.1 202 0 j9_) ∧ ∀ j9_, S1_.2.2.1 203 0 j9_ = if j9_ = (nod d_ S0_ l_).toNat then (if nod d_ S0_ l_ < F_ then 0 else 1) else S0_.2.2.1 203 0 j9_) ∧ ∀ j9_, S1_.2.2.1 201 0 j9_ = if j9_ = (nod d_ S0_ l_).toNat then S0_.2.2.1 201 0 j9_ + 1 else S0_.2.2.1 201 0 j9_)
set_option maxHeartbeats 400000 in
set_option maxRecDepth 20000 in
theorem vc_393n {sc_ : Nat × (Nat → Int)} (l_ : Int) (F_ : Int) (N_ : Int) (d_ : Int) (S0_ : sm_S) (hI_ : gi S0_) (hd_ : dmp F_ N_ d_ S0_) (hl_ : 0 ≤ l_ ∧ l_ < 2 * N_) (hus_ : 0 ≤ S0_.2.2.1 201 0 (nod d_ S0_ l_).toNat ∧ S0_.2.2.1 201 0 (nod d_ S0_ l_).toNat ≤ 100000) : sm_T (mt_P sc_) 1 393 (0, [some (.inr (.inr (some (13, 0)))), some (.inl l_), none], [], S0_) (fun ro9_ => ∃ u_ S1_, ro9_ = (.inl u_, S1_, 0) ∧ vq_393n l_ F_ N_ d_ S0_ u_ S1_) := by
  have hF_ : ai_fr (sx_W vw_393n) S0_ S0_ := ai_fr_rf
  have d1_ := hd_.1
  have n9_ := nod_b hd_ hl_.1 hl_.2
  have f9_ : S0_.2.2.1 160 0 (S0_.1 13 0 105).toNat = F_ := by (rw [d1_.2.2.1]; exact d1_.2.2.2.1)
  refine sm_T_go 2 (c1 := (2, [some (.inr (.inr (some (13, 0)))), some (.inl l_), none], [.inl l_, .inr (.inr (some (13, 0)))], S0_)) rfl ?_
  refine sm_T_cal (d1 := 0) (Q1 := vq_392 l_ F_ N_ d_ S0_) rfl rfl (by decide) (vc_392 l_ F_ N_ d_ S0_ hI_ (by exact hd_) (by exact hl_)) (fun u_ Sx1_ px4_ => ?_)
  obtain ⟨rfl, vx6_, rfl, px4_⟩ := px4_
  have e2_ := px4_
  have u2_ : S0_.2.2.1 201 0 (vx6_ / 2).toNat = S0_.2.2.1 201 0 (nod d_ S0_ l_).toNat := by rw [e2_.1]
  refine sm_T_go 5 (c1 := (12, [some (.inr (.inr (some (13, 0)))), some (.inl l_), some (.inl vx6_)], [.inl 1, .inl vx6_, .inr (.inr (some (202, 0)))], S0_)) rfl ?_
  refine sm_T_bin (w := (vx6_ / 2)) rfl (bi_shr (k := 1) (by decide) (by omega) (by omega)) ?_ -- pc_ 12
  refine sm_T_go 1 (c1 := (14, [some (.inr (.inr (some (13, 0)))), some (.inl l_), some (.inl vx6_)], [.inl 1, .inl (vx6_ / 2), .inr (.inr (some (202, 0)))], S0_)) rfl ?_
  refine sm_T_zas1 (n := 2048) rfl rfl (by omega) (by omega) (by omega) ?_
  have hIx7_ : gi (sm_aI S0_ 202 0 (vx6_ / 2).toNat 1) := gi_aI hI_ (show 0 ≤ 1 ∧ 1 ≤ 1 from ⟨by omega, by omega⟩)
  have hFx8_ : ai_fr (sx_W vw_393n) S0_ (sm_aI S0_ 202 0 (vx6_ / 2).toNat 1) := ai_fr_tr hF_ (ai_fr_aI rfl)
  refine sm_T_go 4 (c1 := (21, [some (.inr (.inr (some (13, 0)))), some (.inl l_), some (.inl vx6_)], [.inl 1, .inl vx6_, .inr (.inr (some (203, 0)))], sm_aI S0_ 202 0 (vx6_ / 2).toNat 1)) rfl ?_
  refine sm_T_bin (w := (vx6_ / 2)) rfl (bi_shr (k := 1) (by decide) (by omega) (by omega)) ?_ -- pc_ 21
  refine sm_T_go 2 (c1 := (24, [some (.inr (.inr (some (13, 0)))), some (.inl l_), some (.inl vx6_)], [.inl 1, .inl vx6_, .inl (vx6_ / 2), .inr (.inr (some (203, 0)))], sm_aI S0_ 202 0 (vx6_ / 2).toNat 1)) rfl ?_
  refine sm_T_bin (w := (vx6_ / 2)) rfl (bi_shr (k := 1) (by decide) (by omega) (by omega)) ?_ -- pc_ 24
  have bx9_ : 0 ≤ S0_.1 13 0 105 ∧ S0_.1 13 0 105 ≤ 5 := hI_.1 13 0 105 rfl
  refine sm_T_go 4 (c1 := (33, [some (.inr (.inr (some (13, 0)))), some (.inl l_), some (.inl vx6_)], [.inl (S0_.1 13 0 105), .inr (.inr (some (160, 0))), .inl (vx6_ / 2), .inl (vx6_ / 2), .inr (.inr (some (203, 0)))], sm_aI S0_ 202 0 (vx6_ / 2).toNat 1)) rfl ?_
  refine sm_T_iald (n := 6) rfl rfl (by omega) (by omega) ?_
  have bx10_ : 0 ≤ S0_.2.2.1 160 0 (S0_.1 13 0 105).toNat ∧ S0_.2.2.1 160 0 (S0_.1 13 0 105).toNat ≤ 19 := hI_.2 160 0 _
  refine sm_T_go 0 (c1 := (34, [some (.inr (.inr (some (13, 0)))), some (.inl l_), some (.inl vx6_)], [.inl (S0_.2.2.1 160 0 (S0_.1 13 0 105).toNat), .inl (vx6_ / 2), .inl (vx6_ / 2), .inr (.inr (some (203, 0)))], sm_aI S0_ 202 0 (vx6_ / 2).toNat 1)) rfl ?_
  refine sm_T_br (a := 2) (z := 7) rfl (fun cx11_ => ?_) (fun cx11_ => ?_)
  · have cx11_ : (vx6_ / 2) < (S0_.2.2.1 160 0 (S0_.1 13 0 105).toNat) := of_decide_eq_true cx11_
    refine sm_T_go 1 (c1 := (42, [some (.inr (.inr (some (13, 0)))), some (.inl l_), some (.inl vx6_)], [.inl 0, .inl (vx6_ / 2), .inr (.inr (some (203, 0)))], sm_aI S0_ 202 0 (vx6_ / 2).toNat 1)) rfl ?_
    refine sm_T_zas1 (n := 2048) rfl rfl (by omega) (by omega) (by omega) ?_
    have hIx12_ : gi (sm_aI (sm_aI S0_ 202 0 (vx6_ / 2).toNat 1) 203 0 (vx6_ / 2).toNat 0) := gi_aI hIx7_ (show 0 ≤ 0 ∧ 0 ≤ 1 from ⟨by omega, by omega⟩)
    have hFx13_ : ai_fr (sx_W vw_393n) S0_ (sm_aI (sm_aI S0_ 202 0 (vx6_ / 2).toNat 1) 203 0 (vx6_ / 2).toNat 0) := ai_fr_tr hFx8_ (ai_fr_aI rfl)
    refine sm_T_go 4 (c1 := (49, [some (.inr (.inr (some (13, 0)))), some (.inl l_), some (.inl vx6_)], [.inl 1, .inl vx6_, .inr (.inr (some (201, 0)))], sm_aI (sm_aI S0_ 202 0 (vx6_ / 2).toNat 1) 203 0 (vx6_ / 2).toNat 0)) rfl ?_
    refine sm_T_bin (w := (vx6_ / 2)) rfl (bi_shr (k := 1) (by decide) (by omega) (by omega)) ?_ -- pc_ 49
    refine sm_T_go 1 (c1 := (51, [some (.inr (.inr (some (13, 0)))), some (.inl l_), some (.inl vx6_)], [.inl (vx6_ / 2), .inr (.inr (some (201, 0))), .inl (vx6_ / 2), .inr (.inr (some (201, 0)))], sm_aI (sm_aI S0_ 202 0 (vx6_ / 2).toNat 1) 203 0 (vx6_ / 2).toNat 0)) rfl ?_
    refine sm_T_iald (n := 2048) rfl rfl (by omega) (by omega) ?_
    have bx14_ : (-2147483648) ≤ S0_.2.2.1 201 0 (vx6_ / 2).toNat ∧ S0_.2.2.1 201 0 (vx6_ / 2).toNat ≤ 2147483647 := hI_.2 201 0 _
    refine sm_T_go 1 (c1 := (53, [some (.inr (.inr (some (13, 0)))), some (.inl l_), some (.inl vx6_)], [.inl 1, .inl (S0_.2.2.1 201 0 (vx6_ / 2).toNat), .inl (vx6_ / 2), .inr (.inr (some (201, 0)))], sm_aI (sm_aI S0_ 202 0 (vx6_ / 2).toNat 1) 203 0 (vx6_ / 2).toNat 0)) rfl ?_
    refine sm_T_bin (w := (S0_.2.2.1 201 0 (vx6_ / 2).toNat) + 1) rfl (bi_add (by omega) (by omega) (by omega)) ?_ -- pc_ 53
    refine sm_T_iast (n := 2048) rfl rfl (by omega) (by omega) ?_
    have hIx15_ : gi (sm_aI (sm_aI (sm_aI S0_ 202 0 (vx6_ / 2).toNat 1) 203 0 (vx6_ / 2).toNat 0) 201 0 (vx6_ / 2).toNat ((S0_.2.2.1 201 0 (vx6_ / 2).toNat) + 1)) := gi_aI hIx12_ (show (-2147483648) ≤ (S0_.2.2.1 201 0 (vx6_ / 2).toNat) + 1 ∧ (S0_.2.2.1 201 0 (vx6_ / 2).toNat) + 1 ≤ 2147483647 from ⟨by omega, by omega⟩)
    have hFx16_ : ai_fr (sx_W vw_393n) S0_ (sm_aI (sm_aI (sm_aI S0_ 202 0 (vx6_ / 2).toNat 1) 203 0 (vx6_ / 2).toNat 0) 201 0 (vx6_ / 2).toNat ((S0_.2.2.1 201 0 (vx6_ / 2).toNat) + 1)) := ai_fr_tr hFx13_ (ai_fr_aI rfl)
    refine sm_T_rv rfl ⟨_, _, rfl, rfl, hIx15_, hFx16_, ?_⟩
    refine ⟨⟨fun j9_ => ?_, fun j9_ => ?_⟩, fun j9_ => ?_⟩
    · (try simp only [rd_eq, rd_ne, rf_eq, rf_nk, rf_nt, rd_fa, rd_af, rd_fl, rd_al, rd_lf, rd_la, rd_leq, rd_lne, rd_fr, rd_ar, ne_eq, Nat.reduceEqDiff, not_false_eq_true]); rw [e2_.1]
    · (try simp only [rd_eq, rd_ne, rf_eq, rf_nk, rf_nt, rd_fa, rd_af, rd_fl, rd_al, rd_lf, rd_la, rd_leq, rd_lne, rd_fr, rd_ar, ne_eq, Nat.reduceEqDiff, not_false_eq_true]); rw [e2_.1]; first | rw [if_pos (show nod d_ S0_ l_ < F_ by omega)] | rw [if_neg (show ¬ nod d_ S0_ l_ < F_ by omega)]
    · (try simp only [rd_eq, rd_ne, rf_eq, rf_nk, rf_nt, rd_fa, rd_af, rd_fl, rd_al, rd_lf, rd_la, rd_leq, rd_lne, rd_fr, rd_ar, ne_eq, Nat.reduceEqDiff, not_false_eq_true]); rw [e2_.1]; by_cases z9_ : j9_ = (nod d_ S0_ l_).toNat
      · rw [if_pos z9_, if_pos z9_, z9_]
      · rw [if_neg z9_, if_neg z9_]
  · have cx11_ : ¬ ((vx6_ / 2) < (S0_.2.2.1 160 0 (S0_.1 13 0 105).toNat)) := of_decide_eq_false cx11_
    refine sm_T_go 2 (c1 := (42, [some (.inr (.inr (some (13, 0)))), some (.inl l_), some (.inl vx6_)], [.inl 1, .inl (vx6_ / 2), .inr (.inr (some (203, 0)))], sm_aI S0_ 202 0 (vx6_ / 2).toNat 1)) rfl ?_
    refine sm_T_zas1 (n := 2048) rfl rfl (by omega) (by omega) (by omega) ?_
    have hIx17_ : gi (sm_aI (sm_aI S0_ 202 0 (vx6_ / 2).toNat 1) 203 0 (vx6_ / 2).toNat 1) := gi_aI hIx7_ (show 0 ≤ 1 ∧ 1 ≤ 1 from ⟨by omega, by omega⟩)
    have hFx18_ : ai_fr (sx_W vw_393n) S0_ (sm_aI (sm_aI S0_ 202 0 (vx6_ / 2).toNat 1) 203 0 (vx6_ / 2).toNat 1) := ai_fr_tr hFx8_ (ai_fr_aI rfl)
    refine sm_T_go 4 (c1 := (49, [some (.inr (.inr (some (13, 0)))), some (.inl l_), some (.inl vx6_)], [.inl 1, .inl vx6_, .inr (.inr (some (201, 0)))], sm_aI (sm_aI S0_ 202 0 (vx6_ / 2).toNat 1) 203 0 (vx6_ / 2).toNat 1)) rfl ?_
    refine sm_T_bin (w := (vx6_ / 2)) rfl (bi_shr (k := 1) (by decide) (by omega) (by omega)) ?_ -- pc_ 49
    refine sm_T_go 1 (c1 := (51, [some (.inr (.inr (some (13, 0)))), some (.inl l_), some (.inl vx6_)], [.inl (vx6_ / 2), .inr (.inr (some (201, 0))), .inl (vx6_ / 2), .inr (.inr (some (201, 0)))], sm_aI (sm_aI S0_ 202 0 (vx6_ / 2).toNat 1) 203 0 (vx6_ / 2).toNat 1)) rfl ?_
    refine sm_T_iald (n := 2048) rfl rfl (by omega) (by omega) ?_
    have bx19_ : (-2147483648) ≤ S0_.2.2.1 201 0 (vx6_ / 2).toNat ∧ S0_.2.2.1 201 0 (vx6_ / 2).toNat ≤ 2147483647 := hI_.2 201 0 _
    refine sm_T_go 1 (c1 := (53, [some (.inr (.inr (some (13, 0)))), some (.inl l_), some (.inl vx6_)], [.inl 1, .inl (S0_.2.2.1 201 0 (vx6_ / 2).toNat), .inl (vx6_ / 2), .inr (.inr (some (201, 0)))], sm_aI (sm_aI S0_ 202 0 (vx6_ / 2).toNat 1) 203 0 (vx6_ / 2).toNat 1)) rfl ?_
    refine sm_T_bin (w := (S0_.2.2.1 201 0 (vx6_ / 2).toNat) + 1) rfl (bi_add (by omega) (by omega) (by omega)) ?_ -- pc_ 53
    refine sm_T_iast (n := 2048) rfl rfl (by omega) (by omega) ?_
    have hIx20_ : gi (sm_aI (sm_aI (sm_aI S0_ 202 0 (vx6_ / 2).toNat 1) 203 0 (vx6_ / 2).toNat 1) 201 0 (vx6_ / 2).toNat ((S0_.2.2.1 201 0 (vx6_ / 2).toNat) + 1)) := gi_aI hIx17_ (show (-2147483648) ≤ (S0_.2.2.1 201 0 (vx6_ / 2).toNat) + 1 ∧ (S0_.2.2.1 201 0 (vx6_ / 2).toNat) + 1 ≤ 2147483647 from ⟨by omega, by omega⟩)
    have hFx21_ : ai_fr (sx_W vw_393n) S0_ (sm_aI (sm_aI (sm_aI S0_ 202 0 (vx6_ / 2).toNat 1) 203 0 (vx6_ / 2).toNat 1) 201 0 (vx6_ / 2).toNat ((S0_.2.2.1 201 0 (vx6_ / 2).toNat) + 1)) := ai_fr_tr hFx18_ (ai_fr_aI rfl)
    refine sm_T_rv rfl ⟨_, _, rfl, rfl, hIx20_, hFx21_, ?_⟩
    refine ⟨⟨fun j9_ => ?_, fun j9_ => ?_⟩, fun j9_ => ?_⟩
    · (try simp only [rd_eq, rd_ne, rf_eq, rf_nk, rf_nt, rd_fa, rd_af, rd_fl, rd_al, rd_lf, rd_la, rd_leq, rd_lne, rd_fr, rd_ar, ne_eq, Nat.reduceEqDiff, not_false_eq_true]); rw [e2_.1]
    · (try simp only [rd_eq, rd_ne, rf_eq, rf_nk, rf_nt, rd_fa, rd_af, rd_fl, rd_al, rd_lf, rd_la, rd_leq, rd_lne, rd_fr, rd_ar, ne_eq, Nat.reduceEqDiff, not_false_eq_true]); rw [e2_.1]; first | rw [if_pos (show nod d_ S0_ l_ < F_ by omega)] | rw [if_neg (show ¬ nod d_ S0_ l_ < F_ by omega)]
    · (try simp only [rd_eq, rd_ne, rf_eq, rf_nk, rf_nt, rd_fa, rd_af, rd_fl, rd_al, rd_lf, rd_la, rd_leq, rd_lne, rd_fr, rd_ar, ne_eq, Nat.reduceEqDiff, not_false_eq_true]); rw [e2_.1]; by_cases z9_ : j9_ = (nod d_ S0_ l_).toNat
      · rw [if_pos z9_, if_pos z9_, z9_]
      · rw [if_neg z9_, if_neg z9_]
/-! M_.layGraph -/
def vw_394n : sx_Wl := ([], [199, 200, 201, 202, 203], [])
def vq_394n (F_ : Int) (N_ : Int) (d_ : Int) (S0_ : sm_S) (u_ : Option sm_V) (S1_ : sm_S) : Prop := u_ = none ∧ gi S1_ ∧ ai_fr (sx_W vw_394n) S0_ S1_ ∧ ((lgn F_ N_ S1_ ∧ rtd F_ d_ (S0_.2.2.1 156 0 d_.toNat) (S0_.2.2.1 155 0 d_.toNat) S1_) ∧ (∀ q9_ : Nat, (q9_ : Int) < N_ → S1_.2.2.1 203 0 q9_ = if F_ ≤ (q9_ : Int) ∧ (0 < rcn (fun m_ => S0_.2.2.1 166 0 (2048 * d_.toNat + m_)) (rto (S0_.2.2.1 156 0 d_.toNat).toNat (fun k_ => S0_.2.2.1 167 0 (16 * d_.toNat + k_)) (fun k_ => S0_.2.2.1 168 0 (6 * d_.toNat + k_))) ((S0_.2.2.1 156 0 d_.toNat).toNat + (S0_.2.2.1 155 0 d_.toNat).toNat) q9_ ∨ ((ndf F_.toNat N_.toNat ((S0_.2.2.1 156 0 d_.toNat).toNat + (S0_.2.2.1 155 0 d_.toNat).toNat) (fun m_ => S0_.2.2.1 166 0 (2048 * d_.toNat + m_)) (fun m_ => S0_.2.2.1 164 0 (2048 * d_.toNat + m_)) (fun m_ => S0_.2.2.1 165 0 (2048 * d_.toNat + m_)) (rto (S0_.2.2.1 156 0 d_.toNat).toNat (fun k_ => S0_.2.2.1 167 0 (16 * d_.toNat + k_)) (fun k_ => S0_.2.2.1 168 0 (6 * d_.toNat + k_)))) q9_ = true ∧ 1 < rcn (fun m_ => S0_.2.2.1 166 0 (2048 * d_.toNat + m_)) (rto (S0_.2.2.1 156 0 d_.toNat).toNat (fun k_ => S0_.2.2.1 167 0 (16 * d_.toNat + k_)) (fun k_ => S0_.2.2.1 168 0 (6 * d_.toNat + k_))) ((S0_.2.2.1 156 0 d_.toNat).toNat + (S0_.2.2.1 155 0 d_.toNat).toNat) q9_ + psm (pgn (fun m_ => S0_.2.2.1 166 0 (2048 * d_.toNat + m_)) (fun m_ => S0_.2.2.1 164 0 (2048 * d_.toNat + m_)) (fun m_ => S0_.2.2.1 165 0 (2048 * d_.toNat + m_)) (ndf F_.toNat N_.toNat ((S0_.2.2.1 156 0 d_.toNat).toNat + (S0_.2.2.1 155 0 d_.toNat).toNat) (fun m_ => S0_.2.2.1 166 0 (2048 * d_.toNat + m_)) (fun m_ => S0_.2.2.1 164 0 (2048 * d_.toNat + m_)) (fun m_ => S0_.2.2.1 165 0 (2048 * d_.toNat + m_)) (rto (S0_.2.2.1 156 0 d_.toNat).toNat (fun k_ => S0_.2.2.1 167 0 (16 * d_.toNat + k_)) (fun k_ => S0_.2.2.1 168 0 (6 * d_.toNat + k_)))) q9_) F_.toNat (N_.toNat - F_.toNat))) then 1 else 0) ∧ ndw N_.toNat (N_.toNat - F_.toNat) (fun m_ => S0_.2.2.1 166 0 (2048 * d_.toNat + m_)) (fun m_ => S0_.2.2.1 164 0 (2048 * d_.toNat + m_)) (fun m_ => S0_.2.2.1 165 0 (2048 * d_.toNat + m_)) (nd0 (fun m_ => S0_.2.2.1 166 0 (2048 * d_.toNat + m_)) (rto (S0_.2.2.1 156 0 d_.toNat).toNat (fun k_ => S0_.2.2.1 167 0 (16 * d_.toNat + k_)) (fun k_ => S0_.2.2.1 168 0 (6 * d_.toNat + k_))) ((S0_.2.2.1 156 0 d_.toNat).toNat + (S0_.2.2.1 155 0 d_.toNat).toNat)) (S1_.2.2.1 202 0) ∧ ∀ j9_ : Int, F_ ≤ j9_ → j9_ < N_ → S1_.2.2.1 202 0 j9_.toNat = 1 → sdv (fun m_ => S0_.2.2.1 166 0 (2048 * d_.toNat + m_)) (fun m_ => S0_.2.2.1 164 0 (2048 * d_.toNat + m_)) (fun m_ => S0_.2.2.1 165 0 (2048 * d_.toNat + m_)) (S1_.2.2.1 199 0 j9_.toNat) (S1_.2.2.1 200 0 j9_.toNat) j9_.toNat)
set_option maxHeartbeats 8000000 in
set_option maxRecDepth 20000 in
theorem vl_394n {sc_ : Nat × (Nat → Int)} (F_ : Int) (N_ : Int) (d_ : Int) (S0_ : sm_S) (hd_ : dmp F_ N_ d_ S0_) : ∀ nn_ : Nat, (∀ (n_ : Int) (k_ : Int) (S_ : sm_S), gi S_ → ai_fr (sx_W vw_394n) S0_ S_ → ((∀ j9_ : Nat, (j9_ : Int) < k_ → S_.2.2.1 201 0 j9_ = 0 ∧ S_.2.2.1 203 0 j9_ = 0) ∧ (n_ = N_ ∧ 0 ≤ k_ ∧ k_ ≤ N_) ∧ (∀ j9_ : Int, 0 ≤ j9_ → j9_ < k_ → S_.2.2.1 202 0 j9_.toNat = 0) ∧ True) → ((90000 - k_).toNat) < nn_ → sm_T (mt_P sc_) 2 394 (12, [some (.inr (.inr (some (13, 0)))), some (.inl n_), some (.inl k_), none, none], [], S_) (fun ro9_ => ∃ u_ S1_, ro9_ = (.inl u_, S1_, 0) ∧ vq_394n F_ N_ d_ S0_ u_ S1_)) ∧ (∀ (n_ : Int) (k_ : Int) (S_ : sm_S), gi S_ → ai_fr (sx_W vw_394n) S0_ S_ → ((∀ q9_ : Nat, (q9_ : Int) < N_ → S_.2.2.1 201 0 q9_ = ((rcn (fun m_ => S0_.2.2.1 166 0 (2048 * d_.toNat + m_)) (rto (S0_.2.2.1 156 0 d_.toNat).toNat (fun k_ => S0_.2.2.1 167 0 (16 * d_.toNat + k_)) (fun k_ => S0_.2.2.1 168 0 (6 * d_.toNat + k_))) k_.toNat q9_ : Nat) : Int)) ∧ (ni0 N_.toNat k_.toNat (fun m_ => S0_.2.2.1 166 0 (2048 * d_.toNat + m_)) (rto (S0_.2.2.1 156 0 d_.toNat).toNat (fun k_ => S0_.2.2.1 167 0 (16 * d_.toNat + k_)) (fun k_ => S0_.2.2.1 168 0 (6 * d_.toNat + k_))) (S_.2.2.1 202 0)) ∧ (∀ q9_ : Nat, (q9_ : Int) < N_ → S_.2.2.1 203 0 q9_ = if F_ ≤ (q9_ : Int) ∧ 0 < rcn (fun m_ => S0_.2.2.1 166 0 (2048 * d_.toNat + m_)) (rto (S0_.2.2.1 156 0 d_.toNat).toNat (fun k_ => S0_.2.2.1 167 0 (16 * d_.toNat + k_)) (fun k_ => S0_.2.2.1 168 0 (6 * d_.toNat + k_))) k_.toNat q9_ then 1 else 0) ∧ (n_ = N_ ∧ 0 ≤ k_ ∧ k_ ≤ 16 ∧ k_ ≤ S0_.2.2.1 156 0 d_.toNat) ∧ (gwn N_ d_ S_) ∧ (rtd F_ d_ k_ 0 S_) ∧ True) → ((80000 - k_).toNat) < nn_ → sm_T (mt_P sc_) 2 394 (46, [some (.inr (.inr (some (13, 0)))), some (.inl n_), some (.inl k_), none, none], [], S_) (fun ro9_ => ∃ u_ S1_, ro9_ = (.inl u_, S1_, 0) ∧ vq_394n F_ N_ d_ S0_ u_ S1_)) ∧ (∀ (n_ : Int) (k_ : Int) (S_ : sm_S), gi S_ → ai_fr (sx_W vw_394n) S0_ S_ → ((∀ q9_ : Nat, (q9_ : Int) < N_ → S_.2.2.1 201 0 q9_ = ((rcn (fun m_ => S0_.2.2.1 166 0 (2048 * d_.toNat + m_)) (rto (S0_.2.2.1 156 0 d_.toNat).toNat (fun k_ => S0_.2.2.1 167 0 (16 * d_.toNat + k_)) (fun k_ => S0_.2.2.1 168 0 (6 * d_.toNat + k_))) ((S0_.2.2.1 156 0 d_.toNat).toNat + k_.toNat) q9_ : Nat) : Int)) ∧ (ni0 N_.toNat ((S0_.2.2.1 156 0 d_.toNat).toNat + k_.toNat) (fun m_ => S0_.2.2.1 166 0 (2048 * d_.toNat + m_)) (rto (S0_.2.2.1 156 0 d_.toNat).toNat (fun k_ => S0_.2.2.1 167 0 (16 * d_.toNat + k_)) (fun k_ => S0_.2.2.1 168 0 (6 * d_.toNat + k_))) (S_.2.2.1 202 0)) ∧ (∀ q9_ : Nat, (q9_ : Int) < N_ → S_.2.2.1 203 0 q9_ = if F_ ≤ (q9_ : Int) ∧ 0 < rcn (fun m_ => S0_.2.2.1 166 0 (2048 * d_.toNat + m_)) (rto (S0_.2.2.1 156 0 d_.toNat).toNat (fun k_ => S0_.2.2.1 167 0 (16 * d_.toNat + k_)) (fun k_ => S0_.2.2.1 168 0 (6 * d_.toNat + k_))) ((S0_.2.2.1 156 0 d_.toNat).toNat + k_.toNat) q9_ then 1 else 0) ∧ (n_ = N_ ∧ 0 ≤ k_ ∧ k_ ≤ 6 ∧ k_ ≤ S0_.2.2.1 155 0 d_.toNat) ∧ (gwn N_ d_ S_) ∧ (rtd F_ d_ (S0_.2.2.1 156 0 d_.toNat) k_ S_) ∧ True) → ((70000 - k_).toNat) < nn_ → sm_T (mt_P sc_) 2 394 (85, [some (.inr (.inr (some (13, 0)))), some (.inl n_), some (.inl k_), none, none], [], S_) (fun ro9_ => ∃ u_ S1_, ro9_ = (.inl u_, S1_, 0) ∧ vq_394n F_ N_ d_ S0_ u_ S1_)) ∧ (∀ (n_ : Int) (k_ : Int) (S_ : sm_S), gi S_ → ai_fr (sx_W vw_394n) S0_ S_ → ((∀ q9_ : Nat, (q9_ : Int) < N_ → S_.2.2.1 201 0 q9_ = ((rcn (fun m_ => S0_.2.2.1 166 0 (2048 * d_.toNat + m_)) (rto (S0_.2.2.1 156 0 d_.toNat).toNat (fun k_ => S0_.2.2.1 167 0 (16 * d_.toNat + k_)) (fun k_ => S0_.2.2.1 168 0 (6 * d_.toNat + k_))) ((S0_.2.2.1 156 0 d_.toNat).toNat + (S0_.2.2.1 155 0 d_.toNat).toNat) q9_ + psm (pgn (fun m_ => S0_.2.2.1 166 0 (2048 * d_.toNat + m_)) (fun m_ => S0_.2.2.1 164 0 (2048 * d_.toNat + m_)) (fun m_ => S0_.2.2.1 165 0 (2048 * d_.toNat + m_)) (ndf F_.toNat N_.toNat ((S0_.2.2.1 156 0 d_.toNat).toNat + (S0_.2.2.1 155 0 d_.toNat).toNat) (fun m_ => S0_.2.2.1 166 0 (2048 * d_.toNat + m_)) (fun m_ => S0_.2.2.1 164 0 (2048 * d_.toNat + m_)) (fun m_ => S0_.2.2.1 165 0 (2048 * d_.toNat + m_)) (rto (S0_.2.2.1 156 0 d_.toNat).toNat (fun k_ => S0_.2.2.1 167 0 (16 * d_.toNat + k_)) (fun k_ => S0_.2.2.1 168 0 (6 * d_.toNat + k_)))) q9_) (k_ + 1).toNat (N_ - 1 - k_).toNat : Nat) : Int)) ∧ (ndw N_.toNat (N_ - 1 - k_).toNat (fun m_ => S0_.2.2.1 166 0 (2048 * d_.toNat + m_)) (fun m_ => S0_.2.2.1 164 0 (2048 * d_.toNat + m_)) (fun m_ => S0_.2.2.1 165 0 (2048 * d_.toNat + m_)) (nd0 (fun m_ => S0_.2.2.1 166 0 (2048 * d_.toNat + m_)) (rto (S0_.2.2.1 156 0 d_.toNat).toNat (fun k_ => S0_.2.2.1 167 0 (16 * d_.toNat + k_)) (fun k_ => S0_.2.2.1 168 0 (6 * d_.toNat + k_))) ((S0_.2.2.1 156 0 d_.toNat).toNat + (S0_.2.2.1 155 0 d_.toNat).toNat)) (S_.2.2.1 202 0)) ∧ (∀ q9_ : Nat, (q9_ : Int) < N_ → S_.2.2.1 203 0 q9_ = if F_ ≤ (q9_ : Int) ∧ 0 < rcn (fun m_ => S0_.2.2.1 166 0 (2048 * d_.toNat + m_)) (rto (S0_.2.2.1 156 0 d_.toNat).toNat (fun k_ => S0_.2.2.1 167 0 (16 * d_.toNat + k_)) (fun k_ => S0_.2.2.1 168 0 (6 * d_.toNat + k_))) ((S0_.2.2.1 156 0 d_.toNat).toNat + (S0_.2.2.1 155 0 d_.toNat).toNat) q9_ then 1 else 0) ∧ (∀ j9_ : Int, k_ < j9_ → F_ ≤ j9_ → j9_ < N_ → S_.2.2.1 202 0 j9_.toNat = 1 → sdv (fun m_ => S0_.2.2.1 166 0 (2048 * d_.toNat + m_)) (fun m_ => S0_.2.2.1 164 0 (2048 * d_.toNat + m_)) (fun m_ => S0_.2.2.1 165 0 (2048 * d_.toNat + m_)) (S_.2.2.1 199 0 j9_.toNat) (S_.2.2.1 200 0 j9_.toNat) j9_.toNat) ∧ (n_ = N_ ∧ F_ - 1 ≤ k_ ∧ k_ < N_) ∧ (gwn N_ d_ S_) ∧ (rtd F_ d_ (S0_.2.2.1 156 0 d_.toNat) (S0_.2.2.1 155 0 d_.toNat) S_) ∧ (∀ j9_ : Int, k_ < j9_ → F_ ≤ j9_ → j9_ < N_ → S_.2.2.1 202 0 j9_.toNat = 1 → lgp S_ j9_) ∧ True) → ((10000 + k_).toNat) < nn_ → sm_T (mt_P sc_) 2 394 (126, [some (.inr (.inr (some (13, 0)))), some (.inl n_), some (.inl k_), none, none], [], S_) (fun ro9_ => ∃ u_ S1_, ro9_ = (.inl u_, S1_, 0) ∧ vq_394n F_ N_ d_ S0_ u_ S1_)) ∧ (∀ (n_ : Int) (k_ : Int) (S_ : sm_S), gi S_ → ai_fr (sx_W vw_394n) S0_ S_ → ((∀ q9_ : Nat, (q9_ : Int) < N_ → S_.2.2.1 201 0 q9_ = ((rcn (fun m_ => S0_.2.2.1 166 0 (2048 * d_.toNat + m_)) (rto (S0_.2.2.1 156 0 d_.toNat).toNat (fun k_ => S0_.2.2.1 167 0 (16 * d_.toNat + k_)) (fun k_ => S0_.2.2.1 168 0 (6 * d_.toNat + k_))) ((S0_.2.2.1 156 0 d_.toNat).toNat + (S0_.2.2.1 155 0 d_.toNat).toNat) q9_ + psm (pgn (fun m_ => S0_.2.2.1 166 0 (2048 * d_.toNat + m_)) (fun m_ => S0_.2.2.1 164 0 (2048 * d_.toNat + m_)) (fun m_ => S0_.2.2.1 165 0 (2048 * d_.toNat + m_)) (ndf F_.toNat N_.toNat ((S0_.2.2.1 156 0 d_.toNat).toNat + (S0_.2.2.1 155 0 d_.toNat).toNat) (fun m_ => S0_.2.2.1 166 0 (2048 * d_.toNat + m_)) (fun m_ => S0_.2.2.1 164 0 (2048 * d_.toNat + m_)) (fun m_ => S0_.2.2.1 165 0 (2048 * d_.toNat + m_)) (rto (S0_.2.2.1 156 0 d_.toNat).toNat (fun k_ => S0_.2.2.1 167 0 (16 * d_.toNat + k_)) (fun k_ => S0_.2.2.1 168 0 (6 * d_.toNat + k_)))) q9_) F_.toNat (N_.toNat - F_.toNat) : Nat) : Int)) ∧ (ndw N_.toNat (N_.toNat - F_.toNat) (fun m_ => S0_.2.2.1 166 0 (2048 * d_.toNat + m_)) (fun m_ => S0_.2.2.1 164 0 (2048 * d_.toNat + m_)) (fun m_ => S0_.2.2.1 165 0 (2048 * d_.toNat + m_)) (nd0 (fun m_ => S0_.2.2.1 166 0 (2048 * d_.toNat + m_)) (rto (S0_.2.2.1 156 0 d_.toNat).toNat (fun k_ => S0_.2.2.1 167 0 (16 * d_.toNat + k_)) (fun k_ => S0_.2.2.1 168 0 (6 * d_.toNat + k_))) ((S0_.2.2.1 156 0 d_.toNat).toNat + (S0_.2.2.1 155 0 d_.toNat).toNat)) (S_.2.2.1 202 0)) ∧ (∀ q9_ : Nat, (q9_ : Int) < N_ → S_.2.2.1 203 0 q9_ = if (q9_ : Int) < k_ then (if F_ ≤ (q9_ : Int) ∧ (0 < rcn (fun m_ => S0_.2.2.1 166 0 (2048 * d_.toNat + m_)) (rto (S0_.2.2.1 156 0 d_.toNat).toNat (fun k_ => S0_.2.2.1 167 0 (16 * d_.toNat + k_)) (fun k_ => S0_.2.2.1 168 0 (6 * d_.toNat + k_))) ((S0_.2.2.1 156 0 d_.toNat).toNat + (S0_.2.2.1 155 0 d_.toNat).toNat) q9_ ∨ ((ndf F_.toNat N_.toNat ((S0_.2.2.1 156 0 d_.toNat).toNat + (S0_.2.2.1 155 0 d_.toNat).toNat) (fun m_ => S0_.2.2.1 166 0 (2048 * d_.toNat + m_)) (fun m_ => S0_.2.2.1 164 0 (2048 * d_.toNat + m_)) (fun m_ => S0_.2.2.1 165 0 (2048 * d_.toNat + m_)) (rto (S0_.2.2.1 156 0 d_.toNat).toNat (fun k_ => S0_.2.2.1 167 0 (16 * d_.toNat + k_)) (fun k_ => S0_.2.2.1 168 0 (6 * d_.toNat + k_)))) q9_ = true ∧ 1 < rcn (fun m_ => S0_.2.2.1 166 0 (2048 * d_.toNat + m_)) (rto (S0_.2.2.1 156 0 d_.toNat).toNat (fun k_ => S0_.2.2.1 167 0 (16 * d_.toNat + k_)) (fun k_ => S0_.2.2.1 168 0 (6 * d_.toNat + k_))) ((S0_.2.2.1 156 0 d_.toNat).toNat + (S0_.2.2.1 155 0 d_.toNat).toNat) q9_ + psm (pgn (fun m_ => S0_.2.2.1 166 0 (2048 * d_.toNat + m_)) (fun m_ => S0_.2.2.1 164 0 (2048 * d_.toNat + m_)) (fun m_ => S0_.2.2.1 165 0 (2048 * d_.toNat + m_)) (ndf F_.toNat N_.toNat ((S0_.2.2.1 156 0 d_.toNat).toNat + (S0_.2.2.1 155 0 d_.toNat).toNat) (fun m_ => S0_.2.2.1 166 0 (2048 * d_.toNat + m_)) (fun m_ => S0_.2.2.1 164 0 (2048 * d_.toNat + m_)) (fun m_ => S0_.2.2.1 165 0 (2048 * d_.toNat + m_)) (rto (S0_.2.2.1 156 0 d_.toNat).toNat (fun k_ => S0_.2.2.1 167 0 (16 * d_.toNat + k_)) (fun k_ => S0_.2.2.1 168 0 (6 * d_.toNat + k_)))) q9_) F_.toNat (N_.toNat - F_.toNat))) then 1 else 0) else if F_ ≤ (q9_ : Int) ∧ 0 < rcn (fun m_ => S0_.2.2.1 166 0 (2048 * d_.toNat + m_)) (rto (S0_.2.2.1 156 0 d_.toNat).toNat (fun k_ => S0_.2.2.1 167 0 (16 * d_.toNat + k_)) (fun k_ => S0_.2.2.1 168 0 (6 * d_.toNat + k_))) ((S0_.2.2.1 156 0 d_.toNat).toNat + (S0_.2.2.1 155 0 d_.toNat).toNat) q9_ then 1 else 0) ∧ (∀ j9_ : Int, F_ ≤ j9_ → j9_ < N_ → S_.2.2.1 202 0 j9_.toNat = 1 → sdv (fun m_ => S0_.2.2.1 166 0 (2048 * d_.toNat + m_)) (fun m_ => S0_.2.2.1 164 0 (2048 * d_.toNat + m_)) (fun m_ => S0_.2.2.1 165 0 (2048 * d_.toNat + m_)) (S_.2.2.1 199 0 j9_.toNat) (S_.2.2.1 200 0 j9_.toNat) j9_.toNat) ∧ (n_ = N_ ∧ F_ ≤ k_ ∧ k_ ≤ N_) ∧ (rtd F_ d_ (S0_.2.2.1 156 0 d_.toNat) (S0_.2.2.1 155 0 d_.toNat) S_) ∧ (lgn F_ N_ S_) ∧ True) → ((5000 - k_).toNat) < nn_ → sm_T (mt_P sc_) 2 394 (285, [some (.inr (.inr (some (13, 0)))), some (.inl n_), some (.inl k_), none, none], [], S_) (fun ro9_ => ∃ u_ S1_, ro9_ = (.inl u_, S1_, 0) ∧ vq_394n F_ N_ d_ S0_ u_ S1_)) := by
  intro nn_
  induction nn_ with
  | zero => exact ⟨fun _ _ _ _ _ _ h_ => absurd h_ (Nat.not_lt_zero _), fun _ _ _ _ _ _ h_ => absurd h_ (Nat.not_lt_zero _), fun _ _ _ _ _ _ h_ => absurd h_ (Nat.not_lt_zero _), fun _ _ _ _ _ _ h_ => absurd h_ (Nat.not_lt_zero _), fun _ _ _ _ _ _ h_ => absurd h_ (Nat.not_lt_zero _)⟩
  | succ nn_ ih_ =>
    refine ⟨?_, ?_, ?_, ?_, ?_⟩
    · rintro n_ k_ S_ hI_ hF_ ⟨h2_, h0_, h1_, -⟩ hm_
      have d9_ := dmp_fr hd_ hF_
      have d1_ := d9_.1
      have n9_ : nod d_ S_ = nod d_ S0_ := nod_fr hF_
      have f154_ : S_.2.2.1 154 0 = S0_.2.2.1 154 0 := fr_arr hF_ rfl
      have f155_ : S_.2.2.1 155 0 = S0_.2.2.1 155 0 := fr_arr hF_ rfl
      have f156_ : S_.2.2.1 156 0 = S0_.2.2.1 156 0 := fr_arr hF_ rfl
      have f159_ : S_.2.2.1 159 0 = S0_.2.2.1 159 0 := fr_arr hF_ rfl
      have f160_ : S_.2.2.1 160 0 = S0_.2.2.1 160 0 := fr_arr hF_ rfl
      have f164_ : S_.2.2.1 164 0 = S0_.2.2.1 164 0 := fr_arr hF_ rfl
      have f165_ : S_.2.2.1 165 0 = S0_.2.2.1 165 0 := fr_arr hF_ rfl
      have f166_ : S_.2.2.1 166 0 = S0_.2.2.1 166 0 := fr_arr hF_ rfl
      have f167_ : S_.2.2.1 167 0 = S0_.2.2.1 167 0 := fr_arr hF_ rfl
      have f168_ : S_.2.2.1 168 0 = S0_.2.2.1 168 0 := fr_arr hF_ rfl
      have c55_ : 0 ≤ S_.2.2.1 155 0 d_.toNat ∧ S_.2.2.1 155 0 d_.toNat ≤ 6 := hI_.2 155 0 _
      have c56_ : 0 ≤ S_.2.2.1 156 0 d_.toNat ∧ S_.2.2.1 156 0 d_.toNat ≤ 16 := hI_.2 156 0 _
      have e155_ : S_.2.2.1 155 0 (S_.1 13 0 105).toNat = S_.2.2.1 155 0 d_.toNat := by rw [d1_.2.2.1]
      have e156_ : S_.2.2.1 156 0 (S_.1 13 0 105).toNat = S_.2.2.1 156 0 d_.toNat := by rw [d1_.2.2.1]
      have e160_ : S_.2.2.1 160 0 (S_.1 13 0 105).toNat = F_ := by (rw [d1_.2.2.1]; exact d1_.2.2.2.1)
      refine sm_T_go 2 (c1 := (14, [some (.inr (.inr (some (13, 0)))), some (.inl n_), some (.inl k_), none, none], [.inl n_, .inl k_], S_)) rfl ?_
      refine sm_T_br (a := 3) (z := 30) rfl (fun cx1_ => ?_) (fun cx1_ => ?_)
      · have cx1_ : n_ ≤ k_ := of_decide_eq_true cx1_
        refine sm_T_go 2 (c1 := (46, [some (.inr (.inr (some (13, 0)))), some (.inl n_), some (.inl 0), none, none], [], S_)) rfl ?_
        refine ih_.2.1 n_ 0 S_ hI_ hF_ ⟨?_, ?_, ?_, ?_, ?_, ?_, trivial⟩ ?_
        · (intro q9_ hq9_; rw [(h2_ q9_ (by omega)).1]; rfl)
        · exact ni0_0 (fun q9_ hq9_ => by (have w9_ := h1_ (q9_ : Int) (by omega) (by omega); rw [Int.toNat_natCast] at w9_; exact w9_))
        · (intro q9_ hq9_; rw [(h2_ q9_ (by omega)).2, if_neg (fun z9_ => absurd z9_.2 (Nat.lt_irrefl 0))])
        · (have x56_ : S_.2.2.1 156 0 d_.toNat = S0_.2.2.1 156 0 d_.toNat := congrFun f156_ _; omega)
        · (intro k9_ u0_ u1_ u2_; rw [h1_ k9_ u0_ (by omega)] at u2_; exact absurd u2_ (by decide))
        · exact ⟨fun i9_ u0_ u1_ => absurd u1_ (by omega), fun i9_ u0_ u1_ => absurd u1_ (by omega)⟩
        · omega
      · have cx1_ : ¬ (n_ ≤ k_) := of_decide_eq_false cx1_
        refine sm_T_go 4 (c1 := (23, [some (.inr (.inr (some (13, 0)))), some (.inl n_), some (.inl k_), none, none], [.inl 0, .inl k_, .inr (.inr (some (202, 0)))], S_)) rfl ?_
        refine sm_T_zas1 (n := 2048) rfl rfl (by omega) (by omega) (by omega) ?_
        have hIx2_ : gi (sm_aI S_ 202 0 k_.toNat 0) := gi_aI hI_ (show 0 ≤ 0 ∧ 0 ≤ 1 from ⟨by omega, by omega⟩)
        have hFx3_ : ai_fr (sx_W vw_394n) S0_ (sm_aI S_ 202 0 k_.toNat 0) := ai_fr_tr hF_ (ai_fr_aI rfl)
        refine sm_T_go 4 (c1 := (30, [some (.inr (.inr (some (13, 0)))), some (.inl n_), some (.inl k_), none, none], [.inl 0, .inl k_, .inr (.inr (some (203, 0)))], sm_aI S_ 202 0 k_.toNat 0)) rfl ?_
        refine sm_T_zas1 (n := 2048) rfl rfl (by omega) (by omega) (by omega) ?_
        have hIx4_ : gi (sm_aI (sm_aI S_ 202 0 k_.toNat 0) 203 0 k_.toNat 0) := gi_aI hIx2_ (show 0 ≤ 0 ∧ 0 ≤ 1 from ⟨by omega, by omega⟩)
        have hFx5_ : ai_fr (sx_W vw_394n) S0_ (sm_aI (sm_aI S_ 202 0 k_.toNat 0) 203 0 k_.toNat 0) := ai_fr_tr hFx3_ (ai_fr_aI rfl)
        refine sm_T_go 4 (c1 := (37, [some (.inr (.inr (some (13, 0)))), some (.inl n_), some (.inl k_), none, none], [.inl 0, .inl k_, .inr (.inr (some (201, 0)))], sm_aI (sm_aI S_ 202 0 k_.toNat 0) 203 0 k_.toNat 0)) rfl ?_
        refine sm_T_iast (n := 2048) rfl rfl (by omega) (by omega) ?_
        have hIx6_ : gi (sm_aI (sm_aI (sm_aI S_ 202 0 k_.toNat 0) 203 0 k_.toNat 0) 201 0 k_.toNat 0) := gi_aI hIx4_ (show (-2147483648) ≤ 0 ∧ 0 ≤ 2147483647 from ⟨by omega, by omega⟩)
        have hFx7_ : ai_fr (sx_W vw_394n) S0_ (sm_aI (sm_aI (sm_aI S_ 202 0 k_.toNat 0) 203 0 k_.toNat 0) 201 0 k_.toNat 0) := ai_fr_tr hFx5_ (ai_fr_aI rfl)
        refine sm_T_inc (a := 2) (z := 1) (v := k_) (w := k_ + 1) rfl rfl (by omega) (by omega) (by omega) ?_ -- pc_ 38
        refine sm_T_go 1 (c1 := (12, [some (.inr (.inr (some (13, 0)))), some (.inl n_), some (.inl (k_ + 1)), none, none], [], sm_aI (sm_aI (sm_aI S_ 202 0 k_.toNat 0) 203 0 k_.toNat 0) 201 0 k_.toNat 0)) rfl ?_
        refine ih_.1 n_ (k_ + 1) (sm_aI (sm_aI (sm_aI S_ 202 0 k_.toNat 0) 203 0 k_.toNat 0) 201 0 k_.toNat 0) hIx6_ hFx7_ ⟨?_, ?_, ?_, trivial⟩ ?_
        · intro j9_ hj9_
          have w9_ := fun q9_ => h2_ j9_ q9_
          refine ⟨?_, ?_⟩
          · (try simp only [rd_eq, rd_ne, rf_eq, rf_nk, rf_nt, rd_fa, rd_af, rd_fl, rd_al, rd_lf, rd_la, rd_leq, rd_lne, rd_fr, rd_ar, ne_eq, Nat.reduceEqDiff, not_false_eq_true]); split; rfl; exact (w9_ (by omega)).1
          · (try simp only [rd_eq, rd_ne, rf_eq, rf_nk, rf_nt, rd_fa, rd_af, rd_fl, rd_al, rd_lf, rd_la, rd_leq, rd_lne, rd_fr, rd_ar, ne_eq, Nat.reduceEqDiff, not_false_eq_true]); split; rfl; exact (w9_ (by omega)).2
        · omega
        · intro j9_ u0_ u1_
          (try simp only [rd_eq, rd_ne, rf_eq, rf_nk, rf_nt, rd_fa, rd_af, rd_fl, rd_al, rd_lf, rd_la, rd_leq, rd_lne, rd_fr, rd_ar, ne_eq, Nat.reduceEqDiff, not_false_eq_true])
          split
          · rfl
          · exact h1_ j9_ u0_ (by omega)
        · omega
    · rintro n_ k_ S_ hI_ hF_ ⟨hu_, hw_, hv_, h0_, hg_, hr_, -⟩ hm_
      have d9_ := dmp_fr hd_ hF_
      have d1_ := d9_.1
      have n9_ : nod d_ S_ = nod d_ S0_ := nod_fr hF_
      have f154_ : S_.2.2.1 154 0 = S0_.2.2.1 154 0 := fr_arr hF_ rfl
      have f155_ : S_.2.2.1 155 0 = S0_.2.2.1 155 0 := fr_arr hF_ rfl
      have f156_ : S_.2.2.1 156 0 = S0_.2.2.1 156 0 := fr_arr hF_ rfl
      have f159_ : S_.2.2.1 159 0 = S0_.2.2.1 159 0 := fr_arr hF_ rfl
      have f160_ : S_.2.2.1 160 0 = S0_.2.2.1 160 0 := fr_arr hF_ rfl
      have f164_ : S_.2.2.1 164 0 = S0_.2.2.1 164 0 := fr_arr hF_ rfl
      have f165_ : S_.2.2.1 165 0 = S0_.2.2.1 165 0 := fr_arr hF_ rfl
      have f166_ : S_.2.2.1 166 0 = S0_.2.2.1 166 0 := fr_arr hF_ rfl
      have f167_ : S_.2.2.1 167 0 = S0_.2.2.1 167 0 := fr_arr hF_ rfl
      have f168_ : S_.2.2.1 168 0 = S0_.2.2.1 168 0 := fr_arr hF_ rfl
      have c55_ : 0 ≤ S_.2.2.1 155 0 d_.toNat ∧ S_.2.2.1 155 0 d_.toNat ≤ 6 := hI_.2 155 0 _
      have c56_ : 0 ≤ S_.2.2.1 156 0 d_.toNat ∧ S_.2.2.1 156 0 d_.toNat ≤ 16 := hI_.2 156 0 _
      have e155_ : S_.2.2.1 155 0 (S_.1 13 0 105).toNat = S_.2.2.1 155 0 d_.toNat := by rw [d1_.2.2.1]
      have e156_ : S_.2.2.1 156 0 (S_.1 13 0 105).toNat = S_.2.2.1 156 0 d_.toNat := by rw [d1_.2.2.1]
      have e160_ : S_.2.2.1 160 0 (S_.1 13 0 105).toNat = F_ := by (rw [d1_.2.2.1]; exact d1_.2.2.2.1)
      have bx1_ : 0 ≤ S_.1 13 0 105 ∧ S_.1 13 0 105 ≤ 5 := hI_.1 13 0 105 rfl
      refine sm_T_go 5 (c1 := (55, [some (.inr (.inr (some (13, 0)))), some (.inl n_), some (.inl k_), none, none], [.inl (S_.1 13 0 105), .inr (.inr (some (156, 0))), .inl k_], S_)) rfl ?_
      refine sm_T_iald (n := 6) rfl rfl (by omega) (by omega) ?_
      have bx2_ : 0 ≤ S_.2.2.1 156 0 (S_.1 13 0 105).toNat ∧ S_.2.2.1 156 0 (S_.1 13 0 105).toNat ≤ 16 := hI_.2 156 0 _
      refine sm_T_br (a := 3) (z := 27) rfl (fun cx3_ => ?_) (fun cx3_ => ?_)
      · have cx3_ : (S_.2.2.1 156 0 (S_.1 13 0 105).toNat) ≤ k_ := of_decide_eq_true cx3_
        have x56_ : S_.2.2.1 156 0 d_.toNat = S0_.2.2.1 156 0 d_.toNat := congrFun f156_ _
        refine sm_T_go 2 (c1 := (85, [some (.inr (.inr (some (13, 0)))), some (.inl n_), some (.inl 0), none, none], [], S_)) rfl ?_
        refine ih_.2.2.1 n_ 0 S_ hI_ hF_ ⟨?_, ?_, ?_, ?_, ?_, ?_, trivial⟩ ?_
        · (intro q9_ hq9_; have w9_ := hu_ q9_ hq9_; rw [show (S0_.2.2.1 156 0 d_.toNat).toNat + (0 : Int).toNat = k_.toNat by omega]; exact w9_)
        · (rw [show (S0_.2.2.1 156 0 d_.toNat).toNat + (0 : Int).toNat = k_.toNat by omega]; exact hw_)
        · (intro q9_ hq9_; have w9_ := hv_ q9_ hq9_; rw [show (S0_.2.2.1 156 0 d_.toNat).toNat + (0 : Int).toNat = k_.toNat by omega]; exact w9_)
        · (have x55_ : S_.2.2.1 155 0 d_.toNat = S0_.2.2.1 155 0 d_.toNat := congrFun f155_ _; omega)
        · exact hg_
        · (rw [show S0_.2.2.1 156 0 d_.toNat = k_ by omega]; exact hr_)
        · omega
      · have cx3_ : ¬ ((S_.2.2.1 156 0 (S_.1 13 0 105).toNat) ≤ k_) := of_decide_eq_false cx3_
        have x56_ : S_.2.2.1 156 0 d_.toNat = S0_.2.2.1 156 0 d_.toNat := congrFun f156_ _
        have l9_ := (dmp_l d9_ (k_ := k_)).1 (by omega) (by omega)
        have t9_ : (16 * S_.1 13 0 105 + k_).toNat = (16 * d_ + k_).toNat := by (rw [d1_.2.2.1])
        have l8_ := l9_
        rw [← t9_] at l8_
        refine sm_T_go 6 (c1 := (70, [some (.inr (.inr (some (13, 0)))), some (.inl n_), some (.inl k_), none, none], [.inl (S_.1 13 0 105), .inl 16, .inr (.inr (some (167, 0))), .inr (.inr (some (13, 0)))], S_)) rfl ?_
        refine sm_T_bin (w := 16 * (S_.1 13 0 105)) rfl (bi_mul (by omega) (by omega) (by omega)) ?_ -- pc_ 70
        refine sm_T_go 1 (c1 := (72, [some (.inr (.inr (some (13, 0)))), some (.inl n_), some (.inl k_), none, none], [.inl k_, .inl (16 * (S_.1 13 0 105)), .inr (.inr (some (167, 0))), .inr (.inr (some (13, 0)))], S_)) rfl ?_
        refine sm_T_bin (w := 16 * (S_.1 13 0 105) + k_) rfl (bi_add (by omega) (by omega) (by omega)) ?_ -- pc_ 72
        refine sm_T_iald (n := 96) rfl rfl (by omega) (by omega) ?_
        have bx4_ : 0 ≤ S_.2.2.1 167 0 (16 * (S_.1 13 0 105) + k_).toNat ∧ S_.2.2.1 167 0 (16 * (S_.1 13 0 105) + k_).toNat ≤ 2047 := hI_.2 167 0 _
        refine sm_T_cal (d1 := 1) (Q1 := vq_393n (S_.2.2.1 167 0 (16 * (S_.1 13 0 105) + k_).toNat) F_ N_ d_ S_) rfl rfl (by decide) (vc_393n (S_.2.2.1 167 0 (16 * (S_.1 13 0 105) + k_).toNat) F_ N_ d_ S_ hI_ (by exact d9_) (by omega) (by (have b9_ := nod_b d9_ (l_ := S_.2.2.1 167 0 (16 * S_.1 13 0 105 + k_).toNat) (by omega) (by omega); have z9_ := hu_ (nod d_ S_ (S_.2.2.1 167 0 (16 * S_.1 13 0 105 + k_).toNat)).toNat (by omega); have z8_ := rcn_le (sf_ := (fun m_ => S0_.2.2.1 166 0 (2048 * d_.toNat + m_))) (rt_ := (rto (S0_.2.2.1 156 0 d_.toNat).toNat (fun k_ => S0_.2.2.1 167 0 (16 * d_.toNat + k_)) (fun k_ => S0_.2.2.1 168 0 (6 * d_.toNat + k_)))) (q_ := (nod d_ S_ (S_.2.2.1 167 0 (16 * S_.1 13 0 105 + k_).toNat)).toNat) (k_.toNat); omega))) (fun u_ Sx5_ px8_ => ?_)
        obtain ⟨rfl, hIx6_, hFx7_, px8_⟩ := px8_
        have hFx9_ : ai_fr (sx_W vw_394n) S0_ Sx5_ := ai_fr_tr hF_ (fr_le hFx7_ rfl)
        have ex10_ : Sx5_.1 13 0 105 = S_.1 13 0 105 := hFx7_.1 13 0 105 rfl
        have w74_ := (px8_).1
        have y974_ := (px8_).2
        rw [n9_, t9_] at w74_ y974_
        have n74_ : nod d_ Sx5_ = nod d_ S0_ := (nod_fr hFx7_).trans n9_
        have x74_ : Sx5_.2.2.1 166 0 = S_.2.2.1 166 0 := fr_arr hFx7_ rfl
        have y74_ : Sx5_.2.2.1 167 0 = S_.2.2.1 167 0 := fr_arr hFx7_ rfl
        have z74_ : Sx5_.2.2.1 168 0 = S_.2.2.1 168 0 := fr_arr hFx7_ rfl
        have rk9_ : (rto (S0_.2.2.1 156 0 d_.toNat).toNat (fun k_ => S0_.2.2.1 167 0 (16 * d_.toNat + k_)) (fun k_ => S0_.2.2.1 168 0 (6 * d_.toNat + k_))) k_.toNat = S_.2.2.1 167 0 (16 * d_ + k_).toNat := by (unfold rto; rw [if_pos (by omega), f167_]; exact congrArg (S0_.2.2.1 167 0) (by omega))
        have rn9_ : (nod d_ S0_ (S_.2.2.1 167 0 (16 * d_ + k_).toNat)).toNat = nsw (fun m_ => S0_.2.2.1 166 0 (2048 * d_.toNat + m_)) ((rto (S0_.2.2.1 156 0 d_.toNat).toNat (fun k_ => S0_.2.2.1 167 0 (16 * d_.toNat + k_)) (fun k_ => S0_.2.2.1 168 0 (6 * d_.toNat + k_))) k_.toNat) := by (rw [rk9_]; exact nod_n (by omega) (by omega))
        refine sm_T_inc (a := 2) (z := 1) (v := k_) (w := k_ + 1) rfl rfl (by omega) (by omega) (by omega) ?_ -- pc_ 77
        refine sm_T_go 1 (c1 := (46, [some (.inr (.inr (some (13, 0)))), some (.inl n_), some (.inl (k_ + 1)), none, none], [], Sx5_)) rfl ?_
        refine ih_.2.1 n_ (k_ + 1) Sx5_ hIx6_ hFx9_ ⟨?_, ?_, ?_, ?_, ?_, ?_, trivial⟩ ?_
        · intro q9_ hq9_
          have w9_ := hu_ q9_ hq9_
          rw [show (k_ + 1).toNat = k_.toNat + 1 by omega, y974_]
          show _ = (((rcn (fun m_ => S0_.2.2.1 166 0 (2048 * d_.toNat + m_)) (rto (S0_.2.2.1 156 0 d_.toNat).toNat (fun k_ => S0_.2.2.1 167 0 (16 * d_.toNat + k_)) (fun k_ => S0_.2.2.1 168 0 (6 * d_.toNat + k_))) k_.toNat q9_ + (if q9_ = nsw (fun m_ => S0_.2.2.1 166 0 (2048 * d_.toNat + m_)) ((rto (S0_.2.2.1 156 0 d_.toNat).toNat (fun k_ => S0_.2.2.1 167 0 (16 * d_.toNat + k_)) (fun k_ => S0_.2.2.1 168 0 (6 * d_.toNat + k_))) k_.toNat) then 1 else 0)) : Nat) : Int)
          rw [← rn9_]
          by_cases z9_ : q9_ = (nod d_ S0_ (S_.2.2.1 167 0 (16 * d_ + k_).toNat)).toNat
          · rw [if_pos z9_, if_pos z9_, w9_]; omega
          · rw [if_neg z9_, if_neg z9_, w9_]; omega
        · rw [show (k_ + 1).toNat = k_.toNat + 1 by omega]
          refine ni0_s hw_ (fun q9_ => ?_)
          rw [w74_.1, rn9_]
        · intro q9_ hq9_
          have w9_ := hv_ q9_ hq9_
          have b9_ := nod_b d9_ (l_ := S_.2.2.1 167 0 (16 * d_ + k_).toNat) (by omega) (by omega)
          rw [n9_] at b9_
          rw [show (k_ + 1).toNat = k_.toNat + 1 by omega, w74_.2]
          show _ = if F_ ≤ (q9_ : Int) ∧ 0 < (rcn (fun m_ => S0_.2.2.1 166 0 (2048 * d_.toNat + m_)) (rto (S0_.2.2.1 156 0 d_.toNat).toNat (fun k_ => S0_.2.2.1 167 0 (16 * d_.toNat + k_)) (fun k_ => S0_.2.2.1 168 0 (6 * d_.toNat + k_))) k_.toNat q9_ + (if q9_ = nsw (fun m_ => S0_.2.2.1 166 0 (2048 * d_.toNat + m_)) ((rto (S0_.2.2.1 156 0 d_.toNat).toNat (fun k_ => S0_.2.2.1 167 0 (16 * d_.toNat + k_)) (fun k_ => S0_.2.2.1 168 0 (6 * d_.toNat + k_))) k_.toNat) then 1 else 0)) then 1 else 0
          rw [← rn9_]
          by_cases z9_ : q9_ = (nod d_ S0_ (S_.2.2.1 167 0 (16 * d_ + k_).toNat)).toNat
          · rw [if_pos z9_, if_pos z9_]; by_cases y9_ : nod d_ S0_ (S_.2.2.1 167 0 (16 * d_ + k_).toNat) < F_
            · rw [if_pos y9_, if_neg (by omega)]
            · rw [if_neg y9_, if_pos (by omega)]
          · rw [if_neg z9_, if_neg z9_, w9_, Nat.add_zero]
        · omega
        · intro k9_ u0_ u1_ u2_
          rw [x74_]
          rw [w74_.1] at u2_
          by_cases z9_ : k9_.toNat = (nod d_ S0_ (S_.2.2.1 167 0 (16 * d_ + k_).toNat)).toNat
          · have b9_ := nod_b d9_ (l_ := S_.2.2.1 167 0 (16 * d_ + k_).toNat) (by omega) (by omega); rw [n9_] at b9_; rw [show k9_ = nod d_ S0_ (S_.2.2.1 167 0 (16 * d_ + k_).toNat) by omega]; exact b9_.2.2.1
          · rw [if_neg z9_] at u2_; exact hg_ k9_ u0_ u1_ u2_
        · refine ⟨fun i9_ u0_ u1_ => ?_, fun i9_ u0_ u1_ => ?_⟩
          · by_cases q9_ : i9_ = k_
            · rw [q9_, n74_, y74_]; exact mrk_nw w74_.1 w74_.2
            · rw [n74_, y74_]; have b9_ := nod_b d9_ (l_ := S_.2.2.1 167 0 (16 * d_ + k_).toNat) (by omega) (by omega); rw [n9_] at b9_; have m9_ := hr_.1 i9_ u0_ (by omega); rw [n9_] at m9_; have c9_ := (dmp_l d9_ (k_ := i9_)).1 u0_ (by omega); have a9_ := nod_b d9_ c9_.1 c9_.2; rw [n9_] at a9_; exact mrk_up m9_ b9_.1 a9_.1 w74_.1 w74_.2
          · rw [n74_, z74_]; have b9_ := nod_b d9_ (l_ := S_.2.2.1 167 0 (16 * d_ + k_).toNat) (by omega) (by omega); rw [n9_] at b9_; have m9_ := hr_.2 i9_ u0_ u1_; rw [n9_] at m9_; have c9_ := (dmp_l d9_ (k_ := i9_)).2 u0_ (by omega); have a9_ := nod_b d9_ c9_.1 c9_.2; rw [n9_] at a9_; exact mrk_up m9_ b9_.1 a9_.1 w74_.1 w74_.2
        · omega
    · rintro n_ k_ S_ hI_ hF_ ⟨hu_, hw_, hv_, h0_, hg_, hr_, -⟩ hm_
      have d9_ := dmp_fr hd_ hF_
      have d1_ := d9_.1
      have n9_ : nod d_ S_ = nod d_ S0_ := nod_fr hF_
      have f154_ : S_.2.2.1 154 0 = S0_.2.2.1 154 0 := fr_arr hF_ rfl
      have f155_ : S_.2.2.1 155 0 = S0_.2.2.1 155 0 := fr_arr hF_ rfl
      have f156_ : S_.2.2.1 156 0 = S0_.2.2.1 156 0 := fr_arr hF_ rfl
      have f159_ : S_.2.2.1 159 0 = S0_.2.2.1 159 0 := fr_arr hF_ rfl
      have f160_ : S_.2.2.1 160 0 = S0_.2.2.1 160 0 := fr_arr hF_ rfl
      have f164_ : S_.2.2.1 164 0 = S0_.2.2.1 164 0 := fr_arr hF_ rfl
      have f165_ : S_.2.2.1 165 0 = S0_.2.2.1 165 0 := fr_arr hF_ rfl
      have f166_ : S_.2.2.1 166 0 = S0_.2.2.1 166 0 := fr_arr hF_ rfl
      have f167_ : S_.2.2.1 167 0 = S0_.2.2.1 167 0 := fr_arr hF_ rfl
      have f168_ : S_.2.2.1 168 0 = S0_.2.2.1 168 0 := fr_arr hF_ rfl
      have c55_ : 0 ≤ S_.2.2.1 155 0 d_.toNat ∧ S_.2.2.1 155 0 d_.toNat ≤ 6 := hI_.2 155 0 _
      have c56_ : 0 ≤ S_.2.2.1 156 0 d_.toNat ∧ S_.2.2.1 156 0 d_.toNat ≤ 16 := hI_.2 156 0 _
      have e155_ : S_.2.2.1 155 0 (S_.1 13 0 105).toNat = S_.2.2.1 155 0 d_.toNat := by rw [d1_.2.2.1]
      have e156_ : S_.2.2.1 156 0 (S_.1 13 0 105).toNat = S_.2.2.1 156 0 d_.toNat := by rw [d1_.2.2.1]
      have e160_ : S_.2.2.1 160 0 (S_.1 13 0 105).toNat = F_ := by (rw [d1_.2.2.1]; exact d1_.2.2.2.1)
      have bx1_ : 0 ≤ S_.1 13 0 105 ∧ S_.1 13 0 105 ≤ 5 := hI_.1 13 0 105 rfl
      refine sm_T_go 5 (c1 := (94, [some (.inr (.inr (some (13, 0)))), some (.inl n_), some (.inl k_), none, none], [.inl (S_.1 13 0 105), .inr (.inr (some (155, 0))), .inl k_], S_)) rfl ?_
      refine sm_T_iald (n := 6) rfl rfl (by omega) (by omega) ?_
      have bx2_ : 0 ≤ S_.2.2.1 155 0 (S_.1 13 0 105).toNat ∧ S_.2.2.1 155 0 (S_.1 13 0 105).toNat ≤ 6 := hI_.2 155 0 _
      refine sm_T_br (a := 3) (z := 27) rfl (fun cx3_ => ?_) (fun cx3_ => ?_)
      · have cx3_ : (S_.2.2.1 155 0 (S_.1 13 0 105).toNat) ≤ k_ := of_decide_eq_true cx3_
        have x55_ : S_.2.2.1 155 0 d_.toNat = S0_.2.2.1 155 0 d_.toNat := congrFun f155_ _
        refine sm_T_go 2 (c1 := (124, [some (.inr (.inr (some (13, 0)))), some (.inl n_), some (.inl k_), none, none], [.inl 1, .inl n_], S_)) rfl ?_
        refine sm_T_bin (w := n_ - 1) rfl (bi_sub (by omega) (by omega) (by omega)) ?_ -- pc_ 124
        refine sm_T_go 1 (c1 := (126, [some (.inr (.inr (some (13, 0)))), some (.inl n_), some (.inl (n_ - 1)), none, none], [], S_)) rfl ?_
        refine ih_.2.2.2.1 n_ (n_ - 1) S_ hI_ hF_ ⟨?_, ?_, ?_, ?_, ?_, ?_, ?_, ?_, trivial⟩ ?_
        · intro q9_ hq9_
          have w9_ := hu_ q9_ hq9_
          have e9_ : ∀ x9_ : Int, x9_ = N_ - 1 → (N_ - 1 - x9_).toNat = 0 ∧ (x9_ + 1).toNat = N_.toNat := fun x9_ y9_ => by omega
          rw [(e9_ _ (by omega)).1, show ((S0_.2.2.1 156 0 d_.toNat).toNat + (S0_.2.2.1 155 0 d_.toNat).toNat) = (S0_.2.2.1 156 0 d_.toNat).toNat + k_.toNat by omega]
          show _ = ((rcn (fun m_ => S0_.2.2.1 166 0 (2048 * d_.toNat + m_)) (rto (S0_.2.2.1 156 0 d_.toNat).toNat (fun k_ => S0_.2.2.1 167 0 (16 * d_.toNat + k_)) (fun k_ => S0_.2.2.1 168 0 (6 * d_.toNat + k_))) ((S0_.2.2.1 156 0 d_.toNat).toNat + k_.toNat) q9_ + 0 : Nat) : Int)
          rw [Nat.add_zero]
          exact w9_
        · have e9_ : ∀ x9_ : Int, x9_ = N_ - 1 → (N_ - 1 - x9_).toNat = 0 ∧ (x9_ + 1).toNat = N_.toNat := fun x9_ y9_ => by omega
          rw [(e9_ _ (by omega)).1, show ((S0_.2.2.1 156 0 d_.toNat).toNat + (S0_.2.2.1 155 0 d_.toNat).toNat) = (S0_.2.2.1 156 0 d_.toNat).toNat + k_.toNat by omega]
          exact hw_
        · intro q9_ hq9_
          have w9_ := hv_ q9_ hq9_
          rw [show ((S0_.2.2.1 156 0 d_.toNat).toNat + (S0_.2.2.1 155 0 d_.toNat).toNat) = (S0_.2.2.1 156 0 d_.toNat).toNat + k_.toNat by omega]
          exact w9_
        · (intro j9_ u0_ u1_ u2_; exfalso; omega)
        · omega
        · exact hg_
        · (rw [show S0_.2.2.1 155 0 d_.toNat = k_ by omega]; exact hr_)
        · (intro j9_ u0_ u1_ u2_; exfalso; omega)
        · omega
      · have cx3_ : ¬ ((S_.2.2.1 155 0 (S_.1 13 0 105).toNat) ≤ k_) := of_decide_eq_false cx3_
        have x55_ : S_.2.2.1 155 0 d_.toNat = S0_.2.2.1 155 0 d_.toNat := congrFun f155_ _
        have x56_ : S_.2.2.1 156 0 d_.toNat = S0_.2.2.1 156 0 d_.toNat := congrFun f156_ _
        have l9_ := (dmp_l d9_ (k_ := k_)).2 (by omega) (by omega)
        have t9_ : (6 * S_.1 13 0 105 + k_).toNat = (6 * d_ + k_).toNat := by (rw [d1_.2.2.1])
        have l8_ := l9_
        rw [← t9_] at l8_
        refine sm_T_go 6 (c1 := (109, [some (.inr (.inr (some (13, 0)))), some (.inl n_), some (.inl k_), none, none], [.inl (S_.1 13 0 105), .inl 6, .inr (.inr (some (168, 0))), .inr (.inr (some (13, 0)))], S_)) rfl ?_
        refine sm_T_bin (w := 6 * (S_.1 13 0 105)) rfl (bi_mul (by omega) (by omega) (by omega)) ?_ -- pc_ 109
        refine sm_T_go 1 (c1 := (111, [some (.inr (.inr (some (13, 0)))), some (.inl n_), some (.inl k_), none, none], [.inl k_, .inl (6 * (S_.1 13 0 105)), .inr (.inr (some (168, 0))), .inr (.inr (some (13, 0)))], S_)) rfl ?_
        refine sm_T_bin (w := 6 * (S_.1 13 0 105) + k_) rfl (bi_add (by omega) (by omega) (by omega)) ?_ -- pc_ 111
        refine sm_T_iald (n := 36) rfl rfl (by omega) (by omega) ?_
        have bx4_ : 0 ≤ S_.2.2.1 168 0 (6 * (S_.1 13 0 105) + k_).toNat ∧ S_.2.2.1 168 0 (6 * (S_.1 13 0 105) + k_).toNat ≤ 2047 := hI_.2 168 0 _
        refine sm_T_cal (d1 := 1) (Q1 := vq_393n (S_.2.2.1 168 0 (6 * (S_.1 13 0 105) + k_).toNat) F_ N_ d_ S_) rfl rfl (by decide) (vc_393n (S_.2.2.1 168 0 (6 * (S_.1 13 0 105) + k_).toNat) F_ N_ d_ S_ hI_ (by exact d9_) (by omega) (by (have b9_ := nod_b d9_ (l_ := S_.2.2.1 168 0 (6 * S_.1 13 0 105 + k_).toNat) (by omega) (by omega); have z9_ := hu_ (nod d_ S_ (S_.2.2.1 168 0 (6 * S_.1 13 0 105 + k_).toNat)).toNat (by omega); have z8_ := rcn_le (sf_ := (fun m_ => S0_.2.2.1 166 0 (2048 * d_.toNat + m_))) (rt_ := (rto (S0_.2.2.1 156 0 d_.toNat).toNat (fun k_ => S0_.2.2.1 167 0 (16 * d_.toNat + k_)) (fun k_ => S0_.2.2.1 168 0 (6 * d_.toNat + k_)))) (q_ := (nod d_ S_ (S_.2.2.1 168 0 (6 * S_.1 13 0 105 + k_).toNat)).toNat) (((S0_.2.2.1 156 0 d_.toNat).toNat + k_.toNat)); omega))) (fun u_ Sx5_ px8_ => ?_)
        obtain ⟨rfl, hIx6_, hFx7_, px8_⟩ := px8_
        have hFx9_ : ai_fr (sx_W vw_394n) S0_ Sx5_ := ai_fr_tr hF_ (fr_le hFx7_ rfl)
        have ex10_ : Sx5_.1 13 0 105 = S_.1 13 0 105 := hFx7_.1 13 0 105 rfl
        have w113_ := (px8_).1
        have y9113_ := (px8_).2
        rw [n9_, t9_] at w113_ y9113_
        have n113_ : nod d_ Sx5_ = nod d_ S0_ := (nod_fr hFx7_).trans n9_
        have x113_ : Sx5_.2.2.1 166 0 = S_.2.2.1 166 0 := fr_arr hFx7_ rfl
        have y113_ : Sx5_.2.2.1 167 0 = S_.2.2.1 167 0 := fr_arr hFx7_ rfl
        have z113_ : Sx5_.2.2.1 168 0 = S_.2.2.1 168 0 := fr_arr hFx7_ rfl
        have rk9_ : (rto (S0_.2.2.1 156 0 d_.toNat).toNat (fun k_ => S0_.2.2.1 167 0 (16 * d_.toNat + k_)) (fun k_ => S0_.2.2.1 168 0 (6 * d_.toNat + k_))) ((S0_.2.2.1 156 0 d_.toNat).toNat + k_.toNat) = S_.2.2.1 168 0 (6 * d_ + k_).toNat := by (unfold rto; rw [if_neg (by omega), show (S0_.2.2.1 156 0 d_.toNat).toNat + k_.toNat - (S0_.2.2.1 156 0 d_.toNat).toNat = k_.toNat by omega, f168_]; exact congrArg (S0_.2.2.1 168 0) (by omega))
        have rn9_ : (nod d_ S0_ (S_.2.2.1 168 0 (6 * d_ + k_).toNat)).toNat = nsw (fun m_ => S0_.2.2.1 166 0 (2048 * d_.toNat + m_)) ((rto (S0_.2.2.1 156 0 d_.toNat).toNat (fun k_ => S0_.2.2.1 167 0 (16 * d_.toNat + k_)) (fun k_ => S0_.2.2.1 168 0 (6 * d_.toNat + k_))) ((S0_.2.2.1 156 0 d_.toNat).toNat + k_.toNat)) := by (rw [rk9_]; exact nod_n (by omega) (by omega))
        refine sm_T_inc (a := 2) (z := 1) (v := k_) (w := k_ + 1) rfl rfl (by omega) (by omega) (by omega) ?_ -- pc_ 116
        refine sm_T_go 1 (c1 := (85, [some (.inr (.inr (some (13, 0)))), some (.inl n_), some (.inl (k_ + 1)), none, none], [], Sx5_)) rfl ?_
        refine ih_.2.2.1 n_ (k_ + 1) Sx5_ hIx6_ hFx9_ ⟨?_, ?_, ?_, ?_, ?_, ?_, trivial⟩ ?_
        · intro q9_ hq9_
          have w9_ := hu_ q9_ hq9_
          rw [show (S0_.2.2.1 156 0 d_.toNat).toNat + (k_ + 1).toNat = ((S0_.2.2.1 156 0 d_.toNat).toNat + k_.toNat) + 1 by omega, y9113_]
          show _ = (((rcn (fun m_ => S0_.2.2.1 166 0 (2048 * d_.toNat + m_)) (rto (S0_.2.2.1 156 0 d_.toNat).toNat (fun k_ => S0_.2.2.1 167 0 (16 * d_.toNat + k_)) (fun k_ => S0_.2.2.1 168 0 (6 * d_.toNat + k_))) ((S0_.2.2.1 156 0 d_.toNat).toNat + k_.toNat) q9_ + (if q9_ = nsw (fun m_ => S0_.2.2.1 166 0 (2048 * d_.toNat + m_)) ((rto (S0_.2.2.1 156 0 d_.toNat).toNat (fun k_ => S0_.2.2.1 167 0 (16 * d_.toNat + k_)) (fun k_ => S0_.2.2.1 168 0 (6 * d_.toNat + k_))) ((S0_.2.2.1 156 0 d_.toNat).toNat + k_.toNat)) then 1 else 0)) : Nat) : Int)
          rw [← rn9_]
          by_cases z9_ : q9_ = (nod d_ S0_ (S_.2.2.1 168 0 (6 * d_ + k_).toNat)).toNat
          · rw [if_pos z9_, if_pos z9_, w9_]; omega
          · rw [if_neg z9_, if_neg z9_, w9_]; omega
        · rw [show (S0_.2.2.1 156 0 d_.toNat).toNat + (k_ + 1).toNat = ((S0_.2.2.1 156 0 d_.toNat).toNat + k_.toNat) + 1 by omega]
          refine ni0_s hw_ (fun q9_ => ?_)
          rw [w113_.1, rn9_]
        · intro q9_ hq9_
          have w9_ := hv_ q9_ hq9_
          have b9_ := nod_b d9_ (l_ := S_.2.2.1 168 0 (6 * d_ + k_).toNat) (by omega) (by omega)
          rw [n9_] at b9_
          rw [show (S0_.2.2.1 156 0 d_.toNat).toNat + (k_ + 1).toNat = ((S0_.2.2.1 156 0 d_.toNat).toNat + k_.toNat) + 1 by omega, w113_.2]
          show _ = if F_ ≤ (q9_ : Int) ∧ 0 < (rcn (fun m_ => S0_.2.2.1 166 0 (2048 * d_.toNat + m_)) (rto (S0_.2.2.1 156 0 d_.toNat).toNat (fun k_ => S0_.2.2.1 167 0 (16 * d_.toNat + k_)) (fun k_ => S0_.2.2.1 168 0 (6 * d_.toNat + k_))) ((S0_.2.2.1 156 0 d_.toNat).toNat + k_.toNat) q9_ + (if q9_ = nsw (fun m_ => S0_.2.2.1 166 0 (2048 * d_.toNat + m_)) ((rto (S0_.2.2.1 156 0 d_.toNat).toNat (fun k_ => S0_.2.2.1 167 0 (16 * d_.toNat + k_)) (fun k_ => S0_.2.2.1 168 0 (6 * d_.toNat + k_))) ((S0_.2.2.1 156 0 d_.toNat).toNat + k_.toNat)) then 1 else 0)) then 1 else 0
          rw [← rn9_]
          by_cases z9_ : q9_ = (nod d_ S0_ (S_.2.2.1 168 0 (6 * d_ + k_).toNat)).toNat
          · rw [if_pos z9_, if_pos z9_]; by_cases y9_ : nod d_ S0_ (S_.2.2.1 168 0 (6 * d_ + k_).toNat) < F_
            · rw [if_pos y9_, if_neg (by omega)]
            · rw [if_neg y9_, if_pos (by omega)]
          · rw [if_neg z9_, if_neg z9_, w9_, Nat.add_zero]
        · omega
        · intro k9_ u0_ u1_ u2_
          rw [x113_]
          rw [w113_.1] at u2_
          by_cases z9_ : k9_.toNat = (nod d_ S0_ (S_.2.2.1 168 0 (6 * d_ + k_).toNat)).toNat
          · have b9_ := nod_b d9_ (l_ := S_.2.2.1 168 0 (6 * d_ + k_).toNat) (by omega) (by omega); rw [n9_] at b9_; rw [show k9_ = nod d_ S0_ (S_.2.2.1 168 0 (6 * d_ + k_).toNat) by omega]; exact b9_.2.2.1
          · rw [if_neg z9_] at u2_; exact hg_ k9_ u0_ u1_ u2_
        · refine ⟨fun i9_ u0_ u1_ => ?_, fun i9_ u0_ u1_ => ?_⟩
          · rw [n113_, y113_]; have b9_ := nod_b d9_ (l_ := S_.2.2.1 168 0 (6 * d_ + k_).toNat) (by omega) (by omega); rw [n9_] at b9_; have m9_ := hr_.1 i9_ u0_ u1_; rw [n9_] at m9_; have c9_ := (dmp_l d9_ (k_ := i9_)).1 u0_ (by omega); have a9_ := nod_b d9_ c9_.1 c9_.2; rw [n9_] at a9_; exact mrk_up m9_ b9_.1 a9_.1 w113_.1 w113_.2
          · by_cases q9_ : i9_ = k_
            · rw [q9_, n113_, z113_]; exact mrk_nw w113_.1 w113_.2
            · rw [n113_, z113_]; have b9_ := nod_b d9_ (l_ := S_.2.2.1 168 0 (6 * d_ + k_).toNat) (by omega) (by omega); rw [n9_] at b9_; have m9_ := hr_.2 i9_ u0_ (by omega); rw [n9_] at m9_; have c9_ := (dmp_l d9_ (k_ := i9_)).2 u0_ (by omega); have a9_ := nod_b d9_ c9_.1 c9_.2; rw [n9_] at a9_; exact mrk_up m9_ b9_.1 a9_.1 w113_.1 w113_.2
        · omega
    · rintro n_ k_ S_ hI_ hF_ ⟨hu_, hw_, hv_, hsd_, h0_, hg_, hr_, hl_, -⟩ hm_
      have d9_ := dmp_fr hd_ hF_
      have d1_ := d9_.1
      have n9_ : nod d_ S_ = nod d_ S0_ := nod_fr hF_
      have f154_ : S_.2.2.1 154 0 = S0_.2.2.1 154 0 := fr_arr hF_ rfl
      have f155_ : S_.2.2.1 155 0 = S0_.2.2.1 155 0 := fr_arr hF_ rfl
      have f156_ : S_.2.2.1 156 0 = S0_.2.2.1 156 0 := fr_arr hF_ rfl
      have f159_ : S_.2.2.1 159 0 = S0_.2.2.1 159 0 := fr_arr hF_ rfl
      have f160_ : S_.2.2.1 160 0 = S0_.2.2.1 160 0 := fr_arr hF_ rfl
      have f164_ : S_.2.2.1 164 0 = S0_.2.2.1 164 0 := fr_arr hF_ rfl
      have f165_ : S_.2.2.1 165 0 = S0_.2.2.1 165 0 := fr_arr hF_ rfl
      have f166_ : S_.2.2.1 166 0 = S0_.2.2.1 166 0 := fr_arr hF_ rfl
      have f167_ : S_.2.2.1 167 0 = S0_.2.2.1 167 0 := fr_arr hF_ rfl
      have f168_ : S_.2.2.1 168 0 = S0_.2.2.1 168 0 := fr_arr hF_ rfl
      have c55_ : 0 ≤ S_.2.2.1 155 0 d_.toNat ∧ S_.2.2.1 155 0 d_.toNat ≤ 6 := hI_.2 155 0 _
      have c56_ : 0 ≤ S_.2.2.1 156 0 d_.toNat ∧ S_.2.2.1 156 0 d_.toNat ≤ 16 := hI_.2 156 0 _
      have e155_ : S_.2.2.1 155 0 (S_.1 13 0 105).toNat = S_.2.2.1 155 0 d_.toNat := by rw [d1_.2.2.1]
      have e156_ : S_.2.2.1 156 0 (S_.1 13 0 105).toNat = S_.2.2.1 156 0 d_.toNat := by rw [d1_.2.2.1]
      have e160_ : S_.2.2.1 160 0 (S_.1 13 0 105).toNat = F_ := by (rw [d1_.2.2.1]; exact d1_.2.2.2.1)
      have bx1_ : 0 ≤ S_.1 13 0 105 ∧ S_.1 13 0 105 ≤ 5 := hI_.1 13 0 105 rfl
      refine sm_T_go 5 (c1 := (135, [some (.inr (.inr (some (13, 0)))), some (.inl n_), some (.inl k_), none, none], [.inl (S_.1 13 0 105), .inr (.inr (some (160, 0))), .inl k_], S_)) rfl ?_
      refine sm_T_iald (n := 6) rfl rfl (by omega) (by omega) ?_
      have bx2_ : 0 ≤ S_.2.2.1 160 0 (S_.1 13 0 105).toNat ∧ S_.2.2.1 160 0 (S_.1 13 0 105).toNat ≤ 19 := hI_.2 160 0 _
      refine sm_T_br (a := 2) (z := 139) rfl (fun cx3_ => ?_) (fun cx3_ => ?_)
      · have cx3_ : k_ < (S_.2.2.1 160 0 (S_.1 13 0 105).toNat) := of_decide_eq_true cx3_
        refine sm_T_go 4 (c1 := (283, [some (.inr (.inr (some (13, 0)))), some (.inl n_), some (.inl k_), none, none], [.inl (S_.1 13 0 105), .inr (.inr (some (160, 0)))], S_)) rfl ?_
        refine sm_T_iald (n := 6) rfl rfl (by omega) (by omega) ?_
        refine sm_T_go 1 (c1 := (285, [some (.inr (.inr (some (13, 0)))), some (.inl n_), some (.inl (S_.2.2.1 160 0 (S_.1 13 0 105).toNat)), none, none], [], S_)) rfl ?_
        refine ih_.2.2.2.2 n_ (S_.2.2.1 160 0 (S_.1 13 0 105).toNat) S_ hI_ hF_ ⟨?_, ?_, ?_, ?_, ?_, ?_, ?_, trivial⟩ ?_
        · intro q9_ hq9_
          have w9_ := hu_ q9_ hq9_
          rw [show (k_ + 1).toNat = F_.toNat by omega, show (N_ - 1 - k_).toNat = N_.toNat - F_.toNat by omega] at w9_
          exact w9_
        · (rw [show N_.toNat - F_.toNat = (N_ - 1 - k_).toNat by omega]; exact hw_)
        · intro q9_ hq9_
          have w9_ := hv_ q9_ hq9_
          by_cases z9_ : (q9_ : Int) < F_
          · rw [if_pos (by (rw [e160_]; exact z9_)), if_neg (by omega)]; rw [if_neg (by omega)] at w9_; exact w9_
          · rw [if_neg (by (rw [e160_]; exact z9_))]; exact w9_
        · (intro j9_ u1_ u2_ u3_; exact hsd_ j9_ (by omega) u1_ u2_ u3_)
        · (rw [e160_]; omega)
        · exact hr_
        · (intro j9_ u0_ u1_ u2_; exact hl_ j9_ (by omega) u0_ u1_ u2_)
        · omega
      · have cx3_ : ¬ (k_ < (S_.2.2.1 160 0 (S_.1 13 0 105).toNat)) := of_decide_eq_false cx3_
        refine sm_T_go 3 (c1 := (144, [some (.inr (.inr (some (13, 0)))), some (.inl n_), some (.inl k_), none, none], [.inl k_, .inr (.inr (some (202, 0)))], S_)) rfl ?_
        refine sm_T_zald (n := 2048) rfl rfl (by omega) (by omega) ?_
        have bx4_ : 0 ≤ S_.2.2.1 202 0 k_.toNat ∧ S_.2.2.1 202 0 k_.toNat ≤ 1 := hI_.2 202 0 _
        refine sm_T_b0 (a := 0) (z := 124) rfl (fun cx5_ => ?_) (fun cx5_ => ?_)
        · have cx5_ : (S_.2.2.1 202 0 k_.toNat) = 0 := of_decide_eq_true cx5_
          refine sm_T_inc (a := 2) (z := (-1)) (v := k_) (w := k_ - 1) rfl rfl (by omega) (by omega) (by omega) ?_ -- pc_ 269
          refine sm_T_go 1 (c1 := (126, [some (.inr (.inr (some (13, 0)))), some (.inl n_), some (.inl (k_ - 1)), none, none], [], S_)) rfl ?_
          refine ih_.2.2.2.1 n_ (k_ - 1) S_ hI_ hF_ ⟨?_, ?_, ?_, ?_, ?_, ?_, ?_, ?_, trivial⟩ ?_
          · intro q9_ hq9_
            have w9_ := hu_ q9_ hq9_
            have fn9_ : (ndf F_.toNat N_.toNat ((S0_.2.2.1 156 0 d_.toNat).toNat + (S0_.2.2.1 155 0 d_.toNat).toNat) (fun m_ => S0_.2.2.1 166 0 (2048 * d_.toNat + m_)) (fun m_ => S0_.2.2.1 164 0 (2048 * d_.toNat + m_)) (fun m_ => S0_.2.2.1 165 0 (2048 * d_.toNat + m_)) (rto (S0_.2.2.1 156 0 d_.toNat).toNat (fun k_ => S0_.2.2.1 167 0 (16 * d_.toNat + k_)) (fun k_ => S0_.2.2.1 168 0 (6 * d_.toNat + k_)))) k_.toNat = (ndk N_.toNat (fun m_ => S0_.2.2.1 166 0 (2048 * d_.toNat + m_)) (fun m_ => S0_.2.2.1 164 0 (2048 * d_.toNat + m_)) (fun m_ => S0_.2.2.1 165 0 (2048 * d_.toNat + m_)) (nd0 (fun m_ => S0_.2.2.1 166 0 (2048 * d_.toNat + m_)) (rto (S0_.2.2.1 156 0 d_.toNat).toNat (fun k_ => S0_.2.2.1 167 0 (16 * d_.toNat + k_)) (fun k_ => S0_.2.2.1 168 0 (6 * d_.toNat + k_))) ((S0_.2.2.1 156 0 d_.toNat).toNat + (S0_.2.2.1 155 0 d_.toNat).toNat)) (N_ - 1 - k_).toNat).1 k_.toNat := ndk_fn (glo_k hd_) (sfb_k hd_) ((k_ + 1 - F_).toNat) _ _ (by omega) (by omega)
            have wk9_ := hw_ k_.toNat (by omega)
            have e9_ : ∀ x9_ : Int, x9_ = k_ - 1 → (x9_ + 1).toNat = k_.toNat ∧ (N_ - 1 - x9_).toNat = (N_ - 1 - k_).toNat + 1 := fun x9_ y9_ => by omega
            have pc9_ := psm_c (g_ := (pgn (fun m_ => S0_.2.2.1 166 0 (2048 * d_.toNat + m_)) (fun m_ => S0_.2.2.1 164 0 (2048 * d_.toNat + m_)) (fun m_ => S0_.2.2.1 165 0 (2048 * d_.toNat + m_)) (ndf F_.toNat N_.toNat ((S0_.2.2.1 156 0 d_.toNat).toNat + (S0_.2.2.1 155 0 d_.toNat).toNat) (fun m_ => S0_.2.2.1 166 0 (2048 * d_.toNat + m_)) (fun m_ => S0_.2.2.1 164 0 (2048 * d_.toNat + m_)) (fun m_ => S0_.2.2.1 165 0 (2048 * d_.toNat + m_)) (rto (S0_.2.2.1 156 0 d_.toNat).toNat (fun k_ => S0_.2.2.1 167 0 (16 * d_.toNat + k_)) (fun k_ => S0_.2.2.1 168 0 (6 * d_.toNat + k_)))) q9_)) (a_ := k_.toNat) (N_ - 1 - k_).toNat
            rw [(e9_ _ (by omega)).1, (e9_ _ (by omega)).2, pc9_, show k_.toNat + 1 = (k_ + 1).toNat by omega]
            have g9_ : pgn (fun m_ => S0_.2.2.1 166 0 (2048 * d_.toNat + m_)) (fun m_ => S0_.2.2.1 164 0 (2048 * d_.toNat + m_)) (fun m_ => S0_.2.2.1 165 0 (2048 * d_.toNat + m_)) (ndf F_.toNat N_.toNat ((S0_.2.2.1 156 0 d_.toNat).toNat + (S0_.2.2.1 155 0 d_.toNat).toNat) (fun m_ => S0_.2.2.1 166 0 (2048 * d_.toNat + m_)) (fun m_ => S0_.2.2.1 164 0 (2048 * d_.toNat + m_)) (fun m_ => S0_.2.2.1 165 0 (2048 * d_.toNat + m_)) (rto (S0_.2.2.1 156 0 d_.toNat).toNat (fun k_ => S0_.2.2.1 167 0 (16 * d_.toNat + k_)) (fun k_ => S0_.2.2.1 168 0 (6 * d_.toNat + k_)))) q9_ k_.toNat = 0 := by (unfold pgn; rw [if_neg (by (rw [fn9_]; intro z9_; have y9_ := wk9_.mpr z9_; omega))])
            rw [g9_, Nat.zero_add]
            exact w9_
          · have fn9_ : (ndf F_.toNat N_.toNat ((S0_.2.2.1 156 0 d_.toNat).toNat + (S0_.2.2.1 155 0 d_.toNat).toNat) (fun m_ => S0_.2.2.1 166 0 (2048 * d_.toNat + m_)) (fun m_ => S0_.2.2.1 164 0 (2048 * d_.toNat + m_)) (fun m_ => S0_.2.2.1 165 0 (2048 * d_.toNat + m_)) (rto (S0_.2.2.1 156 0 d_.toNat).toNat (fun k_ => S0_.2.2.1 167 0 (16 * d_.toNat + k_)) (fun k_ => S0_.2.2.1 168 0 (6 * d_.toNat + k_)))) k_.toNat = (ndk N_.toNat (fun m_ => S0_.2.2.1 166 0 (2048 * d_.toNat + m_)) (fun m_ => S0_.2.2.1 164 0 (2048 * d_.toNat + m_)) (fun m_ => S0_.2.2.1 165 0 (2048 * d_.toNat + m_)) (nd0 (fun m_ => S0_.2.2.1 166 0 (2048 * d_.toNat + m_)) (rto (S0_.2.2.1 156 0 d_.toNat).toNat (fun k_ => S0_.2.2.1 167 0 (16 * d_.toNat + k_)) (fun k_ => S0_.2.2.1 168 0 (6 * d_.toNat + k_))) ((S0_.2.2.1 156 0 d_.toNat).toNat + (S0_.2.2.1 155 0 d_.toNat).toNat)) (N_ - 1 - k_).toNat).1 k_.toNat := ndk_fn (glo_k hd_) (sfb_k hd_) ((k_ + 1 - F_).toNat) _ _ (by omega) (by omega)
            have wk9_ := hw_ k_.toNat (by omega)
            have e9_ : ∀ x9_ : Int, x9_ = k_ - 1 → (x9_ + 1).toNat = k_.toNat ∧ (N_ - 1 - x9_).toNat = (N_ - 1 - k_).toNat + 1 := fun x9_ y9_ => by omega
            rw [(e9_ _ (by omega)).2]
            exact ndw_n (n_ := k_.toNat) hw_ (by omega) (by omega) (by omega)
          · exact hv_
          · intro j9_ u0_ u1_ u2_ u3_
            by_cases z9_ : j9_ = k_
            · rw [z9_] at u3_; exfalso; omega
            · exact hsd_ j9_ (by omega) u1_ u2_ u3_
          · omega
          · exact hg_
          · exact hr_
          · intro j9_ u0_ u1_ u2_ u3_
            by_cases z9_ : j9_ = k_
            · rw [z9_] at u3_; exfalso; omega
            · exact hl_ j9_ (by omega) u1_ u2_ u3_
          · omega
        · have cx5_ : ¬ ((S_.2.2.1 202 0 k_.toNat) = 0) := of_decide_eq_false cx5_
          have t9_ : (2048 * S_.1 13 0 105 + k_).toNat = (2048 * d_ + k_).toNat := by (rw [d1_.2.2.1])
          have ub9_ : ∀ q9_ : Nat, (q9_ : Int) < N_ → 0 ≤ S_.2.2.1 201 0 q9_ ∧ S_.2.2.1 201 0 q9_ ≤ 100000 := fun q9_ h9_ => by (have w9_ := hu_ q9_ h9_; have l8_ := rcn_le (sf_ := (fun m_ => S0_.2.2.1 166 0 (2048 * d_.toNat + m_))) (rt_ := (rto (S0_.2.2.1 156 0 d_.toNat).toNat (fun k_ => S0_.2.2.1 167 0 (16 * d_.toNat + k_)) (fun k_ => S0_.2.2.1 168 0 (6 * d_.toNat + k_)))) (q_ := q9_) ((S0_.2.2.1 156 0 d_.toNat).toNat + (S0_.2.2.1 155 0 d_.toNat).toNat); have l7_ := psm_le (g_ := (pgn (fun m_ => S0_.2.2.1 166 0 (2048 * d_.toNat + m_)) (fun m_ => S0_.2.2.1 164 0 (2048 * d_.toNat + m_)) (fun m_ => S0_.2.2.1 165 0 (2048 * d_.toNat + m_)) (ndf F_.toNat N_.toNat ((S0_.2.2.1 156 0 d_.toNat).toNat + (S0_.2.2.1 155 0 d_.toNat).toNat) (fun m_ => S0_.2.2.1 166 0 (2048 * d_.toNat + m_)) (fun m_ => S0_.2.2.1 164 0 (2048 * d_.toNat + m_)) (fun m_ => S0_.2.2.1 165 0 (2048 * d_.toNat + m_)) (rto (S0_.2.2.1 156 0 d_.toNat).toNat (fun k_ => S0_.2.2.1 167 0 (16 * d_.toNat + k_)) (fun k_ => S0_.2.2.1 168 0 (6 * d_.toNat + k_)))) q9_)) (fun _ => pgn_le) (a_ := (k_ + 1).toNat) (N_ - 1 - k_).toNat; have x55_ : S_.2.2.1 155 0 d_.toNat = S0_.2.2.1 155 0 d_.toNat := congrFun f155_ _; have x56_ : S_.2.2.1 156 0 d_.toNat = S0_.2.2.1 156 0 d_.toNat := congrFun f156_ _; omega)
          have w9_ := hg_ k_ (by omega) (by omega) (by omega)
          have p9_ := nod_p d9_ (k_ := k_) (by omega) (by omega) w9_
          have q1_ := nod_b d9_ (l_ := S_.2.2.1 164 0 (2048 * d_ + k_).toNat) (by omega) (by omega)
          have q2_ := nod_b d9_ (l_ := S_.2.2.1 165 0 (2048 * d_ + k_).toNat) (by omega) (by omega)
          have l8_ : 0 ≤ S_.2.2.1 164 0 (2048 * S_.1 13 0 105 + k_).toNat ∧ S_.2.2.1 164 0 (2048 * S_.1 13 0 105 + k_).toNat < 2 * N_ := by (rw [t9_]; omega)
          have l7_ : 0 ≤ S_.2.2.1 165 0 (2048 * S_.1 13 0 105 + k_).toNat ∧ S_.2.2.1 165 0 (2048 * S_.1 13 0 105 + k_).toNat < 2 * N_ := by (rw [t9_]; omega)
          refine sm_T_go 6 (c1 := (160, [some (.inr (.inr (some (13, 0)))), some (.inl n_), some (.inl k_), none, none], [.inl (S_.1 13 0 105), .inl 2048, .inr (.inr (some (164, 0))), .inr (.inr (some (13, 0)))], S_)) rfl ?_
          refine sm_T_bin (w := 2048 * (S_.1 13 0 105)) rfl (bi_mul (by omega) (by omega) (by omega)) ?_ -- pc_ 160
          refine sm_T_go 1 (c1 := (162, [some (.inr (.inr (some (13, 0)))), some (.inl n_), some (.inl k_), none, none], [.inl k_, .inl (2048 * (S_.1 13 0 105)), .inr (.inr (some (164, 0))), .inr (.inr (some (13, 0)))], S_)) rfl ?_
          refine sm_T_bin (w := 2048 * (S_.1 13 0 105) + k_) rfl (bi_add (by omega) (by omega) (by omega)) ?_ -- pc_ 162
          refine sm_T_iald (n := 12288) rfl rfl (by omega) (by omega) ?_
          have bx6_ : 0 ≤ S_.2.2.1 164 0 (2048 * (S_.1 13 0 105) + k_).toNat ∧ S_.2.2.1 164 0 (2048 * (S_.1 13 0 105) + k_).toNat ≤ 2047 := hI_.2 164 0 _
          refine sm_T_cal (d1 := 0) (Q1 := vq_392 (S_.2.2.1 164 0 (2048 * (S_.1 13 0 105) + k_).toNat) F_ N_ d_ S_) rfl rfl (by decide) (vc_392 (S_.2.2.1 164 0 (2048 * (S_.1 13 0 105) + k_).toNat) F_ N_ d_ S_ hI_ (by exact d9_) (by omega)) (fun u_ Sx7_ px10_ => ?_)
          obtain ⟨rfl, vx12_, rfl, px10_⟩ := px10_
          have e164_ := px10_
          rw [t9_] at e164_
          have sa9_ : vx12_ = swt (fun m_ => S0_.2.2.1 166 0 (2048 * d_.toNat + m_)) (S0_.2.2.1 164 0 (2048 * d_.toNat + k_.toNat)) := by (have r9_ : S_.2.2.1 164 0 (2048 * d_ + k_).toNat = S0_.2.2.1 164 0 (2048 * d_.toNat + k_.toNat) := (by (rw [f164_]; exact congrArg (S0_.2.2.1 164 0) (by omega))); rw [e164_.2.2.2, r9_, f166_]; exact congrArg (fun x_ => i_xor (S0_.2.2.1 166 0 x_) (S0_.2.2.1 164 0 (2048 * d_.toNat + k_.toNat) % 2)) (by omega))
          have sa9u := ub9_ (vx12_ / 2).toNat (by omega)
          have a164_ := e164_.1
          refine sm_T_go 7 (c1 := (180, [some (.inr (.inr (some (13, 0)))), some (.inl n_), some (.inl k_), some (.inl vx12_), none], [.inl (S_.1 13 0 105), .inl 2048, .inr (.inr (some (165, 0))), .inr (.inr (some (13, 0)))], S_)) rfl ?_
          refine sm_T_bin (w := 2048 * (S_.1 13 0 105)) rfl (bi_mul (by omega) (by omega) (by omega)) ?_ -- pc_ 180
          refine sm_T_go 1 (c1 := (182, [some (.inr (.inr (some (13, 0)))), some (.inl n_), some (.inl k_), some (.inl vx12_), none], [.inl k_, .inl (2048 * (S_.1 13 0 105)), .inr (.inr (some (165, 0))), .inr (.inr (some (13, 0)))], S_)) rfl ?_
          refine sm_T_bin (w := 2048 * (S_.1 13 0 105) + k_) rfl (bi_add (by omega) (by omega) (by omega)) ?_ -- pc_ 182
          refine sm_T_iald (n := 12288) rfl rfl (by omega) (by omega) ?_
          have bx13_ : 0 ≤ S_.2.2.1 165 0 (2048 * (S_.1 13 0 105) + k_).toNat ∧ S_.2.2.1 165 0 (2048 * (S_.1 13 0 105) + k_).toNat ≤ 2047 := hI_.2 165 0 _
          refine sm_T_cal (d1 := 0) (Q1 := vq_392 (S_.2.2.1 165 0 (2048 * (S_.1 13 0 105) + k_).toNat) F_ N_ d_ S_) rfl rfl (by decide) (vc_392 (S_.2.2.1 165 0 (2048 * (S_.1 13 0 105) + k_).toNat) F_ N_ d_ S_ hI_ (by exact d9_) (by omega)) (fun u_ Sx14_ px17_ => ?_)
          obtain ⟨rfl, vx19_, rfl, px17_⟩ := px17_
          have e184_ := px17_
          rw [t9_] at e184_
          have sb9_ : vx19_ = swt (fun m_ => S0_.2.2.1 166 0 (2048 * d_.toNat + m_)) (S0_.2.2.1 165 0 (2048 * d_.toNat + k_.toNat)) := by (have r9_ : S_.2.2.1 165 0 (2048 * d_ + k_).toNat = S0_.2.2.1 165 0 (2048 * d_.toNat + k_.toNat) := (by (rw [f165_]; exact congrArg (S0_.2.2.1 165 0) (by omega))); rw [e184_.2.2.2, r9_, f166_]; exact congrArg (fun x_ => i_xor (S0_.2.2.1 166 0 x_) (S0_.2.2.1 165 0 (2048 * d_.toNat + k_.toNat) % 2)) (by omega))
          have sb9u := ub9_ (vx19_ / 2).toNat (by omega)
          have a184_ := e184_.1
          refine sm_T_go 6 (c1 := (197, [some (.inr (.inr (some (13, 0)))), some (.inl n_), some (.inl k_), some (.inl vx12_), some (.inl vx19_)], [.inl vx19_, .inl vx12_, .inl k_, .inr (.inr (some (199, 0)))], S_)) rfl ?_
          refine sm_T_br (a := 3) (z := 7) rfl (fun cx20_ => ?_) (fun cx20_ => ?_)
          · have cx20_ : vx19_ ≤ vx12_ := of_decide_eq_true cx20_
            refine sm_T_go 1 (c1 := (206, [some (.inr (.inr (some (13, 0)))), some (.inl n_), some (.inl k_), some (.inl vx12_), some (.inl vx19_)], [.inl vx19_, .inl k_, .inr (.inr (some (199, 0)))], S_)) rfl ?_
            refine sm_T_iast (n := 2048) rfl rfl (by omega) (by omega) ?_
            have hIx21_ : gi (sm_aI S_ 199 0 k_.toNat vx19_) := gi_aI hI_ (show 0 ≤ vx19_ ∧ vx19_ ≤ 2025 from ⟨by omega, by omega⟩)
            have hFx22_ : ai_fr (sx_W vw_394n) S0_ (sm_aI S_ 199 0 k_.toNat vx19_) := ai_fr_tr hF_ (ai_fr_aI rfl)
            refine sm_T_go 5 (c1 := (215, [some (.inr (.inr (some (13, 0)))), some (.inl n_), some (.inl k_), some (.inl vx12_), some (.inl vx19_)], [.inl vx19_, .inl vx12_, .inl k_, .inr (.inr (some (200, 0)))], sm_aI S_ 199 0 k_.toNat vx19_)) rfl ?_
            refine sm_T_br (a := 3) (z := 8) rfl (fun cx23_ => ?_) (fun cx23_ => ?_)
            · have cx23_ : vx19_ ≤ vx12_ := of_decide_eq_true cx23_
              refine sm_T_go 1 (c1 := (224, [some (.inr (.inr (some (13, 0)))), some (.inl n_), some (.inl k_), some (.inl vx12_), some (.inl vx19_)], [.inl vx12_, .inl k_, .inr (.inr (some (200, 0)))], sm_aI S_ 199 0 k_.toNat vx19_)) rfl ?_
              refine sm_T_iast (n := 2048) rfl rfl (by omega) (by omega) ?_
              have hIx24_ : gi (sm_aI (sm_aI S_ 199 0 k_.toNat vx19_) 200 0 k_.toNat vx12_) := gi_aI hIx21_ (show 0 ≤ vx12_ ∧ vx12_ ≤ 2025 from ⟨by omega, by omega⟩)
              have hFx25_ : ai_fr (sx_W vw_394n) S0_ (sm_aI (sm_aI S_ 199 0 k_.toNat vx19_) 200 0 k_.toNat vx12_) := ai_fr_tr hFx22_ (ai_fr_aI rfl)
              refine sm_T_go 4 (c1 := (231, [some (.inr (.inr (some (13, 0)))), some (.inl n_), some (.inl k_), some (.inl vx12_), some (.inl vx19_)], [.inl 1, .inl vx12_, .inr (.inr (some (202, 0)))], sm_aI (sm_aI S_ 199 0 k_.toNat vx19_) 200 0 k_.toNat vx12_)) rfl ?_
              refine sm_T_bin (w := (vx12_ / 2)) rfl (bi_shr (k := 1) (by decide) (by omega) (by omega)) ?_ -- pc_ 231
              refine sm_T_go 1 (c1 := (233, [some (.inr (.inr (some (13, 0)))), some (.inl n_), some (.inl k_), some (.inl vx12_), some (.inl vx19_)], [.inl 1, .inl (vx12_ / 2), .inr (.inr (some (202, 0)))], sm_aI (sm_aI S_ 199 0 k_.toNat vx19_) 200 0 k_.toNat vx12_)) rfl ?_
              refine sm_T_zas1 (n := 2048) rfl rfl (by omega) (by omega) (by omega) ?_
              have hIx26_ : gi (sm_aI (sm_aI (sm_aI S_ 199 0 k_.toNat vx19_) 200 0 k_.toNat vx12_) 202 0 (vx12_ / 2).toNat 1) := gi_aI hIx24_ (show 0 ≤ 1 ∧ 1 ≤ 1 from ⟨by omega, by omega⟩)
              have hFx27_ : ai_fr (sx_W vw_394n) S0_ (sm_aI (sm_aI (sm_aI S_ 199 0 k_.toNat vx19_) 200 0 k_.toNat vx12_) 202 0 (vx12_ / 2).toNat 1) := ai_fr_tr hFx25_ (ai_fr_aI rfl)
              refine sm_T_go 4 (c1 := (241, [some (.inr (.inr (some (13, 0)))), some (.inl n_), some (.inl k_), some (.inl vx12_), some (.inl vx19_)], [.inl 1, .inl vx19_, .inr (.inr (some (202, 0)))], sm_aI (sm_aI (sm_aI S_ 199 0 k_.toNat vx19_) 200 0 k_.toNat vx12_) 202 0 (vx12_ / 2).toNat 1)) rfl ?_
              refine sm_T_bin (w := (vx19_ / 2)) rfl (bi_shr (k := 1) (by decide) (by omega) (by omega)) ?_ -- pc_ 241
              refine sm_T_go 1 (c1 := (243, [some (.inr (.inr (some (13, 0)))), some (.inl n_), some (.inl k_), some (.inl vx12_), some (.inl vx19_)], [.inl 1, .inl (vx19_ / 2), .inr (.inr (some (202, 0)))], sm_aI (sm_aI (sm_aI S_ 199 0 k_.toNat vx19_) 200 0 k_.toNat vx12_) 202 0 (vx12_ / 2).toNat 1)) rfl ?_
              refine sm_T_zas1 (n := 2048) rfl rfl (by omega) (by omega) (by omega) ?_
              have hIx28_ : gi (sm_aI (sm_aI (sm_aI (sm_aI S_ 199 0 k_.toNat vx19_) 200 0 k_.toNat vx12_) 202 0 (vx12_ / 2).toNat 1) 202 0 (vx19_ / 2).toNat 1) := gi_aI hIx26_ (show 0 ≤ 1 ∧ 1 ≤ 1 from ⟨by omega, by omega⟩)
              have hFx29_ : ai_fr (sx_W vw_394n) S0_ (sm_aI (sm_aI (sm_aI (sm_aI S_ 199 0 k_.toNat vx19_) 200 0 k_.toNat vx12_) 202 0 (vx12_ / 2).toNat 1) 202 0 (vx19_ / 2).toNat 1) := ai_fr_tr hFx27_ (ai_fr_aI rfl)
              refine sm_T_go 4 (c1 := (250, [some (.inr (.inr (some (13, 0)))), some (.inl n_), some (.inl k_), some (.inl vx12_), some (.inl vx19_)], [.inl 1, .inl vx12_, .inr (.inr (some (201, 0)))], sm_aI (sm_aI (sm_aI (sm_aI S_ 199 0 k_.toNat vx19_) 200 0 k_.toNat vx12_) 202 0 (vx12_ / 2).toNat 1) 202 0 (vx19_ / 2).toNat 1)) rfl ?_
              refine sm_T_bin (w := (vx12_ / 2)) rfl (bi_shr (k := 1) (by decide) (by omega) (by omega)) ?_ -- pc_ 250
              refine sm_T_go 1 (c1 := (252, [some (.inr (.inr (some (13, 0)))), some (.inl n_), some (.inl k_), some (.inl vx12_), some (.inl vx19_)], [.inl (vx12_ / 2), .inr (.inr (some (201, 0))), .inl (vx12_ / 2), .inr (.inr (some (201, 0)))], sm_aI (sm_aI (sm_aI (sm_aI S_ 199 0 k_.toNat vx19_) 200 0 k_.toNat vx12_) 202 0 (vx12_ / 2).toNat 1) 202 0 (vx19_ / 2).toNat 1)) rfl ?_
              refine sm_T_iald (n := 2048) rfl rfl (by omega) (by omega) ?_
              have bx30_ : (-2147483648) ≤ S_.2.2.1 201 0 (vx12_ / 2).toNat ∧ S_.2.2.1 201 0 (vx12_ / 2).toNat ≤ 2147483647 := hI_.2 201 0 _
              refine sm_T_go 1 (c1 := (254, [some (.inr (.inr (some (13, 0)))), some (.inl n_), some (.inl k_), some (.inl vx12_), some (.inl vx19_)], [.inl 1, .inl (S_.2.2.1 201 0 (vx12_ / 2).toNat), .inl (vx12_ / 2), .inr (.inr (some (201, 0)))], sm_aI (sm_aI (sm_aI (sm_aI S_ 199 0 k_.toNat vx19_) 200 0 k_.toNat vx12_) 202 0 (vx12_ / 2).toNat 1) 202 0 (vx19_ / 2).toNat 1)) rfl ?_
              refine sm_T_bin (w := (S_.2.2.1 201 0 (vx12_ / 2).toNat) + 1) rfl (bi_add (by omega) (by omega) (by omega)) ?_ -- pc_ 254
              refine sm_T_iast (n := 2048) rfl rfl (by omega) (by omega) ?_
              have hIx31_ : gi (sm_aI (sm_aI (sm_aI (sm_aI (sm_aI S_ 199 0 k_.toNat vx19_) 200 0 k_.toNat vx12_) 202 0 (vx12_ / 2).toNat 1) 202 0 (vx19_ / 2).toNat 1) 201 0 (vx12_ / 2).toNat ((S_.2.2.1 201 0 (vx12_ / 2).toNat) + 1)) := gi_aI hIx28_ (show (-2147483648) ≤ (S_.2.2.1 201 0 (vx12_ / 2).toNat) + 1 ∧ (S_.2.2.1 201 0 (vx12_ / 2).toNat) + 1 ≤ 2147483647 from ⟨by omega, by omega⟩)
              have hFx32_ : ai_fr (sx_W vw_394n) S0_ (sm_aI (sm_aI (sm_aI (sm_aI (sm_aI S_ 199 0 k_.toNat vx19_) 200 0 k_.toNat vx12_) 202 0 (vx12_ / 2).toNat 1) 202 0 (vx19_ / 2).toNat 1) 201 0 (vx12_ / 2).toNat ((S_.2.2.1 201 0 (vx12_ / 2).toNat) + 1)) := ai_fr_tr hFx29_ (ai_fr_aI rfl)
              refine sm_T_go 4 (c1 := (263, [some (.inr (.inr (some (13, 0)))), some (.inl n_), some (.inl k_), some (.inl vx12_), some (.inl vx19_)], [.inl 1, .inl vx19_, .inr (.inr (some (201, 0)))], sm_aI (sm_aI (sm_aI (sm_aI (sm_aI S_ 199 0 k_.toNat vx19_) 200 0 k_.toNat vx12_) 202 0 (vx12_ / 2).toNat 1) 202 0 (vx19_ / 2).toNat 1) 201 0 (vx12_ / 2).toNat ((S_.2.2.1 201 0 (vx12_ / 2).toNat) + 1))) rfl ?_
              refine sm_T_bin (w := (vx19_ / 2)) rfl (bi_shr (k := 1) (by decide) (by omega) (by omega)) ?_ -- pc_ 263
              refine sm_T_go 1 (c1 := (265, [some (.inr (.inr (some (13, 0)))), some (.inl n_), some (.inl k_), some (.inl vx12_), some (.inl vx19_)], [.inl (vx19_ / 2), .inr (.inr (some (201, 0))), .inl (vx19_ / 2), .inr (.inr (some (201, 0)))], sm_aI (sm_aI (sm_aI (sm_aI (sm_aI S_ 199 0 k_.toNat vx19_) 200 0 k_.toNat vx12_) 202 0 (vx12_ / 2).toNat 1) 202 0 (vx19_ / 2).toNat 1) 201 0 (vx12_ / 2).toNat ((S_.2.2.1 201 0 (vx12_ / 2).toNat) + 1))) rfl ?_
              refine sm_T_iald (n := 2048) rfl rfl (by omega) (by omega) ?_
              have bx33_ : (-2147483648) ≤ (sm_aI (sm_aI (sm_aI (sm_aI (sm_aI S_ 199 0 k_.toNat vx19_) 200 0 k_.toNat vx12_) 202 0 (vx12_ / 2).toNat 1) 202 0 (vx19_ / 2).toNat 1) 201 0 (vx12_ / 2).toNat ((S_.2.2.1 201 0 (vx12_ / 2).toNat) + 1)).2.2.1 201 0 (vx19_ / 2).toNat ∧ (sm_aI (sm_aI (sm_aI (sm_aI (sm_aI S_ 199 0 k_.toNat vx19_) 200 0 k_.toNat vx12_) 202 0 (vx12_ / 2).toNat 1) 202 0 (vx19_ / 2).toNat 1) 201 0 (vx12_ / 2).toNat ((S_.2.2.1 201 0 (vx12_ / 2).toNat) + 1)).2.2.1 201 0 (vx19_ / 2).toNat ≤ 2147483647 := hIx31_.2 201 0 _
              refine sm_T_go 1 (c1 := (267, [some (.inr (.inr (some (13, 0)))), some (.inl n_), some (.inl k_), some (.inl vx12_), some (.inl vx19_)], [.inl 1, .inl ((sm_aI (sm_aI (sm_aI (sm_aI (sm_aI S_ 199 0 k_.toNat vx19_) 200 0 k_.toNat vx12_) 202 0 (vx12_ / 2).toNat 1) 202 0 (vx19_ / 2).toNat 1) 201 0 (vx12_ / 2).toNat ((S_.2.2.1 201 0 (vx12_ / 2).toNat) + 1)).2.2.1 201 0 (vx19_ / 2).toNat), .inl (vx19_ / 2), .inr (.inr (some (201, 0)))], sm_aI (sm_aI (sm_aI (sm_aI (sm_aI S_ 199 0 k_.toNat vx19_) 200 0 k_.toNat vx12_) 202 0 (vx12_ / 2).toNat 1) 202 0 (vx19_ / 2).toNat 1) 201 0 (vx12_ / 2).toNat ((S_.2.2.1 201 0 (vx12_ / 2).toNat) + 1))) rfl ?_
              refine sm_T_bin (w := ((sm_aI (sm_aI (sm_aI (sm_aI (sm_aI S_ 199 0 k_.toNat vx19_) 200 0 k_.toNat vx12_) 202 0 (vx12_ / 2).toNat 1) 202 0 (vx19_ / 2).toNat 1) 201 0 (vx12_ / 2).toNat ((S_.2.2.1 201 0 (vx12_ / 2).toNat) + 1)).2.2.1 201 0 (vx19_ / 2).toNat) + 1) rfl (bi_add (by omega) (by (first | omega | ((try simp only [rd_eq, rd_ne, rf_eq, rf_nk, rf_nt, rd_fa, rd_af, rd_fl, rd_al, rd_lf, rd_la, rd_leq, rd_lne, rd_fr, rd_ar, ne_eq, Nat.reduceEqDiff, not_false_eq_true]); split <;> omega))) (by (first | omega | ((try simp only [rd_eq, rd_ne, rf_eq, rf_nk, rf_nt, rd_fa, rd_af, rd_fl, rd_al, rd_lf, rd_la, rd_leq, rd_lne, rd_fr, rd_ar, ne_eq, Nat.reduceEqDiff, not_false_eq_true]); split <;> omega)))) ?_ -- pc_ 267
              refine sm_T_iast (n := 2048) rfl rfl (by (first | omega | ((try simp only [rd_eq, rd_ne, rf_eq, rf_nk, rf_nt, rd_fa, rd_af, rd_fl, rd_al, rd_lf, rd_la, rd_leq, rd_lne, rd_fr, rd_ar, ne_eq, Nat.reduceEqDiff, not_false_eq_true]); split <;> omega))) (by (first | omega | ((try simp only [rd_eq, rd_ne, rf_eq, rf_nk, rf_nt, rd_fa, rd_af, rd_fl, rd_al, rd_lf, rd_la, rd_leq, rd_lne, rd_fr, rd_ar, ne_eq, Nat.reduceEqDiff, not_false_eq_true]); split <;> omega))) ?_
              have hIx34_ : gi (sm_aI (sm_aI (sm_aI (sm_aI (sm_aI (sm_aI S_ 199 0 k_.toNat vx19_) 200 0 k_.toNat vx12_) 202 0 (vx12_ / 2).toNat 1) 202 0 (vx19_ / 2).toNat 1) 201 0 (vx12_ / 2).toNat ((S_.2.2.1 201 0 (vx12_ / 2).toNat) + 1)) 201 0 (vx19_ / 2).toNat (((sm_aI (sm_aI (sm_aI (sm_aI (sm_aI S_ 199 0 k_.toNat vx19_) 200 0 k_.toNat vx12_) 202 0 (vx12_ / 2).toNat 1) 202 0 (vx19_ / 2).toNat 1) 201 0 (vx12_ / 2).toNat ((S_.2.2.1 201 0 (vx12_ / 2).toNat) + 1)).2.2.1 201 0 (vx19_ / 2).toNat) + 1)) := gi_aI hIx31_ (show (-2147483648) ≤ ((sm_aI (sm_aI (sm_aI (sm_aI (sm_aI S_ 199 0 k_.toNat vx19_) 200 0 k_.toNat vx12_) 202 0 (vx12_ / 2).toNat 1) 202 0 (vx19_ / 2).toNat 1) 201 0 (vx12_ / 2).toNat ((S_.2.2.1 201 0 (vx12_ / 2).toNat) + 1)).2.2.1 201 0 (vx19_ / 2).toNat) + 1 ∧ ((sm_aI (sm_aI (sm_aI (sm_aI (sm_aI S_ 199 0 k_.toNat vx19_) 200 0 k_.toNat vx12_) 202 0 (vx12_ / 2).toNat 1) 202 0 (vx19_ / 2).toNat 1) 201 0 (vx12_ / 2).toNat ((S_.2.2.1 201 0 (vx12_ / 2).toNat) + 1)).2.2.1 201 0 (vx19_ / 2).toNat) + 1 ≤ 2147483647 from ⟨by (first | omega | ((try simp only [rd_eq, rd_ne, rf_eq, rf_nk, rf_nt, rd_fa, rd_af, rd_fl, rd_al, rd_lf, rd_la, rd_leq, rd_lne, rd_fr, rd_ar, ne_eq, Nat.reduceEqDiff, not_false_eq_true]); split <;> omega)), by (first | omega | ((try simp only [rd_eq, rd_ne, rf_eq, rf_nk, rf_nt, rd_fa, rd_af, rd_fl, rd_al, rd_lf, rd_la, rd_leq, rd_lne, rd_fr, rd_ar, ne_eq, Nat.reduceEqDiff, not_false_eq_true]); split <;> omega))⟩)
              have hFx35_ : ai_fr (sx_W vw_394n) S0_ (sm_aI (sm_aI (sm_aI (sm_aI (sm_aI (sm_aI S_ 199 0 k_.toNat vx19_) 200 0 k_.toNat vx12_) 202 0 (vx12_ / 2).toNat 1) 202 0 (vx19_ / 2).toNat 1) 201 0 (vx12_ / 2).toNat ((S_.2.2.1 201 0 (vx12_ / 2).toNat) + 1)) 201 0 (vx19_ / 2).toNat (((sm_aI (sm_aI (sm_aI (sm_aI (sm_aI S_ 199 0 k_.toNat vx19_) 200 0 k_.toNat vx12_) 202 0 (vx12_ / 2).toNat 1) 202 0 (vx19_ / 2).toNat 1) 201 0 (vx12_ / 2).toNat ((S_.2.2.1 201 0 (vx12_ / 2).toNat) + 1)).2.2.1 201 0 (vx19_ / 2).toNat) + 1)) := ai_fr_tr hFx32_ (ai_fr_aI rfl)
              refine sm_T_inc (a := 2) (z := (-1)) (v := k_) (w := k_ - 1) rfl rfl (by omega) (by omega) (by omega) ?_ -- pc_ 269
              refine sm_T_go 1 (c1 := (126, [some (.inr (.inr (some (13, 0)))), some (.inl n_), some (.inl (k_ - 1)), some (.inl vx12_), some (.inl vx19_)], [], sm_aI (sm_aI (sm_aI (sm_aI (sm_aI (sm_aI S_ 199 0 k_.toNat vx19_) 200 0 k_.toNat vx12_) 202 0 (vx12_ / 2).toNat 1) 202 0 (vx19_ / 2).toNat 1) 201 0 (vx12_ / 2).toNat ((S_.2.2.1 201 0 (vx12_ / 2).toNat) + 1)) 201 0 (vx19_ / 2).toNat (((sm_aI (sm_aI (sm_aI (sm_aI (sm_aI S_ 199 0 k_.toNat vx19_) 200 0 k_.toNat vx12_) 202 0 (vx12_ / 2).toNat 1) 202 0 (vx19_ / 2).toNat 1) 201 0 (vx12_ / 2).toNat ((S_.2.2.1 201 0 (vx12_ / 2).toNat) + 1)).2.2.1 201 0 (vx19_ / 2).toNat) + 1))) rfl ?_
              refine sm_T_wk [some (.inr (.inr (some (13, 0)))), some (.inl n_), some (.inl (k_ - 1)), none, none] (by exact ⟨rfl, rfl, rfl, trivial⟩) ?_
              refine ih_.2.2.2.1 n_ (k_ - 1) (sm_aI (sm_aI (sm_aI (sm_aI (sm_aI (sm_aI S_ 199 0 k_.toNat vx19_) 200 0 k_.toNat vx12_) 202 0 (vx12_ / 2).toNat 1) 202 0 (vx19_ / 2).toNat 1) 201 0 (vx12_ / 2).toNat ((S_.2.2.1 201 0 (vx12_ / 2).toNat) + 1)) 201 0 (vx19_ / 2).toNat (((sm_aI (sm_aI (sm_aI (sm_aI (sm_aI S_ 199 0 k_.toNat vx19_) 200 0 k_.toNat vx12_) 202 0 (vx12_ / 2).toNat 1) 202 0 (vx19_ / 2).toNat 1) 201 0 (vx12_ / 2).toNat ((S_.2.2.1 201 0 (vx12_ / 2).toNat) + 1)).2.2.1 201 0 (vx19_ / 2).toNat) + 1)) hIx34_ hFx35_ ⟨?_, ?_, ?_, ?_, ?_, ?_, ?_, ?_, trivial⟩ ?_
              · intro q9_ hq9_
                have w9_ := hu_ q9_ hq9_
                have fn9_ : (ndf F_.toNat N_.toNat ((S0_.2.2.1 156 0 d_.toNat).toNat + (S0_.2.2.1 155 0 d_.toNat).toNat) (fun m_ => S0_.2.2.1 166 0 (2048 * d_.toNat + m_)) (fun m_ => S0_.2.2.1 164 0 (2048 * d_.toNat + m_)) (fun m_ => S0_.2.2.1 165 0 (2048 * d_.toNat + m_)) (rto (S0_.2.2.1 156 0 d_.toNat).toNat (fun k_ => S0_.2.2.1 167 0 (16 * d_.toNat + k_)) (fun k_ => S0_.2.2.1 168 0 (6 * d_.toNat + k_)))) k_.toNat = (ndk N_.toNat (fun m_ => S0_.2.2.1 166 0 (2048 * d_.toNat + m_)) (fun m_ => S0_.2.2.1 164 0 (2048 * d_.toNat + m_)) (fun m_ => S0_.2.2.1 165 0 (2048 * d_.toNat + m_)) (nd0 (fun m_ => S0_.2.2.1 166 0 (2048 * d_.toNat + m_)) (rto (S0_.2.2.1 156 0 d_.toNat).toNat (fun k_ => S0_.2.2.1 167 0 (16 * d_.toNat + k_)) (fun k_ => S0_.2.2.1 168 0 (6 * d_.toNat + k_))) ((S0_.2.2.1 156 0 d_.toNat).toNat + (S0_.2.2.1 155 0 d_.toNat).toNat)) (N_ - 1 - k_).toNat).1 k_.toNat := ndk_fn (glo_k hd_) (sfb_k hd_) ((k_ + 1 - F_).toNat) _ _ (by omega) (by omega)
                have wk9_ := hw_ k_.toNat (by omega)
                have e9_ : ∀ x9_ : Int, x9_ = k_ - 1 → (x9_ + 1).toNat = k_.toNat ∧ (N_ - 1 - x9_).toNat = (N_ - 1 - k_).toNat + 1 := fun x9_ y9_ => by omega
                have pc9_ := psm_c (g_ := (pgn (fun m_ => S0_.2.2.1 166 0 (2048 * d_.toNat + m_)) (fun m_ => S0_.2.2.1 164 0 (2048 * d_.toNat + m_)) (fun m_ => S0_.2.2.1 165 0 (2048 * d_.toNat + m_)) (ndf F_.toNat N_.toNat ((S0_.2.2.1 156 0 d_.toNat).toNat + (S0_.2.2.1 155 0 d_.toNat).toNat) (fun m_ => S0_.2.2.1 166 0 (2048 * d_.toNat + m_)) (fun m_ => S0_.2.2.1 164 0 (2048 * d_.toNat + m_)) (fun m_ => S0_.2.2.1 165 0 (2048 * d_.toNat + m_)) (rto (S0_.2.2.1 156 0 d_.toNat).toNat (fun k_ => S0_.2.2.1 167 0 (16 * d_.toNat + k_)) (fun k_ => S0_.2.2.1 168 0 (6 * d_.toNat + k_)))) q9_)) (a_ := k_.toNat) (N_ - 1 - k_).toNat
                rw [(e9_ _ (by omega)).1, (e9_ _ (by omega)).2, pc9_, show k_.toNat + 1 = (k_ + 1).toNat by omega]
                have ia9_ : (nod d_ S_ (S_.2.2.1 164 0 (2048 * d_ + k_).toNat)).toNat = nsw (fun m_ => S0_.2.2.1 166 0 (2048 * d_.toNat + m_)) (S0_.2.2.1 164 0 (2048 * d_.toNat + k_.toNat)) := by (rw [n9_, nod_n (by omega) (by omega), f164_]; exact congrArg (fun x_ => nsw (fun m_ => S0_.2.2.1 166 0 (2048 * d_.toNat + m_)) (S0_.2.2.1 164 0 x_)) (by omega))
                have ib9_ : (nod d_ S_ (S_.2.2.1 165 0 (2048 * d_ + k_).toNat)).toNat = nsw (fun m_ => S0_.2.2.1 166 0 (2048 * d_.toNat + m_)) (S0_.2.2.1 165 0 (2048 * d_.toNat + k_.toNat)) := by (rw [n9_, nod_n (by omega) (by omega), f165_]; exact congrArg (fun x_ => nsw (fun m_ => S0_.2.2.1 166 0 (2048 * d_.toNat + m_)) (S0_.2.2.1 165 0 x_)) (by omega))
                have g9_ : pgn (fun m_ => S0_.2.2.1 166 0 (2048 * d_.toNat + m_)) (fun m_ => S0_.2.2.1 164 0 (2048 * d_.toNat + m_)) (fun m_ => S0_.2.2.1 165 0 (2048 * d_.toNat + m_)) (ndf F_.toNat N_.toNat ((S0_.2.2.1 156 0 d_.toNat).toNat + (S0_.2.2.1 155 0 d_.toNat).toNat) (fun m_ => S0_.2.2.1 166 0 (2048 * d_.toNat + m_)) (fun m_ => S0_.2.2.1 164 0 (2048 * d_.toNat + m_)) (fun m_ => S0_.2.2.1 165 0 (2048 * d_.toNat + m_)) (rto (S0_.2.2.1 156 0 d_.toNat).toNat (fun k_ => S0_.2.2.1 167 0 (16 * d_.toNat + k_)) (fun k_ => S0_.2.2.1 168 0 (6 * d_.toNat + k_)))) q9_ k_.toNat = (if q9_ = nsw (fun m_ => S0_.2.2.1 166 0 (2048 * d_.toNat + m_)) (S0_.2.2.1 164 0 (2048 * d_.toNat + k_.toNat)) then 1 else 0) + (if q9_ = nsw (fun m_ => S0_.2.2.1 166 0 (2048 * d_.toNat + m_)) (S0_.2.2.1 165 0 (2048 * d_.toNat + k_.toNat)) then 1 else 0) := by (unfold pgn; rw [if_pos (by (rw [fn9_]; exact wk9_.mp (by omega)))])
                rw [g9_]
                (try simp only [rd_eq, rd_ne, rf_eq, rf_nk, rf_nt, rd_fa, rd_af, rd_fl, rd_al, rd_lf, rd_la, rd_leq, rd_lne, rd_fr, rd_ar, ne_eq, Nat.reduceEqDiff, not_false_eq_true])
                rw [a164_, a184_, ia9_, ib9_]
                refine (inc2 w9_).trans ?_
                exact congrArg (fun x_ : Nat => (x_ : Int)) (by omega)
              · have fn9_ : (ndf F_.toNat N_.toNat ((S0_.2.2.1 156 0 d_.toNat).toNat + (S0_.2.2.1 155 0 d_.toNat).toNat) (fun m_ => S0_.2.2.1 166 0 (2048 * d_.toNat + m_)) (fun m_ => S0_.2.2.1 164 0 (2048 * d_.toNat + m_)) (fun m_ => S0_.2.2.1 165 0 (2048 * d_.toNat + m_)) (rto (S0_.2.2.1 156 0 d_.toNat).toNat (fun k_ => S0_.2.2.1 167 0 (16 * d_.toNat + k_)) (fun k_ => S0_.2.2.1 168 0 (6 * d_.toNat + k_)))) k_.toNat = (ndk N_.toNat (fun m_ => S0_.2.2.1 166 0 (2048 * d_.toNat + m_)) (fun m_ => S0_.2.2.1 164 0 (2048 * d_.toNat + m_)) (fun m_ => S0_.2.2.1 165 0 (2048 * d_.toNat + m_)) (nd0 (fun m_ => S0_.2.2.1 166 0 (2048 * d_.toNat + m_)) (rto (S0_.2.2.1 156 0 d_.toNat).toNat (fun k_ => S0_.2.2.1 167 0 (16 * d_.toNat + k_)) (fun k_ => S0_.2.2.1 168 0 (6 * d_.toNat + k_))) ((S0_.2.2.1 156 0 d_.toNat).toNat + (S0_.2.2.1 155 0 d_.toNat).toNat)) (N_ - 1 - k_).toNat).1 k_.toNat := ndk_fn (glo_k hd_) (sfb_k hd_) ((k_ + 1 - F_).toNat) _ _ (by omega) (by omega)
                have wk9_ := hw_ k_.toNat (by omega)
                have e9_ : ∀ x9_ : Int, x9_ = k_ - 1 → (x9_ + 1).toNat = k_.toNat ∧ (N_ - 1 - x9_).toNat = (N_ - 1 - k_).toNat + 1 := fun x9_ y9_ => by omega
                have ia9_ : (nod d_ S_ (S_.2.2.1 164 0 (2048 * d_ + k_).toNat)).toNat = nsw (fun m_ => S0_.2.2.1 166 0 (2048 * d_.toNat + m_)) (S0_.2.2.1 164 0 (2048 * d_.toNat + k_.toNat)) := by (rw [n9_, nod_n (by omega) (by omega), f164_]; exact congrArg (fun x_ => nsw (fun m_ => S0_.2.2.1 166 0 (2048 * d_.toNat + m_)) (S0_.2.2.1 164 0 x_)) (by omega))
                have ib9_ : (nod d_ S_ (S_.2.2.1 165 0 (2048 * d_ + k_).toNat)).toNat = nsw (fun m_ => S0_.2.2.1 166 0 (2048 * d_.toNat + m_)) (S0_.2.2.1 165 0 (2048 * d_.toNat + k_.toNat)) := by (rw [n9_, nod_n (by omega) (by omega), f165_]; exact congrArg (fun x_ => nsw (fun m_ => S0_.2.2.1 166 0 (2048 * d_.toNat + m_)) (S0_.2.2.1 165 0 x_)) (by omega))
                rw [(e9_ _ (by omega)).2]
                refine ndw_y (n_ := k_.toNat) hw_ (by omega) (by omega) (by omega) (fun q9_ => ?_)
                (try simp only [rd_eq, rd_ne, rf_eq, rf_nk, rf_nt, rd_fa, rd_af, rd_fl, rd_al, rd_lf, rd_la, rd_leq, rd_lne, rd_fr, rd_ar, ne_eq, Nat.reduceEqDiff, not_false_eq_true])
                rw [a164_, a184_, ia9_, ib9_]
              · intro q9_ hq9_
                have w9_ := hv_ q9_ hq9_
                (try simp only [rd_eq, rd_ne, rf_eq, rf_nk, rf_nt, rd_fa, rd_af, rd_fl, rd_al, rd_lf, rd_la, rd_leq, rd_lne, rd_fr, rd_ar, ne_eq, Nat.reduceEqDiff, not_false_eq_true])
                exact w9_
              · intro j9_ u0_ u1_ u2_ u3_
                by_cases z9_ : j9_ = k_
                · subst z9_
                  unfold sdv
                  rw [← sa9_, ← sb9_]
                  (try simp only [rd_eq, rd_ne, rf_eq, rf_nk, rf_nt, rd_fa, rd_af, rd_fl, rd_al, rd_lf, rd_la, rd_leq, rd_lne, rd_fr, rd_ar, ne_eq, Nat.reduceEqDiff, not_false_eq_true])
                  (try simp only [if_true])
                  refine ⟨?_, ?_⟩ <;> (split <;> omega)
                · have u4_ : S_.2.2.1 202 0 j9_.toNat = 1 := by
                    (try simp only [rd_eq, rd_ne, rf_eq, rf_nk, rf_nt, rd_fa, rd_af, rd_fl, rd_al, rd_lf, rd_la, rd_leq, rd_lne, rd_fr, rd_ar, ne_eq, Nat.reduceEqDiff, not_false_eq_true] at *)
                    rw [a164_, a184_] at u3_
                    rw [if_neg (by omega), if_neg (by omega)] at u3_
                    exact u3_
                  have w9_ := hsd_ j9_ (by omega) u1_ u2_ u4_
                  (try simp only [rd_eq, rd_ne, rf_eq, rf_nk, rf_nt, rd_fa, rd_af, rd_fl, rd_al, rd_lf, rd_la, rd_leq, rd_lne, rd_fr, rd_ar, ne_eq, Nat.reduceEqDiff, not_false_eq_true])
                  rw [if_neg (by omega), if_neg (by omega)]
                  exact w9_
              · omega
              · have s2_ : ∀ j9_, S_.2.2.1 202 0 j9_ = 1 → ((sm_aI (sm_aI (sm_aI (sm_aI (sm_aI (sm_aI S_ 199 0 k_.toNat vx19_) 200 0 k_.toNat vx12_) 202 0 (vx12_ / 2).toNat 1) 202 0 (vx19_ / 2).toNat 1) 201 0 (vx12_ / 2).toNat ((S_.2.2.1 201 0 (vx12_ / 2).toNat) + 1)) 201 0 (vx19_ / 2).toNat (((sm_aI (sm_aI (sm_aI (sm_aI (sm_aI S_ 199 0 k_.toNat vx19_) 200 0 k_.toNat vx12_) 202 0 (vx12_ / 2).toNat 1) 202 0 (vx19_ / 2).toNat 1) 201 0 (vx12_ / 2).toNat ((S_.2.2.1 201 0 (vx12_ / 2).toNat) + 1)).2.2.1 201 0 (vx19_ / 2).toNat) + 1))).2.2.1 202 0 j9_ = 1 := fun j9_ u9_ => by ((try simp only [rd_eq, rd_ne, rf_eq, rf_nk, rf_nt, rd_fa, rd_af, rd_fl, rd_al, rd_lf, rd_la, rd_leq, rd_lne, rd_fr, rd_ar, ne_eq, Nat.reduceEqDiff, not_false_eq_true]); split; rfl; (split; rfl; exact u9_))
                have s3_ : ((sm_aI (sm_aI (sm_aI (sm_aI (sm_aI (sm_aI S_ 199 0 k_.toNat vx19_) 200 0 k_.toNat vx12_) 202 0 (vx12_ / 2).toNat 1) 202 0 (vx19_ / 2).toNat 1) 201 0 (vx12_ / 2).toNat ((S_.2.2.1 201 0 (vx12_ / 2).toNat) + 1)) 201 0 (vx19_ / 2).toNat (((sm_aI (sm_aI (sm_aI (sm_aI (sm_aI S_ 199 0 k_.toNat vx19_) 200 0 k_.toNat vx12_) 202 0 (vx12_ / 2).toNat 1) 202 0 (vx19_ / 2).toNat 1) 201 0 (vx12_ / 2).toNat ((S_.2.2.1 201 0 (vx12_ / 2).toNat) + 1)).2.2.1 201 0 (vx19_ / 2).toNat) + 1))).2.2.1 203 0 = S_.2.2.1 203 0 := by (funext j9_; (try simp only [rd_eq, rd_ne, rf_eq, rf_nk, rf_nt, rd_fa, rd_af, rd_fl, rd_al, rd_lf, rd_la, rd_leq, rd_lne, rd_fr, rd_ar, ne_eq, Nat.reduceEqDiff, not_false_eq_true]))
                have s6_ : ((sm_aI (sm_aI (sm_aI (sm_aI (sm_aI (sm_aI S_ 199 0 k_.toNat vx19_) 200 0 k_.toNat vx12_) 202 0 (vx12_ / 2).toNat 1) 202 0 (vx19_ / 2).toNat 1) 201 0 (vx12_ / 2).toNat ((S_.2.2.1 201 0 (vx12_ / 2).toNat) + 1)) 201 0 (vx19_ / 2).toNat (((sm_aI (sm_aI (sm_aI (sm_aI (sm_aI S_ 199 0 k_.toNat vx19_) 200 0 k_.toNat vx12_) 202 0 (vx12_ / 2).toNat 1) 202 0 (vx19_ / 2).toNat 1) 201 0 (vx12_ / 2).toNat ((S_.2.2.1 201 0 (vx12_ / 2).toNat) + 1)).2.2.1 201 0 (vx19_ / 2).toNat) + 1))).2.2.1 166 0 = S_.2.2.1 166 0 := by (funext j9_; (try simp only [rd_eq, rd_ne, rf_eq, rf_nk, rf_nt, rd_fa, rd_af, rd_fl, rd_al, rd_lf, rd_la, rd_leq, rd_lne, rd_fr, rd_ar, ne_eq, Nat.reduceEqDiff, not_false_eq_true]))
                intro k9_ u0_ u1_ u2_
                rw [s6_]
                (try simp only [rd_eq, rd_ne, rf_eq, rf_nk, rf_nt, rd_fa, rd_af, rd_fl, rd_al, rd_lf, rd_la, rd_leq, rd_lne, rd_fr, rd_ar, ne_eq, Nat.reduceEqDiff, not_false_eq_true] at *)
                rw [a164_, a184_] at u2_
                by_cases z9_ : k9_.toNat = (nod d_ S_ (S_.2.2.1 165 0 (2048 * d_ + k_).toNat)).toNat
                · rw [show k9_ = nod d_ S_ (S_.2.2.1 165 0 (2048 * d_ + k_).toNat) by omega]; exact q2_.2.2.1
                · rw [if_neg z9_] at u2_
                  by_cases y9_ : k9_.toNat = (nod d_ S_ (S_.2.2.1 164 0 (2048 * d_ + k_).toNat)).toNat
                  · rw [show k9_ = nod d_ S_ (S_.2.2.1 164 0 (2048 * d_ + k_).toNat) by omega]; exact q1_.2.2.1
                  · rw [if_neg y9_] at u2_; exact hg_ k9_ u0_ u1_ u2_
              · have s2_ : ∀ j9_, S_.2.2.1 202 0 j9_ = 1 → ((sm_aI (sm_aI (sm_aI (sm_aI (sm_aI (sm_aI S_ 199 0 k_.toNat vx19_) 200 0 k_.toNat vx12_) 202 0 (vx12_ / 2).toNat 1) 202 0 (vx19_ / 2).toNat 1) 201 0 (vx12_ / 2).toNat ((S_.2.2.1 201 0 (vx12_ / 2).toNat) + 1)) 201 0 (vx19_ / 2).toNat (((sm_aI (sm_aI (sm_aI (sm_aI (sm_aI S_ 199 0 k_.toNat vx19_) 200 0 k_.toNat vx12_) 202 0 (vx12_ / 2).toNat 1) 202 0 (vx19_ / 2).toNat 1) 201 0 (vx12_ / 2).toNat ((S_.2.2.1 201 0 (vx12_ / 2).toNat) + 1)).2.2.1 201 0 (vx19_ / 2).toNat) + 1))).2.2.1 202 0 j9_ = 1 := fun j9_ u9_ => by ((try simp only [rd_eq, rd_ne, rf_eq, rf_nk, rf_nt, rd_fa, rd_af, rd_fl, rd_al, rd_lf, rd_la, rd_leq, rd_lne, rd_fr, rd_ar, ne_eq, Nat.reduceEqDiff, not_false_eq_true]); split; rfl; (split; rfl; exact u9_))
                have s3_ : ((sm_aI (sm_aI (sm_aI (sm_aI (sm_aI (sm_aI S_ 199 0 k_.toNat vx19_) 200 0 k_.toNat vx12_) 202 0 (vx12_ / 2).toNat 1) 202 0 (vx19_ / 2).toNat 1) 201 0 (vx12_ / 2).toNat ((S_.2.2.1 201 0 (vx12_ / 2).toNat) + 1)) 201 0 (vx19_ / 2).toNat (((sm_aI (sm_aI (sm_aI (sm_aI (sm_aI S_ 199 0 k_.toNat vx19_) 200 0 k_.toNat vx12_) 202 0 (vx12_ / 2).toNat 1) 202 0 (vx19_ / 2).toNat 1) 201 0 (vx12_ / 2).toNat ((S_.2.2.1 201 0 (vx12_ / 2).toNat) + 1)).2.2.1 201 0 (vx19_ / 2).toNat) + 1))).2.2.1 203 0 = S_.2.2.1 203 0 := by (funext j9_; (try simp only [rd_eq, rd_ne, rf_eq, rf_nk, rf_nt, rd_fa, rd_af, rd_fl, rd_al, rd_lf, rd_la, rd_leq, rd_lne, rd_fr, rd_ar, ne_eq, Nat.reduceEqDiff, not_false_eq_true]))
                have s6_ : ((sm_aI (sm_aI (sm_aI (sm_aI (sm_aI (sm_aI S_ 199 0 k_.toNat vx19_) 200 0 k_.toNat vx12_) 202 0 (vx12_ / 2).toNat 1) 202 0 (vx19_ / 2).toNat 1) 201 0 (vx12_ / 2).toNat ((S_.2.2.1 201 0 (vx12_ / 2).toNat) + 1)) 201 0 (vx19_ / 2).toNat (((sm_aI (sm_aI (sm_aI (sm_aI (sm_aI S_ 199 0 k_.toNat vx19_) 200 0 k_.toNat vx12_) 202 0 (vx12_ / 2).toNat 1) 202 0 (vx19_ / 2).toNat 1) 201 0 (vx12_ / 2).toNat ((S_.2.2.1 201 0 (vx12_ / 2).toNat) + 1)).2.2.1 201 0 (vx19_ / 2).toNat) + 1))).2.2.1 166 0 = S_.2.2.1 166 0 := by (funext j9_; (try simp only [rd_eq, rd_ne, rf_eq, rf_nk, rf_nt, rd_fa, rd_af, rd_fl, rd_al, rd_lf, rd_la, rd_leq, rd_lne, rd_fr, rd_ar, ne_eq, Nat.reduceEqDiff, not_false_eq_true]))
                exact rtd_mo hr_ s6_ (by (funext j9_; (try simp only [rd_eq, rd_ne, rf_eq, rf_nk, rf_nt, rd_fa, rd_af, rd_fl, rd_al, rd_lf, rd_la, rd_leq, rd_lne, rd_fr, rd_ar, ne_eq, Nat.reduceEqDiff, not_false_eq_true]))) (by (funext j9_; (try simp only [rd_eq, rd_ne, rf_eq, rf_nk, rf_nt, rd_fa, rd_af, rd_fl, rd_al, rd_lf, rd_la, rd_leq, rd_lne, rd_fr, rd_ar, ne_eq, Nat.reduceEqDiff, not_false_eq_true]))) s2_ (fun j9_ u9_ => by (rw [s3_]; exact u9_))
              · have s2_ : ∀ j9_, S_.2.2.1 202 0 j9_ = 1 → ((sm_aI (sm_aI (sm_aI (sm_aI (sm_aI (sm_aI S_ 199 0 k_.toNat vx19_) 200 0 k_.toNat vx12_) 202 0 (vx12_ / 2).toNat 1) 202 0 (vx19_ / 2).toNat 1) 201 0 (vx12_ / 2).toNat ((S_.2.2.1 201 0 (vx12_ / 2).toNat) + 1)) 201 0 (vx19_ / 2).toNat (((sm_aI (sm_aI (sm_aI (sm_aI (sm_aI S_ 199 0 k_.toNat vx19_) 200 0 k_.toNat vx12_) 202 0 (vx12_ / 2).toNat 1) 202 0 (vx19_ / 2).toNat 1) 201 0 (vx12_ / 2).toNat ((S_.2.2.1 201 0 (vx12_ / 2).toNat) + 1)).2.2.1 201 0 (vx19_ / 2).toNat) + 1))).2.2.1 202 0 j9_ = 1 := fun j9_ u9_ => by ((try simp only [rd_eq, rd_ne, rf_eq, rf_nk, rf_nt, rd_fa, rd_af, rd_fl, rd_al, rd_lf, rd_la, rd_leq, rd_lne, rd_fr, rd_ar, ne_eq, Nat.reduceEqDiff, not_false_eq_true]); split; rfl; (split; rfl; exact u9_))
                have s3_ : ((sm_aI (sm_aI (sm_aI (sm_aI (sm_aI (sm_aI S_ 199 0 k_.toNat vx19_) 200 0 k_.toNat vx12_) 202 0 (vx12_ / 2).toNat 1) 202 0 (vx19_ / 2).toNat 1) 201 0 (vx12_ / 2).toNat ((S_.2.2.1 201 0 (vx12_ / 2).toNat) + 1)) 201 0 (vx19_ / 2).toNat (((sm_aI (sm_aI (sm_aI (sm_aI (sm_aI S_ 199 0 k_.toNat vx19_) 200 0 k_.toNat vx12_) 202 0 (vx12_ / 2).toNat 1) 202 0 (vx19_ / 2).toNat 1) 201 0 (vx12_ / 2).toNat ((S_.2.2.1 201 0 (vx12_ / 2).toNat) + 1)).2.2.1 201 0 (vx19_ / 2).toNat) + 1))).2.2.1 203 0 = S_.2.2.1 203 0 := by (funext j9_; (try simp only [rd_eq, rd_ne, rf_eq, rf_nk, rf_nt, rd_fa, rd_af, rd_fl, rd_al, rd_lf, rd_la, rd_leq, rd_lne, rd_fr, rd_ar, ne_eq, Nat.reduceEqDiff, not_false_eq_true]))
                have s6_ : ((sm_aI (sm_aI (sm_aI (sm_aI (sm_aI (sm_aI S_ 199 0 k_.toNat vx19_) 200 0 k_.toNat vx12_) 202 0 (vx12_ / 2).toNat 1) 202 0 (vx19_ / 2).toNat 1) 201 0 (vx12_ / 2).toNat ((S_.2.2.1 201 0 (vx12_ / 2).toNat) + 1)) 201 0 (vx19_ / 2).toNat (((sm_aI (sm_aI (sm_aI (sm_aI (sm_aI S_ 199 0 k_.toNat vx19_) 200 0 k_.toNat vx12_) 202 0 (vx12_ / 2).toNat 1) 202 0 (vx19_ / 2).toNat 1) 201 0 (vx12_ / 2).toNat ((S_.2.2.1 201 0 (vx12_ / 2).toNat) + 1)).2.2.1 201 0 (vx19_ / 2).toNat) + 1))).2.2.1 166 0 = S_.2.2.1 166 0 := by (funext j9_; (try simp only [rd_eq, rd_ne, rf_eq, rf_nk, rf_nt, rd_fa, rd_af, rd_fl, rd_al, rd_lf, rd_la, rd_leq, rd_lne, rd_fr, rd_ar, ne_eq, Nat.reduceEqDiff, not_false_eq_true]))
                intro j9_ u0_ u1_ u2_ u3_
                by_cases z9_ : j9_ = k_
                · subst z9_
                  unfold lgp
                  (try simp only [rd_eq, rd_ne, rf_eq, rf_nk, rf_nt, rd_fa, rd_af, rd_fl, rd_al, rd_lf, rd_la, rd_leq, rd_lne, rd_fr, rd_ar, ne_eq, Nat.reduceEqDiff, not_false_eq_true])
                  rw [a164_, a184_]
                  first | (rw [if_pos rfl, if_pos rfl]) | skip
                  simp only [if_true]
                  refine ⟨⟨by omega, by omega, ?_⟩, by omega, by omega, ?_⟩ <;> (first | (rw [a164_]) | (rw [a184_]) | skip) <;> (split; rfl; (split; rfl; (exfalso; omega)))
                · have u4_ : S_.2.2.1 202 0 j9_.toNat = 1 := by
                    (try simp only [rd_eq, rd_ne, rf_eq, rf_nk, rf_nt, rd_fa, rd_af, rd_fl, rd_al, rd_lf, rd_la, rd_leq, rd_lne, rd_fr, rd_ar, ne_eq, Nat.reduceEqDiff, not_false_eq_true] at *)
                    rw [a164_, a184_] at u3_
                    rw [if_neg (by omega), if_neg (by omega)] at u3_
                    exact u3_
                  exact lgp_mo (hl_ j9_ (by omega) u1_ u2_ u4_) (by ((try simp only [rd_eq, rd_ne, rf_eq, rf_nk, rf_nt, rd_fa, rd_af, rd_fl, rd_al, rd_lf, rd_la, rd_leq, rd_lne, rd_fr, rd_ar, ne_eq, Nat.reduceEqDiff, not_false_eq_true]); rw [if_neg (by omega)])) (by ((try simp only [rd_eq, rd_ne, rf_eq, rf_nk, rf_nt, rd_fa, rd_af, rd_fl, rd_al, rd_lf, rd_la, rd_leq, rd_lne, rd_fr, rd_ar, ne_eq, Nat.reduceEqDiff, not_false_eq_true]); rw [if_neg (by omega)])) s2_
              · omega
            · have cx23_ : ¬ (vx19_ ≤ vx12_) := of_decide_eq_false cx23_
              exfalso; omega
          · have cx20_ : ¬ (vx19_ ≤ vx12_) := of_decide_eq_false cx20_
            refine sm_T_go 2 (c1 := (206, [some (.inr (.inr (some (13, 0)))), some (.inl n_), some (.inl k_), some (.inl vx12_), some (.inl vx19_)], [.inl vx12_, .inl k_, .inr (.inr (some (199, 0)))], S_)) rfl ?_
            refine sm_T_iast (n := 2048) rfl rfl (by omega) (by omega) ?_
            have hIx36_ : gi (sm_aI S_ 199 0 k_.toNat vx12_) := gi_aI hI_ (show 0 ≤ vx12_ ∧ vx12_ ≤ 2025 from ⟨by omega, by omega⟩)
            have hFx37_ : ai_fr (sx_W vw_394n) S0_ (sm_aI S_ 199 0 k_.toNat vx12_) := ai_fr_tr hF_ (ai_fr_aI rfl)
            refine sm_T_go 5 (c1 := (215, [some (.inr (.inr (some (13, 0)))), some (.inl n_), some (.inl k_), some (.inl vx12_), some (.inl vx19_)], [.inl vx19_, .inl vx12_, .inl k_, .inr (.inr (some (200, 0)))], sm_aI S_ 199 0 k_.toNat vx12_)) rfl ?_
            refine sm_T_br (a := 3) (z := 8) rfl (fun cx38_ => ?_) (fun cx38_ => ?_)
            · have cx38_ : vx19_ ≤ vx12_ := of_decide_eq_true cx38_
              exfalso; omega
            · have cx38_ : ¬ (vx19_ ≤ vx12_) := of_decide_eq_false cx38_
              refine sm_T_go 2 (c1 := (224, [some (.inr (.inr (some (13, 0)))), some (.inl n_), some (.inl k_), some (.inl vx12_), some (.inl vx19_)], [.inl vx19_, .inl k_, .inr (.inr (some (200, 0)))], sm_aI S_ 199 0 k_.toNat vx12_)) rfl ?_
              refine sm_T_iast (n := 2048) rfl rfl (by omega) (by omega) ?_
              have hIx39_ : gi (sm_aI (sm_aI S_ 199 0 k_.toNat vx12_) 200 0 k_.toNat vx19_) := gi_aI hIx36_ (show 0 ≤ vx19_ ∧ vx19_ ≤ 2025 from ⟨by omega, by omega⟩)
              have hFx40_ : ai_fr (sx_W vw_394n) S0_ (sm_aI (sm_aI S_ 199 0 k_.toNat vx12_) 200 0 k_.toNat vx19_) := ai_fr_tr hFx37_ (ai_fr_aI rfl)
              refine sm_T_go 4 (c1 := (231, [some (.inr (.inr (some (13, 0)))), some (.inl n_), some (.inl k_), some (.inl vx12_), some (.inl vx19_)], [.inl 1, .inl vx12_, .inr (.inr (some (202, 0)))], sm_aI (sm_aI S_ 199 0 k_.toNat vx12_) 200 0 k_.toNat vx19_)) rfl ?_
              refine sm_T_bin (w := (vx12_ / 2)) rfl (bi_shr (k := 1) (by decide) (by omega) (by omega)) ?_ -- pc_ 231
              refine sm_T_go 1 (c1 := (233, [some (.inr (.inr (some (13, 0)))), some (.inl n_), some (.inl k_), some (.inl vx12_), some (.inl vx19_)], [.inl 1, .inl (vx12_ / 2), .inr (.inr (some (202, 0)))], sm_aI (sm_aI S_ 199 0 k_.toNat vx12_) 200 0 k_.toNat vx19_)) rfl ?_
              refine sm_T_zas1 (n := 2048) rfl rfl (by omega) (by omega) (by omega) ?_
              have hIx41_ : gi (sm_aI (sm_aI (sm_aI S_ 199 0 k_.toNat vx12_) 200 0 k_.toNat vx19_) 202 0 (vx12_ / 2).toNat 1) := gi_aI hIx39_ (show 0 ≤ 1 ∧ 1 ≤ 1 from ⟨by omega, by omega⟩)
              have hFx42_ : ai_fr (sx_W vw_394n) S0_ (sm_aI (sm_aI (sm_aI S_ 199 0 k_.toNat vx12_) 200 0 k_.toNat vx19_) 202 0 (vx12_ / 2).toNat 1) := ai_fr_tr hFx40_ (ai_fr_aI rfl)
              refine sm_T_go 4 (c1 := (241, [some (.inr (.inr (some (13, 0)))), some (.inl n_), some (.inl k_), some (.inl vx12_), some (.inl vx19_)], [.inl 1, .inl vx19_, .inr (.inr (some (202, 0)))], sm_aI (sm_aI (sm_aI S_ 199 0 k_.toNat vx12_) 200 0 k_.toNat vx19_) 202 0 (vx12_ / 2).toNat 1)) rfl ?_
              refine sm_T_bin (w := (vx19_ / 2)) rfl (bi_shr (k := 1) (by decide) (by omega) (by omega)) ?_ -- pc_ 241
              refine sm_T_go 1 (c1 := (243, [some (.inr (.inr (some (13, 0)))), some (.inl n_), some (.inl k_), some (.inl vx12_), some (.inl vx19_)], [.inl 1, .inl (vx19_ / 2), .inr (.inr (some (202, 0)))], sm_aI (sm_aI (sm_aI S_ 199 0 k_.toNat vx12_) 200 0 k_.toNat vx19_) 202 0 (vx12_ / 2).toNat 1)) rfl ?_
              refine sm_T_zas1 (n := 2048) rfl rfl (by omega) (by omega) (by omega) ?_
              have hIx43_ : gi (sm_aI (sm_aI (sm_aI (sm_aI S_ 199 0 k_.toNat vx12_) 200 0 k_.toNat vx19_) 202 0 (vx12_ / 2).toNat 1) 202 0 (vx19_ / 2).toNat 1) := gi_aI hIx41_ (show 0 ≤ 1 ∧ 1 ≤ 1 from ⟨by omega, by omega⟩)
              have hFx44_ : ai_fr (sx_W vw_394n) S0_ (sm_aI (sm_aI (sm_aI (sm_aI S_ 199 0 k_.toNat vx12_) 200 0 k_.toNat vx19_) 202 0 (vx12_ / 2).toNat 1) 202 0 (vx19_ / 2).toNat 1) := ai_fr_tr hFx42_ (ai_fr_aI rfl)
              refine sm_T_go 4 (c1 := (250, [some (.inr (.inr (some (13, 0)))), some (.inl n_), some (.inl k_), some (.inl vx12_), some (.inl vx19_)], [.inl 1, .inl vx12_, .inr (.inr (some (201, 0)))], sm_aI (sm_aI (sm_aI (sm_aI S_ 199 0 k_.toNat vx12_) 200 0 k_.toNat vx19_) 202 0 (vx12_ / 2).toNat 1) 202 0 (vx19_ / 2).toNat 1)) rfl ?_
              refine sm_T_bin (w := (vx12_ / 2)) rfl (bi_shr (k := 1) (by decide) (by omega) (by omega)) ?_ -- pc_ 250
              refine sm_T_go 1 (c1 := (252, [some (.inr (.inr (some (13, 0)))), some (.inl n_), some (.inl k_), some (.inl vx12_), some (.inl vx19_)], [.inl (vx12_ / 2), .inr (.inr (some (201, 0))), .inl (vx12_ / 2), .inr (.inr (some (201, 0)))], sm_aI (sm_aI (sm_aI (sm_aI S_ 199 0 k_.toNat vx12_) 200 0 k_.toNat vx19_) 202 0 (vx12_ / 2).toNat 1) 202 0 (vx19_ / 2).toNat 1)) rfl ?_
              refine sm_T_iald (n := 2048) rfl rfl (by omega) (by omega) ?_
              have bx45_ : (-2147483648) ≤ S_.2.2.1 201 0 (vx12_ / 2).toNat ∧ S_.2.2.1 201 0 (vx12_ / 2).toNat ≤ 2147483647 := hI_.2 201 0 _
              refine sm_T_go 1 (c1 := (254, [some (.inr (.inr (some (13, 0)))), some (.inl n_), some (.inl k_), some (.inl vx12_), some (.inl vx19_)], [.inl 1, .inl (S_.2.2.1 201 0 (vx12_ / 2).toNat), .inl (vx12_ / 2), .inr (.inr (some (201, 0)))], sm_aI (sm_aI (sm_aI (sm_aI S_ 199 0 k_.toNat vx12_) 200 0 k_.toNat vx19_) 202 0 (vx12_ / 2).toNat 1) 202 0 (vx19_ / 2).toNat 1)) rfl ?_
              refine sm_T_bin (w := (S_.2.2.1 201 0 (vx12_ / 2).toNat) + 1) rfl (bi_add (by omega) (by omega) (by omega)) ?_ -- pc_ 254
              refine sm_T_iast (n := 2048) rfl rfl (by omega) (by omega) ?_
              have hIx46_ : gi (sm_aI (sm_aI (sm_aI (sm_aI (sm_aI S_ 199 0 k_.toNat vx12_) 200 0 k_.toNat vx19_) 202 0 (vx12_ / 2).toNat 1) 202 0 (vx19_ / 2).toNat 1) 201 0 (vx12_ / 2).toNat ((S_.2.2.1 201 0 (vx12_ / 2).toNat) + 1)) := gi_aI hIx43_ (show (-2147483648) ≤ (S_.2.2.1 201 0 (vx12_ / 2).toNat) + 1 ∧ (S_.2.2.1 201 0 (vx12_ / 2).toNat) + 1 ≤ 2147483647 from ⟨by omega, by omega⟩)
              have hFx47_ : ai_fr (sx_W vw_394n) S0_ (sm_aI (sm_aI (sm_aI (sm_aI (sm_aI S_ 199 0 k_.toNat vx12_) 200 0 k_.toNat vx19_) 202 0 (vx12_ / 2).toNat 1) 202 0 (vx19_ / 2).toNat 1) 201 0 (vx12_ / 2).toNat ((S_.2.2.1 201 0 (vx12_ / 2).toNat) + 1)) := ai_fr_tr hFx44_ (ai_fr_aI rfl)
              refine sm_T_go 4 (c1 := (263, [some (.inr (.inr (some (13, 0)))), some (.inl n_), some (.inl k_), some (.inl vx12_), some (.inl vx19_)], [.inl 1, .inl vx19_, .inr (.inr (some (201, 0)))], sm_aI (sm_aI (sm_aI (sm_aI (sm_aI S_ 199 0 k_.toNat vx12_) 200 0 k_.toNat vx19_) 202 0 (vx12_ / 2).toNat 1) 202 0 (vx19_ / 2).toNat 1) 201 0 (vx12_ / 2).toNat ((S_.2.2.1 201 0 (vx12_ / 2).toNat) + 1))) rfl ?_
              refine sm_T_bin (w := (vx19_ / 2)) rfl (bi_shr (k := 1) (by decide) (by omega) (by omega)) ?_ -- pc_ 263
              refine sm_T_go 1 (c1 := (265, [some (.inr (.inr (some (13, 0)))), some (.inl n_), some (.inl k_), some (.inl vx12_), some (.inl vx19_)], [.inl (vx19_ / 2), .inr (.inr (some (201, 0))), .inl (vx19_ / 2), .inr (.inr (some (201, 0)))], sm_aI (sm_aI (sm_aI (sm_aI (sm_aI S_ 199 0 k_.toNat vx12_) 200 0 k_.toNat vx19_) 202 0 (vx12_ / 2).toNat 1) 202 0 (vx19_ / 2).toNat 1) 201 0 (vx12_ / 2).toNat ((S_.2.2.1 201 0 (vx12_ / 2).toNat) + 1))) rfl ?_
              refine sm_T_iald (n := 2048) rfl rfl (by omega) (by omega) ?_
              have bx48_ : (-2147483648) ≤ (sm_aI (sm_aI (sm_aI (sm_aI (sm_aI S_ 199 0 k_.toNat vx12_) 200 0 k_.toNat vx19_) 202 0 (vx12_ / 2).toNat 1) 202 0 (vx19_ / 2).toNat 1) 201 0 (vx12_ / 2).toNat ((S_.2.2.1 201 0 (vx12_ / 2).toNat) + 1)).2.2.1 201 0 (vx19_ / 2).toNat ∧ (sm_aI (sm_aI (sm_aI (sm_aI (sm_aI S_ 199 0 k_.toNat vx12_) 200 0 k_.toNat vx19_) 202 0 (vx12_ / 2).toNat 1) 202 0 (vx19_ / 2).toNat 1) 201 0 (vx12_ / 2).toNat ((S_.2.2.1 201 0 (vx12_ / 2).toNat) + 1)).2.2.1 201 0 (vx19_ / 2).toNat ≤ 2147483647 := hIx46_.2 201 0 _
              refine sm_T_go 1 (c1 := (267, [some (.inr (.inr (some (13, 0)))), some (.inl n_), some (.inl k_), some (.inl vx12_), some (.inl vx19_)], [.inl 1, .inl ((sm_aI (sm_aI (sm_aI (sm_aI (sm_aI S_ 199 0 k_.toNat vx12_) 200 0 k_.toNat vx19_) 202 0 (vx12_ / 2).toNat 1) 202 0 (vx19_ / 2).toNat 1) 201 0 (vx12_ / 2).toNat ((S_.2.2.1 201 0 (vx12_ / 2).toNat) + 1)).2.2.1 201 0 (vx19_ / 2).toNat), .inl (vx19_ / 2), .inr (.inr (some (201, 0)))], sm_aI (sm_aI (sm_aI (sm_aI (sm_aI S_ 199 0 k_.toNat vx12_) 200 0 k_.toNat vx19_) 202 0 (vx12_ / 2).toNat 1) 202 0 (vx19_ / 2).toNat 1) 201 0 (vx12_ / 2).toNat ((S_.2.2.1 201 0 (vx12_ / 2).toNat) + 1))) rfl ?_
              refine sm_T_bin (w := ((sm_aI (sm_aI (sm_aI (sm_aI (sm_aI S_ 199 0 k_.toNat vx12_) 200 0 k_.toNat vx19_) 202 0 (vx12_ / 2).toNat 1) 202 0 (vx19_ / 2).toNat 1) 201 0 (vx12_ / 2).toNat ((S_.2.2.1 201 0 (vx12_ / 2).toNat) + 1)).2.2.1 201 0 (vx19_ / 2).toNat) + 1) rfl (bi_add (by omega) (by (first | omega | ((try simp only [rd_eq, rd_ne, rf_eq, rf_nk, rf_nt, rd_fa, rd_af, rd_fl, rd_al, rd_lf, rd_la, rd_leq, rd_lne, rd_fr, rd_ar, ne_eq, Nat.reduceEqDiff, not_false_eq_true]); split <;> omega))) (by (first | omega | ((try simp only [rd_eq, rd_ne, rf_eq, rf_nk, rf_nt, rd_fa, rd_af, rd_fl, rd_al, rd_lf, rd_la, rd_leq, rd_lne, rd_fr, rd_ar, ne_eq, Nat.reduceEqDiff, not_false_eq_true]); split <;> omega)))) ?_ -- pc_ 267
              refine sm_T_iast (n := 2048) rfl rfl (by (first | omega | ((try simp only [rd_eq, rd_ne, rf_eq, rf_nk, rf_nt, rd_fa, rd_af, rd_fl, rd_al, rd_lf, rd_la, rd_leq, rd_lne, rd_fr, rd_ar, ne_eq, Nat.reduceEqDiff, not_false_eq_true]); split <;> omega))) (by (first | omega | ((try simp only [rd_eq, rd_ne, rf_eq, rf_nk, rf_nt, rd_fa, rd_af, rd_fl, rd_al, rd_lf, rd_la, rd_leq, rd_lne, rd_fr, rd_ar, ne_eq, Nat.reduceEqDiff, not_false_eq_true]); split <;> omega))) ?_
              have hIx49_ : gi (sm_aI (sm_aI (sm_aI (sm_aI (sm_aI (sm_aI S_ 199 0 k_.toNat vx12_) 200 0 k_.toNat vx19_) 202 0 (vx12_ / 2).toNat 1) 202 0 (vx19_ / 2).toNat 1) 201 0 (vx12_ / 2).toNat ((S_.2.2.1 201 0 (vx12_ / 2).toNat) + 1)) 201 0 (vx19_ / 2).toNat (((sm_aI (sm_aI (sm_aI (sm_aI (sm_aI S_ 199 0 k_.toNat vx12_) 200 0 k_.toNat vx19_) 202 0 (vx12_ / 2).toNat 1) 202 0 (vx19_ / 2).toNat 1) 201 0 (vx12_ / 2).toNat ((S_.2.2.1 201 0 (vx12_ / 2).toNat) + 1)).2.2.1 201 0 (vx19_ / 2).toNat) + 1)) := gi_aI hIx46_ (show (-2147483648) ≤ ((sm_aI (sm_aI (sm_aI (sm_aI (sm_aI S_ 199 0 k_.toNat vx12_) 200 0 k_.toNat vx19_) 202 0 (vx12_ / 2).toNat 1) 202 0 (vx19_ / 2).toNat 1) 201 0 (vx12_ / 2).toNat ((S_.2.2.1 201 0 (vx12_ / 2).toNat) + 1)).2.2.1 201 0 (vx19_ / 2).toNat) + 1 ∧ ((sm_aI (sm_aI (sm_aI (sm_aI (sm_aI S_ 199 0 k_.toNat vx12_) 200 0 k_.toNat vx19_) 202 0 (vx12_ / 2).toNat 1) 202 0 (vx19_ / 2).toNat 1) 201 0 (vx12_ / 2).toNat ((S_.2.2.1 201 0 (vx12_ / 2).toNat) + 1)).2.2.1 201 0 (vx19_ / 2).toNat) + 1 ≤ 2147483647 from ⟨by (first | omega | ((try simp only [rd_eq, rd_ne, rf_eq, rf_nk, rf_nt, rd_fa, rd_af, rd_fl, rd_al, rd_lf, rd_la, rd_leq, rd_lne, rd_fr, rd_ar, ne_eq, Nat.reduceEqDiff, not_false_eq_true]); split <;> omega)), by (first | omega | ((try simp only [rd_eq, rd_ne, rf_eq, rf_nk, rf_nt, rd_fa, rd_af, rd_fl, rd_al, rd_lf, rd_la, rd_leq, rd_lne, rd_fr, rd_ar, ne_eq, Nat.reduceEqDiff, not_false_eq_true]); split <;> omega))⟩)
              have hFx50_ : ai_fr (sx_W vw_394n) S0_ (sm_aI (sm_aI (sm_aI (sm_aI (sm_aI (sm_aI S_ 199 0 k_.toNat vx12_) 200 0 k_.toNat vx19_) 202 0 (vx12_ / 2).toNat 1) 202 0 (vx19_ / 2).toNat 1) 201 0 (vx12_ / 2).toNat ((S_.2.2.1 201 0 (vx12_ / 2).toNat) + 1)) 201 0 (vx19_ / 2).toNat (((sm_aI (sm_aI (sm_aI (sm_aI (sm_aI S_ 199 0 k_.toNat vx12_) 200 0 k_.toNat vx19_) 202 0 (vx12_ / 2).toNat 1) 202 0 (vx19_ / 2).toNat 1) 201 0 (vx12_ / 2).toNat ((S_.2.2.1 201 0 (vx12_ / 2).toNat) + 1)).2.2.1 201 0 (vx19_ / 2).toNat) + 1)) := ai_fr_tr hFx47_ (ai_fr_aI rfl)
              refine sm_T_inc (a := 2) (z := (-1)) (v := k_) (w := k_ - 1) rfl rfl (by omega) (by omega) (by omega) ?_ -- pc_ 269
              refine sm_T_go 1 (c1 := (126, [some (.inr (.inr (some (13, 0)))), some (.inl n_), some (.inl (k_ - 1)), some (.inl vx12_), some (.inl vx19_)], [], sm_aI (sm_aI (sm_aI (sm_aI (sm_aI (sm_aI S_ 199 0 k_.toNat vx12_) 200 0 k_.toNat vx19_) 202 0 (vx12_ / 2).toNat 1) 202 0 (vx19_ / 2).toNat 1) 201 0 (vx12_ / 2).toNat ((S_.2.2.1 201 0 (vx12_ / 2).toNat) + 1)) 201 0 (vx19_ / 2).toNat (((sm_aI (sm_aI (sm_aI (sm_aI (sm_aI S_ 199 0 k_.toNat vx12_) 200 0 k_.toNat vx19_) 202 0 (vx12_ / 2).toNat 1) 202 0 (vx19_ / 2).toNat 1) 201 0 (vx12_ / 2).toNat ((S_.2.2.1 201 0 (vx12_ / 2).toNat) + 1)).2.2.1 201 0 (vx19_ / 2).toNat) + 1))) rfl ?_
              refine sm_T_wk [some (.inr (.inr (some (13, 0)))), some (.inl n_), some (.inl (k_ - 1)), none, none] (by exact ⟨rfl, rfl, rfl, trivial⟩) ?_
              refine ih_.2.2.2.1 n_ (k_ - 1) (sm_aI (sm_aI (sm_aI (sm_aI (sm_aI (sm_aI S_ 199 0 k_.toNat vx12_) 200 0 k_.toNat vx19_) 202 0 (vx12_ / 2).toNat 1) 202 0 (vx19_ / 2).toNat 1) 201 0 (vx12_ / 2).toNat ((S_.2.2.1 201 0 (vx12_ / 2).toNat) + 1)) 201 0 (vx19_ / 2).toNat (((sm_aI (sm_aI (sm_aI (sm_aI (sm_aI S_ 199 0 k_.toNat vx12_) 200 0 k_.toNat vx19_) 202 0 (vx12_ / 2).toNat 1) 202 0 (vx19_ / 2).toNat 1) 201 0 (vx12_ / 2).toNat ((S_.2.2.1 201 0 (vx12_ / 2).toNat) + 1)).2.2.1 201 0 (vx19_ / 2).toNat) + 1)) hIx49_ hFx50_ ⟨?_, ?_, ?_, ?_, ?_, ?_, ?_, ?_, trivial⟩ ?_
              · intro q9_ hq9_
                have w9_ := hu_ q9_ hq9_
                have fn9_ : (ndf F_.toNat N_.toNat ((S0_.2.2.1 156 0 d_.toNat).toNat + (S0_.2.2.1 155 0 d_.toNat).toNat) (fun m_ => S0_.2.2.1 166 0 (2048 * d_.toNat + m_)) (fun m_ => S0_.2.2.1 164 0 (2048 * d_.toNat + m_)) (fun m_ => S0_.2.2.1 165 0 (2048 * d_.toNat + m_)) (rto (S0_.2.2.1 156 0 d_.toNat).toNat (fun k_ => S0_.2.2.1 167 0 (16 * d_.toNat + k_)) (fun k_ => S0_.2.2.1 168 0 (6 * d_.toNat + k_)))) k_.toNat = (ndk N_.toNat (fun m_ => S0_.2.2.1 166 0 (2048 * d_.toNat + m_)) (fun m_ => S0_.2.2.1 164 0 (2048 * d_.toNat + m_)) (fun m_ => S0_.2.2.1 165 0 (2048 * d_.toNat + m_)) (nd0 (fun m_ => S0_.2.2.1 166 0 (2048 * d_.toNat + m_)) (rto (S0_.2.2.1 156 0 d_.toNat).toNat (fun k_ => S0_.2.2.1 167 0 (16 * d_.toNat + k_)) (fun k_ => S0_.2.2.1 168 0 (6 * d_.toNat + k_))) ((S0_.2.2.1 156 0 d_.toNat).toNat + (S0_.2.2.1 155 0 d_.toNat).toNat)) (N_ - 1 - k_).toNat).1 k_.toNat := ndk_fn (glo_k hd_) (sfb_k hd_) ((k_ + 1 - F_).toNat) _ _ (by omega) (by omega)
                have wk9_ := hw_ k_.toNat (by omega)
                have e9_ : ∀ x9_ : Int, x9_ = k_ - 1 → (x9_ + 1).toNat = k_.toNat ∧ (N_ - 1 - x9_).toNat = (N_ - 1 - k_).toNat + 1 := fun x9_ y9_ => by omega
                have pc9_ := psm_c (g_ := (pgn (fun m_ => S0_.2.2.1 166 0 (2048 * d_.toNat + m_)) (fun m_ => S0_.2.2.1 164 0 (2048 * d_.toNat + m_)) (fun m_ => S0_.2.2.1 165 0 (2048 * d_.toNat + m_)) (ndf F_.toNat N_.toNat ((S0_.2.2.1 156 0 d_.toNat).toNat + (S0_.2.2.1 155 0 d_.toNat).toNat) (fun m_ => S0_.2.2.1 166 0 (2048 * d_.toNat + m_)) (fun m_ => S0_.2.2.1 164 0 (2048 * d_.toNat + m_)) (fun m_ => S0_.2.2.1 165 0 (2048 * d_.toNat + m_)) (rto (S0_.2.2.1 156 0 d_.toNat).toNat (fun k_ => S0_.2.2.1 167 0 (16 * d_.toNat + k_)) (fun k_ => S0_.2.2.1 168 0 (6 * d_.toNat + k_)))) q9_)) (a_ := k_.toNat) (N_ - 1 - k_).toNat
                rw [(e9_ _ (by omega)).1, (e9_ _ (by omega)).2, pc9_, show k_.toNat + 1 = (k_ + 1).toNat by omega]
                have ia9_ : (nod d_ S_ (S_.2.2.1 164 0 (2048 * d_ + k_).toNat)).toNat = nsw (fun m_ => S0_.2.2.1 166 0 (2048 * d_.toNat + m_)) (S0_.2.2.1 164 0 (2048 * d_.toNat + k_.toNat)) := by (rw [n9_, nod_n (by omega) (by omega), f164_]; exact congrArg (fun x_ => nsw (fun m_ => S0_.2.2.1 166 0 (2048 * d_.toNat + m_)) (S0_.2.2.1 164 0 x_)) (by omega))
                have ib9_ : (nod d_ S_ (S_.2.2.1 165 0 (2048 * d_ + k_).toNat)).toNat = nsw (fun m_ => S0_.2.2.1 166 0 (2048 * d_.toNat + m_)) (S0_.2.2.1 165 0 (2048 * d_.toNat + k_.toNat)) := by (rw [n9_, nod_n (by omega) (by omega), f165_]; exact congrArg (fun x_ => nsw (fun m_ => S0_.2.2.1 166 0 (2048 * d_.toNat + m_)) (S0_.2.2.1 165 0 x_)) (by omega))
                have g9_ : pgn (fun m_ => S0_.2.2.1 166 0 (2048 * d_.toNat + m_)) (fun m_ => S0_.2.2.1 164 0 (2048 * d_.toNat + m_)) (fun m_ => S0_.2.2.1 165 0 (2048 * d_.toNat + m_)) (ndf F_.toNat N_.toNat ((S0_.2.2.1 156 0 d_.toNat).toNat + (S0_.2.2.1 155 0 d_.toNat).toNat) (fun m_ => S0_.2.2.1 166 0 (2048 * d_.toNat + m_)) (fun m_ => S0_.2.2.1 164 0 (2048 * d_.toNat + m_)) (fun m_ => S0_.2.2.1 165 0 (2048 * d_.toNat + m_)) (rto (S0_.2.2.1 156 0 d_.toNat).toNat (fun k_ => S0_.2.2.1 167 0 (16 * d_.toNat + k_)) (fun k_ => S0_.2.2.1 168 0 (6 * d_.toNat + k_)))) q9_ k_.toNat = (if q9_ = nsw (fun m_ => S0_.2.2.1 166 0 (2048 * d_.toNat + m_)) (S0_.2.2.1 164 0 (2048 * d_.toNat + k_.toNat)) then 1 else 0) + (if q9_ = nsw (fun m_ => S0_.2.2.1 166 0 (2048 * d_.toNat + m_)) (S0_.2.2.1 165 0 (2048 * d_.toNat + k_.toNat)) then 1 else 0) := by (unfold pgn; rw [if_pos (by (rw [fn9_]; exact wk9_.mp (by omega)))])
                rw [g9_]
                (try simp only [rd_eq, rd_ne, rf_eq, rf_nk, rf_nt, rd_fa, rd_af, rd_fl, rd_al, rd_lf, rd_la, rd_leq, rd_lne, rd_fr, rd_ar, ne_eq, Nat.reduceEqDiff, not_false_eq_true])
                rw [a164_, a184_, ia9_, ib9_]
                refine (inc2 w9_).trans ?_
                exact congrArg (fun x_ : Nat => (x_ : Int)) (by omega)
              · have fn9_ : (ndf F_.toNat N_.toNat ((S0_.2.2.1 156 0 d_.toNat).toNat + (S0_.2.2.1 155 0 d_.toNat).toNat) (fun m_ => S0_.2.2.1 166 0 (2048 * d_.toNat + m_)) (fun m_ => S0_.2.2.1 164 0 (2048 * d_.toNat + m_)) (fun m_ => S0_.2.2.1 165 0 (2048 * d_.toNat + m_)) (rto (S0_.2.2.1 156 0 d_.toNat).toNat (fun k_ => S0_.2.2.1 167 0 (16 * d_.toNat + k_)) (fun k_ => S0_.2.2.1 168 0 (6 * d_.toNat + k_)))) k_.toNat = (ndk N_.toNat (fun m_ => S0_.2.2.1 166 0 (2048 * d_.toNat + m_)) (fun m_ => S0_.2.2.1 164 0 (2048 * d_.toNat + m_)) (fun m_ => S0_.2.2.1 165 0 (2048 * d_.toNat + m_)) (nd0 (fun m_ => S0_.2.2.1 166 0 (2048 * d_.toNat + m_)) (rto (S0_.2.2.1 156 0 d_.toNat).toNat (fun k_ => S0_.2.2.1 167 0 (16 * d_.toNat + k_)) (fun k_ => S0_.2.2.1 168 0 (6 * d_.toNat + k_))) ((S0_.2.2.1 156 0 d_.toNat).toNat + (S0_.2.2.1 155 0 d_.toNat).toNat)) (N_ - 1 - k_).toNat).1 k_.toNat := ndk_fn (glo_k hd_) (sfb_k hd_) ((k_ + 1 - F_).toNat) _ _ (by omega) (by omega)
                have wk9_ := hw_ k_.toNat (by omega)
                have e9_ : ∀ x9_ : Int, x9_ = k_ - 1 → (x9_ + 1).toNat = k_.toNat ∧ (N_ - 1 - x9_).toNat = (N_ - 1 - k_).toNat + 1 := fun x9_ y9_ => by omega
                have ia9_ : (nod d_ S_ (S_.2.2.1 164 0 (2048 * d_ + k_).toNat)).toNat = nsw (fun m_ => S0_.2.2.1 166 0 (2048 * d_.toNat + m_)) (S0_.2.2.1 164 0 (2048 * d_.toNat + k_.toNat)) := by (rw [n9_, nod_n (by omega) (by omega), f164_]; exact congrArg (fun x_ => nsw (fun m_ => S0_.2.2.1 166 0 (2048 * d_.toNat + m_)) (S0_.2.2.1 164 0 x_)) (by omega))
                have ib9_ : (nod d_ S_ (S_.2.2.1 165 0 (2048 * d_ + k_).toNat)).toNat = nsw (fun m_ => S0_.2.2.1 166 0 (2048 * d_.toNat + m_)) (S0_.2.2.1 165 0 (2048 * d_.toNat + k_.toNat)) := by (rw [n9_, nod_n (by omega) (by omega), f165_]; exact congrArg (fun x_ => nsw (fun m_ => S0_.2.2.1 166 0 (2048 * d_.toNat + m_)) (S0_.2.2.1 165 0 x_)) (by omega))
                rw [(e9_ _ (by omega)).2]
                refine ndw_y (n_ := k_.toNat) hw_ (by omega) (by omega) (by omega) (fun q9_ => ?_)
                (try simp only [rd_eq, rd_ne, rf_eq, rf_nk, rf_nt, rd_fa, rd_af, rd_fl, rd_al, rd_lf, rd_la, rd_leq, rd_lne, rd_fr, rd_ar, ne_eq, Nat.reduceEqDiff, not_false_eq_true])
                rw [a164_, a184_, ia9_, ib9_]
              · intro q9_ hq9_
                have w9_ := hv_ q9_ hq9_
                (try simp only [rd_eq, rd_ne, rf_eq, rf_nk, rf_nt, rd_fa, rd_af, rd_fl, rd_al, rd_lf, rd_la, rd_leq, rd_lne, rd_fr, rd_ar, ne_eq, Nat.reduceEqDiff, not_false_eq_true])
                exact w9_
              · intro j9_ u0_ u1_ u2_ u3_
                by_cases z9_ : j9_ = k_
                · subst z9_
                  unfold sdv
                  rw [← sa9_, ← sb9_]
                  (try simp only [rd_eq, rd_ne, rf_eq, rf_nk, rf_nt, rd_fa, rd_af, rd_fl, rd_al, rd_lf, rd_la, rd_leq, rd_lne, rd_fr, rd_ar, ne_eq, Nat.reduceEqDiff, not_false_eq_true])
                  (try simp only [if_true])
                  refine ⟨?_, ?_⟩ <;> (split <;> omega)
                · have u4_ : S_.2.2.1 202 0 j9_.toNat = 1 := by
                    (try simp only [rd_eq, rd_ne, rf_eq, rf_nk, rf_nt, rd_fa, rd_af, rd_fl, rd_al, rd_lf, rd_la, rd_leq, rd_lne, rd_fr, rd_ar, ne_eq, Nat.reduceEqDiff, not_false_eq_true] at *)
                    rw [a164_, a184_] at u3_
                    rw [if_neg (by omega), if_neg (by omega)] at u3_
                    exact u3_
                  have w9_ := hsd_ j9_ (by omega) u1_ u2_ u4_
                  (try simp only [rd_eq, rd_ne, rf_eq, rf_nk, rf_nt, rd_fa, rd_af, rd_fl, rd_al, rd_lf, rd_la, rd_leq, rd_lne, rd_fr, rd_ar, ne_eq, Nat.reduceEqDiff, not_false_eq_true])
                  rw [if_neg (by omega), if_neg (by omega)]
                  exact w9_
              · omega
              · have s2_ : ∀ j9_, S_.2.2.1 202 0 j9_ = 1 → ((sm_aI (sm_aI (sm_aI (sm_aI (sm_aI (sm_aI S_ 199 0 k_.toNat vx12_) 200 0 k_.toNat vx19_) 202 0 (vx12_ / 2).toNat 1) 202 0 (vx19_ / 2).toNat 1) 201 0 (vx12_ / 2).toNat ((S_.2.2.1 201 0 (vx12_ / 2).toNat) + 1)) 201 0 (vx19_ / 2).toNat (((sm_aI (sm_aI (sm_aI (sm_aI (sm_aI S_ 199 0 k_.toNat vx12_) 200 0 k_.toNat vx19_) 202 0 (vx12_ / 2).toNat 1) 202 0 (vx19_ / 2).toNat 1) 201 0 (vx12_ / 2).toNat ((S_.2.2.1 201 0 (vx12_ / 2).toNat) + 1)).2.2.1 201 0 (vx19_ / 2).toNat) + 1))).2.2.1 202 0 j9_ = 1 := fun j9_ u9_ => by ((try simp only [rd_eq, rd_ne, rf_eq, rf_nk, rf_nt, rd_fa, rd_af, rd_fl, rd_al, rd_lf, rd_la, rd_leq, rd_lne, rd_fr, rd_ar, ne_eq, Nat.reduceEqDiff, not_false_eq_true]); split; rfl; (split; rfl; exact u9_))
                have s3_ : ((sm_aI (sm_aI (sm_aI (sm_aI (sm_aI (sm_aI S_ 199 0 k_.toNat vx12_) 200 0 k_.toNat vx19_) 202 0 (vx12_ / 2).toNat 1) 202 0 (vx19_ / 2).toNat 1) 201 0 (vx12_ / 2).toNat ((S_.2.2.1 201 0 (vx12_ / 2).toNat) + 1)) 201 0 (vx19_ / 2).toNat (((sm_aI (sm_aI (sm_aI (sm_aI (sm_aI S_ 199 0 k_.toNat vx12_) 200 0 k_.toNat vx19_) 202 0 (vx12_ / 2).toNat 1) 202 0 (vx19_ / 2).toNat 1) 201 0 (vx12_ / 2).toNat ((S_.2.2.1 201 0 (vx12_ / 2).toNat) + 1)).2.2.1 201 0 (vx19_ / 2).toNat) + 1))).2.2.1 203 0 = S_.2.2.1 203 0 := by (funext j9_; (try simp only [rd_eq, rd_ne, rf_eq, rf_nk, rf_nt, rd_fa, rd_af, rd_fl, rd_al, rd_lf, rd_la, rd_leq, rd_lne, rd_fr, rd_ar, ne_eq, Nat.reduceEqDiff, not_false_eq_true]))
                have s6_ : ((sm_aI (sm_aI (sm_aI (sm_aI (sm_aI (sm_aI S_ 199 0 k_.toNat vx12_) 200 0 k_.toNat vx19_) 202 0 (vx12_ / 2).toNat 1) 202 0 (vx19_ / 2).toNat 1) 201 0 (vx12_ / 2).toNat ((S_.2.2.1 201 0 (vx12_ / 2).toNat) + 1)) 201 0 (vx19_ / 2).toNat (((sm_aI (sm_aI (sm_aI (sm_aI (sm_aI S_ 199 0 k_.toNat vx12_) 200 0 k_.toNat vx19_) 202 0 (vx12_ / 2).toNat 1) 202 0 (vx19_ / 2).toNat 1) 201 0 (vx12_ / 2).toNat ((S_.2.2.1 201 0 (vx12_ / 2).toNat) + 1)).2.2.1 201 0 (vx19_ / 2).toNat) + 1))).2.2.1 166 0 = S_.2.2.1 166 0 := by (funext j9_; (try simp only [rd_eq, rd_ne, rf_eq, rf_nk, rf_nt, rd_fa, rd_af, rd_fl, rd_al, rd_lf, rd_la, rd_leq, rd_lne, rd_fr, rd_ar, ne_eq, Nat.reduceEqDiff, not_false_eq_true]))
                intro k9_ u0_ u1_ u2_
                rw [s6_]
                (try simp only [rd_eq, rd_ne, rf_eq, rf_nk, rf_nt, rd_fa, rd_af, rd_fl, rd_al, rd_lf, rd_la, rd_leq, rd_lne, rd_fr, rd_ar, ne_eq, Nat.reduceEqDiff, not_false_eq_true] at *)
                rw [a164_, a184_] at u2_
                by_cases z9_ : k9_.toNat = (nod d_ S_ (S_.2.2.1 165 0 (2048 * d_ + k_).toNat)).toNat
                · rw [show k9_ = nod d_ S_ (S_.2.2.1 165 0 (2048 * d_ + k_).toNat) by omega]; exact q2_.2.2.1
                · rw [if_neg z9_] at u2_
                  by_cases y9_ : k9_.toNat = (nod d_ S_ (S_.2.2.1 164 0 (2048 * d_ + k_).toNat)).toNat
                  · rw [show k9_ = nod d_ S_ (S_.2.2.1 164 0 (2048 * d_ + k_).toNat) by omega]; exact q1_.2.2.1
                  · rw [if_neg y9_] at u2_; exact hg_ k9_ u0_ u1_ u2_
              · have s2_ : ∀ j9_, S_.2.2.1 202 0 j9_ = 1 → ((sm_aI (sm_aI (sm_aI (sm_aI (sm_aI (sm_aI S_ 199 0 k_.toNat vx12_) 200 0 k_.toNat vx19_) 202 0 (vx12_ / 2).toNat 1) 202 0 (vx19_ / 2).toNat 1) 201 0 (vx12_ / 2).toNat ((S_.2.2.1 201 0 (vx12_ / 2).toNat) + 1)) 201 0 (vx19_ / 2).toNat (((sm_aI (sm_aI (sm_aI (sm_aI (sm_aI S_ 199 0 k_.toNat vx12_) 200 0 k_.toNat vx19_) 202 0 (vx12_ / 2).toNat 1) 202 0 (vx19_ / 2).toNat 1) 201 0 (vx12_ / 2).toNat ((S_.2.2.1 201 0 (vx12_ / 2).toNat) + 1)).2.2.1 201 0 (vx19_ / 2).toNat) + 1))).2.2.1 202 0 j9_ = 1 := fun j9_ u9_ => by ((try simp only [rd_eq, rd_ne, rf_eq, rf_nk, rf_nt, rd_fa, rd_af, rd_fl, rd_al, rd_lf, rd_la, rd_leq, rd_lne, rd_fr, rd_ar, ne_eq, Nat.reduceEqDiff, not_false_eq_true]); split; rfl; (split; rfl; exact u9_))
                have s3_ : ((sm_aI (sm_aI (sm_aI (sm_aI (sm_aI (sm_aI S_ 199 0 k_.toNat vx12_) 200 0 k_.toNat vx19_) 202 0 (vx12_ / 2).toNat 1) 202 0 (vx19_ / 2).toNat 1) 201 0 (vx12_ / 2).toNat ((S_.2.2.1 201 0 (vx12_ / 2).toNat) + 1)) 201 0 (vx19_ / 2).toNat (((sm_aI (sm_aI (sm_aI (sm_aI (sm_aI S_ 199 0 k_.toNat vx12_) 200 0 k_.toNat vx19_) 202 0 (vx12_ / 2).toNat 1) 202 0 (vx19_ / 2).toNat 1) 201 0 (vx12_ / 2).toNat ((S_.2.2.1 201 0 (vx12_ / 2).toNat) + 1)).2.2.1 201 0 (vx19_ / 2).toNat) + 1))).2.2.1 203 0 = S_.2.2.1 203 0 := by (funext j9_; (try simp only [rd_eq, rd_ne, rf_eq, rf_nk, rf_nt, rd_fa, rd_af, rd_fl, rd_al, rd_lf, rd_la, rd_leq, rd_lne, rd_fr, rd_ar, ne_eq, Nat.reduceEqDiff, not_false_eq_true]))
                have s6_ : ((sm_aI (sm_aI (sm_aI (sm_aI (sm_aI (sm_aI S_ 199 0 k_.toNat vx12_) 200 0 k_.toNat vx19_) 202 0 (vx12_ / 2).toNat 1) 202 0 (vx19_ / 2).toNat 1) 201 0 (vx12_ / 2).toNat ((S_.2.2.1 201 0 (vx12_ / 2).toNat) + 1)) 201 0 (vx19_ / 2).toNat (((sm_aI (sm_aI (sm_aI (sm_aI (sm_aI S_ 199 0 k_.toNat vx12_) 200 0 k_.toNat vx19_) 202 0 (vx12_ / 2).toNat 1) 202 0 (vx19_ / 2).toNat 1) 201 0 (vx12_ / 2).toNat ((S_.2.2.1 201 0 (vx12_ / 2).toNat) + 1)).2.2.1 201 0 (vx19_ / 2).toNat) + 1))).2.2.1 166 0 = S_.2.2.1 166 0 := by (funext j9_; (try simp only [rd_eq, rd_ne, rf_eq, rf_nk, rf_nt, rd_fa, rd_af, rd_fl, rd_al, rd_lf, rd_la, rd_leq, rd_lne, rd_fr, rd_ar, ne_eq, Nat.reduceEqDiff, not_false_eq_true]))
                exact rtd_mo hr_ s6_ (by (funext j9_; (try simp only [rd_eq, rd_ne, rf_eq, rf_nk, rf_nt, rd_fa, rd_af, rd_fl, rd_al, rd_lf, rd_la, rd_leq, rd_lne, rd_fr, rd_ar, ne_eq, Nat.reduceEqDiff, not_false_eq_true]))) (by (funext j9_; (try simp only [rd_eq, rd_ne, rf_eq, rf_nk, rf_nt, rd_fa, rd_af, rd_fl, rd_al, rd_lf, rd_la, rd_leq, rd_lne, rd_fr, rd_ar, ne_eq, Nat.reduceEqDiff, not_false_eq_true]))) s2_ (fun j9_ u9_ => by (rw [s3_]; exact u9_))
              · have s2_ : ∀ j9_, S_.2.2.1 202 0 j9_ = 1 → ((sm_aI (sm_aI (sm_aI (sm_aI (sm_aI (sm_aI S_ 199 0 k_.toNat vx12_) 200 0 k_.toNat vx19_) 202 0 (vx12_ / 2).toNat 1) 202 0 (vx19_ / 2).toNat 1) 201 0 (vx12_ / 2).toNat ((S_.2.2.1 201 0 (vx12_ / 2).toNat) + 1)) 201 0 (vx19_ / 2).toNat (((sm_aI (sm_aI (sm_aI (sm_aI (sm_aI S_ 199 0 k_.toNat vx12_) 200 0 k_.toNat vx19_) 202 0 (vx12_ / 2).toNat 1) 202 0 (vx19_ / 2).toNat 1) 201 0 (vx12_ / 2).toNat ((S_.2.2.1 201 0 (vx12_ / 2).toNat) + 1)).2.2.1 201 0 (vx19_ / 2).toNat) + 1))).2.2.1 202 0 j9_ = 1 := fun j9_ u9_ => by ((try simp only [rd_eq, rd_ne, rf_eq, rf_nk, rf_nt, rd_fa, rd_af, rd_fl, rd_al, rd_lf, rd_la, rd_leq, rd_lne, rd_fr, rd_ar, ne_eq, Nat.reduceEqDiff, not_false_eq_true]); split; rfl; (split; rfl; exact u9_))
                have s3_ : ((sm_aI (sm_aI (sm_aI (sm_aI (sm_aI (sm_aI S_ 199 0 k_.toNat vx12_) 200 0 k_.toNat vx19_) 202 0 (vx12_ / 2).toNat 1) 202 0 (vx19_ / 2).toNat 1) 201 0 (vx12_ / 2).toNat ((S_.2.2.1 201 0 (vx12_ / 2).toNat) + 1)) 201 0 (vx19_ / 2).toNat (((sm_aI (sm_aI (sm_aI (sm_aI (sm_aI S_ 199 0 k_.toNat vx12_) 200 0 k_.toNat vx19_) 202 0 (vx12_ / 2).toNat 1) 202 0 (vx19_ / 2).toNat 1) 201 0 (vx12_ / 2).toNat ((S_.2.2.1 201 0 (vx12_ / 2).toNat) + 1)).2.2.1 201 0 (vx19_ / 2).toNat) + 1))).2.2.1 203 0 = S_.2.2.1 203 0 := by (funext j9_; (try simp only [rd_eq, rd_ne, rf_eq, rf_nk, rf_nt, rd_fa, rd_af, rd_fl, rd_al, rd_lf, rd_la, rd_leq, rd_lne, rd_fr, rd_ar, ne_eq, Nat.reduceEqDiff, not_false_eq_true]))
                have s6_ : ((sm_aI (sm_aI (sm_aI (sm_aI (sm_aI (sm_aI S_ 199 0 k_.toNat vx12_) 200 0 k_.toNat vx19_) 202 0 (vx12_ / 2).toNat 1) 202 0 (vx19_ / 2).toNat 1) 201 0 (vx12_ / 2).toNat ((S_.2.2.1 201 0 (vx12_ / 2).toNat) + 1)) 201 0 (vx19_ / 2).toNat (((sm_aI (sm_aI (sm_aI (sm_aI (sm_aI S_ 199 0 k_.toNat vx12_) 200 0 k_.toNat vx19_) 202 0 (vx12_ / 2).toNat 1) 202 0 (vx19_ / 2).toNat 1) 201 0 (vx12_ / 2).toNat ((S_.2.2.1 201 0 (vx12_ / 2).toNat) + 1)).2.2.1 201 0 (vx19_ / 2).toNat) + 1))).2.2.1 166 0 = S_.2.2.1 166 0 := by (funext j9_; (try simp only [rd_eq, rd_ne, rf_eq, rf_nk, rf_nt, rd_fa, rd_af, rd_fl, rd_al, rd_lf, rd_la, rd_leq, rd_lne, rd_fr, rd_ar, ne_eq, Nat.reduceEqDiff, not_false_eq_true]))
                intro j9_ u0_ u1_ u2_ u3_
                by_cases z9_ : j9_ = k_
                · subst z9_
                  unfold lgp
                  (try simp only [rd_eq, rd_ne, rf_eq, rf_nk, rf_nt, rd_fa, rd_af, rd_fl, rd_al, rd_lf, rd_la, rd_leq, rd_lne, rd_fr, rd_ar, ne_eq, Nat.reduceEqDiff, not_false_eq_true])
                  rw [a164_, a184_]
                  first | (rw [if_pos rfl, if_pos rfl]) | skip
                  simp only [if_true]
                  refine ⟨⟨by omega, by omega, ?_⟩, by omega, by omega, ?_⟩ <;> (first | (rw [a164_]) | (rw [a184_]) | skip) <;> (split; rfl; (split; rfl; (exfalso; omega)))
                · have u4_ : S_.2.2.1 202 0 j9_.toNat = 1 := by
                    (try simp only [rd_eq, rd_ne, rf_eq, rf_nk, rf_nt, rd_fa, rd_af, rd_fl, rd_al, rd_lf, rd_la, rd_leq, rd_lne, rd_fr, rd_ar, ne_eq, Nat.reduceEqDiff, not_false_eq_true] at *)
                    rw [a164_, a184_] at u3_
                    rw [if_neg (by omega), if_neg (by omega)] at u3_
                    exact u3_
                  exact lgp_mo (hl_ j9_ (by omega) u1_ u2_ u4_) (by ((try simp only [rd_eq, rd_ne, rf_eq, rf_nk, rf_nt, rd_fa, rd_af, rd_fl, rd_al, rd_lf, rd_la, rd_leq, rd_lne, rd_fr, rd_ar, ne_eq, Nat.reduceEqDiff, not_false_eq_true]); rw [if_neg (by omega)])) (by ((try simp only [rd_eq, rd_ne, rf_eq, rf_nk, rf_nt, rd_fa, rd_af, rd_fl, rd_al, rd_lf, rd_la, rd_leq, rd_lne, rd_fr, rd_ar, ne_eq, Nat.reduceEqDiff, not_false_eq_true]); rw [if_neg (by omega)])) s2_
              · omega
    · rintro n_ k_ S_ hI_ hF_ ⟨hu_, hw_, hv_, hsd_, h0_, hr_, hl_, -⟩ hm_
      have d9_ := dmp_fr hd_ hF_
      have d1_ := d9_.1
      have n9_ : nod d_ S_ = nod d_ S0_ := nod_fr hF_
      have f154_ : S_.2.2.1 154 0 = S0_.2.2.1 154 0 := fr_arr hF_ rfl
      have f155_ : S_.2.2.1 155 0 = S0_.2.2.1 155 0 := fr_arr hF_ rfl
      have f156_ : S_.2.2.1 156 0 = S0_.2.2.1 156 0 := fr_arr hF_ rfl
      have f159_ : S_.2.2.1 159 0 = S0_.2.2.1 159 0 := fr_arr hF_ rfl
      have f160_ : S_.2.2.1 160 0 = S0_.2.2.1 160 0 := fr_arr hF_ rfl
      have f164_ : S_.2.2.1 164 0 = S0_.2.2.1 164 0 := fr_arr hF_ rfl
      have f165_ : S_.2.2.1 165 0 = S0_.2.2.1 165 0 := fr_arr hF_ rfl
      have f166_ : S_.2.2.1 166 0 = S0_.2.2.1 166 0 := fr_arr hF_ rfl
      have f167_ : S_.2.2.1 167 0 = S0_.2.2.1 167 0 := fr_arr hF_ rfl
      have f168_ : S_.2.2.1 168 0 = S0_.2.2.1 168 0 := fr_arr hF_ rfl
      have c55_ : 0 ≤ S_.2.2.1 155 0 d_.toNat ∧ S_.2.2.1 155 0 d_.toNat ≤ 6 := hI_.2 155 0 _
      have c56_ : 0 ≤ S_.2.2.1 156 0 d_.toNat ∧ S_.2.2.1 156 0 d_.toNat ≤ 16 := hI_.2 156 0 _
      have e155_ : S_.2.2.1 155 0 (S_.1 13 0 105).toNat = S_.2.2.1 155 0 d_.toNat := by rw [d1_.2.2.1]
      have e156_ : S_.2.2.1 156 0 (S_.1 13 0 105).toNat = S_.2.2.1 156 0 d_.toNat := by rw [d1_.2.2.1]
      have e160_ : S_.2.2.1 160 0 (S_.1 13 0 105).toNat = F_ := by (rw [d1_.2.2.1]; exact d1_.2.2.2.1)
      refine sm_T_go 2 (c1 := (287, [some (.inr (.inr (some (13, 0)))), some (.inl n_), some (.inl k_), none, none], [.inl n_, .inl k_], S_)) rfl ?_
      refine sm_T_br (a := 3) (z := 48) rfl (fun cx1_ => ?_) (fun cx1_ => ?_)
      · have cx1_ : n_ ≤ k_ := of_decide_eq_true cx1_
        refine sm_T_rv rfl ⟨_, _, rfl, rfl, hI_, hF_, ?_⟩
        exact ⟨⟨hl_, hr_⟩, fun q9_ hq9_ => by (have w9_ := hv_ q9_ hq9_; rw [if_pos (by omega)] at w9_; exact w9_), hw_, hsd_⟩
      · have cx1_ : ¬ (n_ ≤ k_) := of_decide_eq_false cx1_
        refine sm_T_go 6 (c1 := (300, [some (.inr (.inr (some (13, 0)))), some (.inl n_), some (.inl k_), none, none], [.inl k_, .inr (.inr (some (203, 0))), .inl k_, .inr (.inr (some (203, 0)))], S_)) rfl ?_
        refine sm_T_zald (n := 2048) rfl rfl (by omega) (by omega) ?_
        have bx2_ : 0 ≤ S_.2.2.1 203 0 k_.toNat ∧ S_.2.2.1 203 0 k_.toNat ≤ 1 := hI_.2 203 0 _
        refine sm_T_b0 (a := 1) (z := 22) rfl (fun cx3_ => ?_) (fun cx3_ => ?_)
        · have cx3_ : (S_.2.2.1 203 0 k_.toNat) ≠ 0 := of_decide_eq_true cx3_
          refine sm_T_go 2 (c1 := (328, [some (.inr (.inr (some (13, 0)))), some (.inl n_), some (.inl k_), none, none], [.inl 1, .inl k_, .inr (.inr (some (203, 0)))], S_)) rfl ?_
          refine sm_T_zas1 (n := 2048) rfl rfl (by omega) (by omega) (by omega) ?_
          have hIx4_ : gi (sm_aI S_ 203 0 k_.toNat 1) := gi_aI hI_ (show 0 ≤ 1 ∧ 1 ≤ 1 from ⟨by omega, by omega⟩)
          have hFx5_ : ai_fr (sx_W vw_394n) S0_ (sm_aI S_ 203 0 k_.toNat 1) := ai_fr_tr hF_ (ai_fr_aI rfl)
          refine sm_T_inc (a := 2) (z := 1) (v := k_) (w := k_ + 1) rfl rfl (by omega) (by omega) (by omega) ?_ -- pc_ 329
          refine sm_T_go 1 (c1 := (285, [some (.inr (.inr (some (13, 0)))), some (.inl n_), some (.inl (k_ + 1)), none, none], [], sm_aI S_ 203 0 k_.toNat 1)) rfl ?_
          refine ih_.2.2.2.2 n_ (k_ + 1) (sm_aI S_ 203 0 k_.toNat 1) hIx4_ hFx5_ ⟨?_, ?_, ?_, ?_, ?_, ?_, ?_, trivial⟩ ?_
          · intro q9_ hq9_
            have w9_ := hu_ q9_ hq9_
            (try simp only [rd_eq, rd_ne, rf_eq, rf_nk, rf_nt, rd_fa, rd_af, rd_fl, rd_al, rd_lf, rd_la, rd_leq, rd_lne, rd_fr, rd_ar, ne_eq, Nat.reduceEqDiff, not_false_eq_true])
            exact w9_
          · intro q9_ hq9_
            have w9_ := hw_ q9_ hq9_
            (try simp only [rd_eq, rd_ne, rf_eq, rf_nk, rf_nt, rd_fa, rd_af, rd_fl, rd_al, rd_lf, rd_la, rd_leq, rd_lne, rd_fr, rd_ar, ne_eq, Nat.reduceEqDiff, not_false_eq_true])
            exact w9_
          · intro q9_ hq9_
            have w9_ := hv_ q9_ hq9_
            have wk9_ := hw_ k_.toNat (by omega)
            have wu9_ := hu_ k_.toNat (by omega)
            rw [rd_eq]
            by_cases z9_ : q9_ = k_.toNat
            · subst z9_
              rw [if_pos rfl, if_pos (show ((k_.toNat : Nat) : Int) < k_ + 1 by omega)]
              rw [if_neg (show ¬ ((k_.toNat : Nat) : Int) < k_ by omega)] at w9_
              by_cases x9_ : 0 < rcn (fun m_ => S0_.2.2.1 166 0 (2048 * d_.toNat + m_)) (rto (S0_.2.2.1 156 0 d_.toNat).toNat (fun k_ => S0_.2.2.1 167 0 (16 * d_.toNat + k_)) (fun k_ => S0_.2.2.1 168 0 (6 * d_.toNat + k_))) ((S0_.2.2.1 156 0 d_.toNat).toNat + (S0_.2.2.1 155 0 d_.toNat).toNat) k_.toNat
              · rw [if_pos ⟨by omega, x9_⟩] at w9_; first | (rw [if_pos ⟨by omega, Or.inl x9_⟩]; done) | (exfalso; omega)
              · rw [if_neg (fun z_ => x9_ z_.2)] at w9_; by_cases v9_ : S_.2.2.1 202 0 k_.toNat = 1 ∧ 1 < S_.2.2.1 201 0 k_.toNat
                · first | (rw [if_pos ⟨by omega, Or.inr ⟨wk9_.mp v9_.1, by omega⟩⟩]; done) | (exfalso; omega)
                · first | (rw [if_neg (fun z_ => z_.2.elim x9_ (fun y_ => v9_ ⟨wk9_.mpr y_.1, by (have y8_ := y_.2; omega)⟩))]; done) | (exfalso; omega)
            · rw [if_neg z9_, w9_]; by_cases y9_ : (q9_ : Int) < k_
              · rw [if_pos y9_, if_pos (show (q9_ : Int) < k_ + 1 by omega)]
              · rw [if_neg y9_, if_neg (show ¬ (q9_ : Int) < k_ + 1 by omega)]
          · intro j9_ u1_ u2_ u3_
            have w9_ := hsd_ j9_ u1_ u2_ (by ((try simp only [rd_eq, rd_ne, rf_eq, rf_nk, rf_nt, rd_fa, rd_af, rd_fl, rd_al, rd_lf, rd_la, rd_leq, rd_lne, rd_fr, rd_ar, ne_eq, Nat.reduceEqDiff, not_false_eq_true] at *); exact u3_))
            (try simp only [rd_eq, rd_ne, rf_eq, rf_nk, rf_nt, rd_fa, rd_af, rd_fl, rd_al, rd_lf, rd_la, rd_leq, rd_lne, rd_fr, rd_ar, ne_eq, Nat.reduceEqDiff, not_false_eq_true])
            exact w9_
          · omega
          · exact rtd_mo hr_ (by (funext j9_; (try simp only [rd_eq, rd_ne, rf_eq, rf_nk, rf_nt, rd_fa, rd_af, rd_fl, rd_al, rd_lf, rd_la, rd_leq, rd_lne, rd_fr, rd_ar, ne_eq, Nat.reduceEqDiff, not_false_eq_true]))) (by (funext j9_; (try simp only [rd_eq, rd_ne, rf_eq, rf_nk, rf_nt, rd_fa, rd_af, rd_fl, rd_al, rd_lf, rd_la, rd_leq, rd_lne, rd_fr, rd_ar, ne_eq, Nat.reduceEqDiff, not_false_eq_true]))) (by (funext j9_; (try simp only [rd_eq, rd_ne, rf_eq, rf_nk, rf_nt, rd_fa, rd_af, rd_fl, rd_al, rd_lf, rd_la, rd_leq, rd_lne, rd_fr, rd_ar, ne_eq, Nat.reduceEqDiff, not_false_eq_true]))) (fun j9_ u9_ => by ((try simp only [rd_eq, rd_ne, rf_eq, rf_nk, rf_nt, rd_fa, rd_af, rd_fl, rd_al, rd_lf, rd_la, rd_leq, rd_lne, rd_fr, rd_ar, ne_eq, Nat.reduceEqDiff, not_false_eq_true]); exact u9_)) (fun j9_ u9_ => by ((try simp only [rd_eq, rd_ne, rf_eq, rf_nk, rf_nt, rd_fa, rd_af, rd_fl, rd_al, rd_lf, rd_la, rd_leq, rd_lne, rd_fr, rd_ar, ne_eq, Nat.reduceEqDiff, not_false_eq_true]); split; (first | rfl | (rename_i z9_; rw [z9_] at u9_; exfalso; omega)); exact u9_))
          · (intro j9_ u0_ u1_ u2_; exact lgp_mo (hl_ j9_ u0_ u1_ (by ((try simp only [rd_eq, rd_ne, rf_eq, rf_nk, rf_nt, rd_fa, rd_af, rd_fl, rd_al, rd_lf, rd_la, rd_leq, rd_lne, rd_fr, rd_ar, ne_eq, Nat.reduceEqDiff, not_false_eq_true] at *); exact u2_))) (by (try simp only [rd_eq, rd_ne, rf_eq, rf_nk, rf_nt, rd_fa, rd_af, rd_fl, rd_al, rd_lf, rd_la, rd_leq, rd_lne, rd_fr, rd_ar, ne_eq, Nat.reduceEqDiff, not_false_eq_true])) (by (try simp only [rd_eq, rd_ne, rf_eq, rf_nk, rf_nt, rd_fa, rd_af, rd_fl, rd_al, rd_lf, rd_la, rd_leq, rd_lne, rd_fr, rd_ar, ne_eq, Nat.reduceEqDiff, not_false_eq_true])) (fun i9_ u9_ => by ((try simp only [rd_eq, rd_ne, rf_eq, rf_nk, rf_nt, rd_fa, rd_af, rd_fl, rd_al, rd_lf, rd_la, rd_leq, rd_lne, rd_fr, rd_ar, ne_eq, Nat.reduceEqDiff, not_false_eq_true]); exact u9_)))
          · omega
        · have cx3_ : ¬ ((S_.2.2.1 203 0 k_.toNat) ≠ 0) := of_decide_eq_false cx3_
          refine sm_T_go 3 (c1 := (309, [some (.inr (.inr (some (13, 0)))), some (.inl n_), some (.inl k_), none, none], [.inl k_, .inr (.inr (some (202, 0))), .inl k_, .inr (.inr (some (203, 0)))], S_)) rfl ?_
          refine sm_T_zald (n := 2048) rfl rfl (by omega) (by omega) ?_
          have bx6_ : 0 ≤ S_.2.2.1 202 0 k_.toNat ∧ S_.2.2.1 202 0 k_.toNat ≤ 1 := hI_.2 202 0 _
          refine sm_T_b0 (a := 0) (z := 17) rfl (fun cx7_ => ?_) (fun cx7_ => ?_)
          · have cx7_ : (S_.2.2.1 202 0 k_.toNat) = 0 := of_decide_eq_true cx7_
            refine sm_T_go 1 (c1 := (328, [some (.inr (.inr (some (13, 0)))), some (.inl n_), some (.inl k_), none, none], [.inl 0, .inl k_, .inr (.inr (some (203, 0)))], S_)) rfl ?_
            refine sm_T_zas1 (n := 2048) rfl rfl (by omega) (by omega) (by omega) ?_
            have hIx8_ : gi (sm_aI S_ 203 0 k_.toNat 0) := gi_aI hI_ (show 0 ≤ 0 ∧ 0 ≤ 1 from ⟨by omega, by omega⟩)
            have hFx9_ : ai_fr (sx_W vw_394n) S0_ (sm_aI S_ 203 0 k_.toNat 0) := ai_fr_tr hF_ (ai_fr_aI rfl)
            refine sm_T_inc (a := 2) (z := 1) (v := k_) (w := k_ + 1) rfl rfl (by omega) (by omega) (by omega) ?_ -- pc_ 329
            refine sm_T_go 1 (c1 := (285, [some (.inr (.inr (some (13, 0)))), some (.inl n_), some (.inl (k_ + 1)), none, none], [], sm_aI S_ 203 0 k_.toNat 0)) rfl ?_
            refine ih_.2.2.2.2 n_ (k_ + 1) (sm_aI S_ 203 0 k_.toNat 0) hIx8_ hFx9_ ⟨?_, ?_, ?_, ?_, ?_, ?_, ?_, trivial⟩ ?_
            · intro q9_ hq9_
              have w9_ := hu_ q9_ hq9_
              (try simp only [rd_eq, rd_ne, rf_eq, rf_nk, rf_nt, rd_fa, rd_af, rd_fl, rd_al, rd_lf, rd_la, rd_leq, rd_lne, rd_fr, rd_ar, ne_eq, Nat.reduceEqDiff, not_false_eq_true])
              exact w9_
            · intro q9_ hq9_
              have w9_ := hw_ q9_ hq9_
              (try simp only [rd_eq, rd_ne, rf_eq, rf_nk, rf_nt, rd_fa, rd_af, rd_fl, rd_al, rd_lf, rd_la, rd_leq, rd_lne, rd_fr, rd_ar, ne_eq, Nat.reduceEqDiff, not_false_eq_true])
              exact w9_
            · intro q9_ hq9_
              have w9_ := hv_ q9_ hq9_
              have wk9_ := hw_ k_.toNat (by omega)
              have wu9_ := hu_ k_.toNat (by omega)
              rw [rd_eq]
              by_cases z9_ : q9_ = k_.toNat
              · subst z9_
                rw [if_pos rfl, if_pos (show ((k_.toNat : Nat) : Int) < k_ + 1 by omega)]
                rw [if_neg (show ¬ ((k_.toNat : Nat) : Int) < k_ by omega)] at w9_
                by_cases x9_ : 0 < rcn (fun m_ => S0_.2.2.1 166 0 (2048 * d_.toNat + m_)) (rto (S0_.2.2.1 156 0 d_.toNat).toNat (fun k_ => S0_.2.2.1 167 0 (16 * d_.toNat + k_)) (fun k_ => S0_.2.2.1 168 0 (6 * d_.toNat + k_))) ((S0_.2.2.1 156 0 d_.toNat).toNat + (S0_.2.2.1 155 0 d_.toNat).toNat) k_.toNat
                · rw [if_pos ⟨by omega, x9_⟩] at w9_; first | (rw [if_pos ⟨by omega, Or.inl x9_⟩]; done) | (exfalso; omega)
                · rw [if_neg (fun z_ => x9_ z_.2)] at w9_; by_cases v9_ : S_.2.2.1 202 0 k_.toNat = 1 ∧ 1 < S_.2.2.1 201 0 k_.toNat
                  · first | (rw [if_pos ⟨by omega, Or.inr ⟨wk9_.mp v9_.1, by omega⟩⟩]; done) | (exfalso; omega)
                  · first | (rw [if_neg (fun z_ => z_.2.elim x9_ (fun y_ => v9_ ⟨wk9_.mpr y_.1, by (have y8_ := y_.2; omega)⟩))]; done) | (exfalso; omega)
              · rw [if_neg z9_, w9_]; by_cases y9_ : (q9_ : Int) < k_
                · rw [if_pos y9_, if_pos (show (q9_ : Int) < k_ + 1 by omega)]
                · rw [if_neg y9_, if_neg (show ¬ (q9_ : Int) < k_ + 1 by omega)]
            · intro j9_ u1_ u2_ u3_
              have w9_ := hsd_ j9_ u1_ u2_ (by ((try simp only [rd_eq, rd_ne, rf_eq, rf_nk, rf_nt, rd_fa, rd_af, rd_fl, rd_al, rd_lf, rd_la, rd_leq, rd_lne, rd_fr, rd_ar, ne_eq, Nat.reduceEqDiff, not_false_eq_true] at *); exact u3_))
              (try simp only [rd_eq, rd_ne, rf_eq, rf_nk, rf_nt, rd_fa, rd_af, rd_fl, rd_al, rd_lf, rd_la, rd_leq, rd_lne, rd_fr, rd_ar, ne_eq, Nat.reduceEqDiff, not_false_eq_true])
              exact w9_
            · omega
            · exact rtd_mo hr_ (by (funext j9_; (try simp only [rd_eq, rd_ne, rf_eq, rf_nk, rf_nt, rd_fa, rd_af, rd_fl, rd_al, rd_lf, rd_la, rd_leq, rd_lne, rd_fr, rd_ar, ne_eq, Nat.reduceEqDiff, not_false_eq_true]))) (by (funext j9_; (try simp only [rd_eq, rd_ne, rf_eq, rf_nk, rf_nt, rd_fa, rd_af, rd_fl, rd_al, rd_lf, rd_la, rd_leq, rd_lne, rd_fr, rd_ar, ne_eq, Nat.reduceEqDiff, not_false_eq_true]))) (by (funext j9_; (try simp only [rd_eq, rd_ne, rf_eq, rf_nk, rf_nt, rd_fa, rd_af, rd_fl, rd_al, rd_lf, rd_la, rd_leq, rd_lne, rd_fr, rd_ar, ne_eq, Nat.reduceEqDiff, not_false_eq_true]))) (fun j9_ u9_ => by ((try simp only [rd_eq, rd_ne, rf_eq, rf_nk, rf_nt, rd_fa, rd_af, rd_fl, rd_al, rd_lf, rd_la, rd_leq, rd_lne, rd_fr, rd_ar, ne_eq, Nat.reduceEqDiff, not_false_eq_true]); exact u9_)) (fun j9_ u9_ => by ((try simp only [rd_eq, rd_ne, rf_eq, rf_nk, rf_nt, rd_fa, rd_af, rd_fl, rd_al, rd_lf, rd_la, rd_leq, rd_lne, rd_fr, rd_ar, ne_eq, Nat.reduceEqDiff, not_false_eq_true]); split; (first | rfl | (rename_i z9_; rw [z9_] at u9_; exfalso; omega)); exact u9_))
            · (intro j9_ u0_ u1_ u2_; exact lgp_mo (hl_ j9_ u0_ u1_ (by ((try simp only [rd_eq, rd_ne, rf_eq, rf_nk, rf_nt, rd_fa, rd_af, rd_fl, rd_al, rd_lf, rd_la, rd_leq, rd_lne, rd_fr, rd_ar, ne_eq, Nat.reduceEqDiff, not_false_eq_true] at *); exact u2_))) (by (try simp only [rd_eq, rd_ne, rf_eq, rf_nk, rf_nt, rd_fa, rd_af, rd_fl, rd_al, rd_lf, rd_la, rd_leq, rd_lne, rd_fr, rd_ar, ne_eq, Nat.reduceEqDiff, not_false_eq_true])) (by (try simp only [rd_eq, rd_ne, rf_eq, rf_nk, rf_nt, rd_fa, rd_af, rd_fl, rd_al, rd_lf, rd_la, rd_leq, rd_lne, rd_fr, rd_ar, ne_eq, Nat.reduceEqDiff, not_false_eq_true])) (fun i9_ u9_ => by ((try simp only [rd_eq, rd_ne, rf_eq, rf_nk, rf_nt, rd_fa, rd_af, rd_fl, rd_al, rd_lf, rd_la, rd_leq, rd_lne, rd_fr, rd_ar, ne_eq, Nat.reduceEqDiff, not_false_eq_true]); exact u9_)))
            · omega
          · have cx7_ : ¬ ((S_.2.2.1 202 0 k_.toNat) = 0) := of_decide_eq_false cx7_
            refine sm_T_go 3 (c1 := (318, [some (.inr (.inr (some (13, 0)))), some (.inl n_), some (.inl k_), none, none], [.inl k_, .inr (.inr (some (201, 0))), .inl k_, .inr (.inr (some (203, 0)))], S_)) rfl ?_
            refine sm_T_iald (n := 2048) rfl rfl (by omega) (by omega) ?_
            have bx10_ : (-2147483648) ≤ S_.2.2.1 201 0 k_.toNat ∧ S_.2.2.1 201 0 k_.toNat ≤ 2147483647 := hI_.2 201 0 _
            refine sm_T_go 1 (c1 := (320, [some (.inr (.inr (some (13, 0)))), some (.inl n_), some (.inl k_), none, none], [.inl 1, .inl (S_.2.2.1 201 0 k_.toNat), .inl k_, .inr (.inr (some (203, 0)))], S_)) rfl ?_
            refine sm_T_br (a := 5) (z := 7) rfl (fun cx11_ => ?_) (fun cx11_ => ?_)
            · have cx11_ : (S_.2.2.1 201 0 k_.toNat) ≤ 1 := of_decide_eq_true cx11_
              refine sm_T_go 1 (c1 := (328, [some (.inr (.inr (some (13, 0)))), some (.inl n_), some (.inl k_), none, none], [.inl 0, .inl k_, .inr (.inr (some (203, 0)))], S_)) rfl ?_
              refine sm_T_zas1 (n := 2048) rfl rfl (by omega) (by omega) (by omega) ?_
              have hIx12_ : gi (sm_aI S_ 203 0 k_.toNat 0) := gi_aI hI_ (show 0 ≤ 0 ∧ 0 ≤ 1 from ⟨by omega, by omega⟩)
              have hFx13_ : ai_fr (sx_W vw_394n) S0_ (sm_aI S_ 203 0 k_.toNat 0) := ai_fr_tr hF_ (ai_fr_aI rfl)
              refine sm_T_inc (a := 2) (z := 1) (v := k_) (w := k_ + 1) rfl rfl (by omega) (by omega) (by omega) ?_ -- pc_ 329
              refine sm_T_go 1 (c1 := (285, [some (.inr (.inr (some (13, 0)))), some (.inl n_), some (.inl (k_ + 1)), none, none], [], sm_aI S_ 203 0 k_.toNat 0)) rfl ?_
              refine ih_.2.2.2.2 n_ (k_ + 1) (sm_aI S_ 203 0 k_.toNat 0) hIx12_ hFx13_ ⟨?_, ?_, ?_, ?_, ?_, ?_, ?_, trivial⟩ ?_
              · intro q9_ hq9_
                have w9_ := hu_ q9_ hq9_
                (try simp only [rd_eq, rd_ne, rf_eq, rf_nk, rf_nt, rd_fa, rd_af, rd_fl, rd_al, rd_lf, rd_la, rd_leq, rd_lne, rd_fr, rd_ar, ne_eq, Nat.reduceEqDiff, not_false_eq_true])
                exact w9_
              · intro q9_ hq9_
                have w9_ := hw_ q9_ hq9_
                (try simp only [rd_eq, rd_ne, rf_eq, rf_nk, rf_nt, rd_fa, rd_af, rd_fl, rd_al, rd_lf, rd_la, rd_leq, rd_lne, rd_fr, rd_ar, ne_eq, Nat.reduceEqDiff, not_false_eq_true])
                exact w9_
              · intro q9_ hq9_
                have w9_ := hv_ q9_ hq9_
                have wk9_ := hw_ k_.toNat (by omega)
                have wu9_ := hu_ k_.toNat (by omega)
                rw [rd_eq]
                by_cases z9_ : q9_ = k_.toNat
                · subst z9_
                  rw [if_pos rfl, if_pos (show ((k_.toNat : Nat) : Int) < k_ + 1 by omega)]
                  rw [if_neg (show ¬ ((k_.toNat : Nat) : Int) < k_ by omega)] at w9_
                  by_cases x9_ : 0 < rcn (fun m_ => S0_.2.2.1 166 0 (2048 * d_.toNat + m_)) (rto (S0_.2.2.1 156 0 d_.toNat).toNat (fun k_ => S0_.2.2.1 167 0 (16 * d_.toNat + k_)) (fun k_ => S0_.2.2.1 168 0 (6 * d_.toNat + k_))) ((S0_.2.2.1 156 0 d_.toNat).toNat + (S0_.2.2.1 155 0 d_.toNat).toNat) k_.toNat
                  · rw [if_pos ⟨by omega, x9_⟩] at w9_; first | (rw [if_pos ⟨by omega, Or.inl x9_⟩]; done) | (exfalso; omega)
                  · rw [if_neg (fun z_ => x9_ z_.2)] at w9_; by_cases v9_ : S_.2.2.1 202 0 k_.toNat = 1 ∧ 1 < S_.2.2.1 201 0 k_.toNat
                    · first | (rw [if_pos ⟨by omega, Or.inr ⟨wk9_.mp v9_.1, by omega⟩⟩]; done) | (exfalso; omega)
                    · first | (rw [if_neg (fun z_ => z_.2.elim x9_ (fun y_ => v9_ ⟨wk9_.mpr y_.1, by (have y8_ := y_.2; omega)⟩))]; done) | (exfalso; omega)
                · rw [if_neg z9_, w9_]; by_cases y9_ : (q9_ : Int) < k_
                  · rw [if_pos y9_, if_pos (show (q9_ : Int) < k_ + 1 by omega)]
                  · rw [if_neg y9_, if_neg (show ¬ (q9_ : Int) < k_ + 1 by omega)]
              · intro j9_ u1_ u2_ u3_
                have w9_ := hsd_ j9_ u1_ u2_ (by ((try simp only [rd_eq, rd_ne, rf_eq, rf_nk, rf_nt, rd_fa, rd_af, rd_fl, rd_al, rd_lf, rd_la, rd_leq, rd_lne, rd_fr, rd_ar, ne_eq, Nat.reduceEqDiff, not_false_eq_true] at *); exact u3_))
                (try simp only [rd_eq, rd_ne, rf_eq, rf_nk, rf_nt, rd_fa, rd_af, rd_fl, rd_al, rd_lf, rd_la, rd_leq, rd_lne, rd_fr, rd_ar, ne_eq, Nat.reduceEqDiff, not_false_eq_true])
                exact w9_
              · omega
              · exact rtd_mo hr_ (by (funext j9_; (try simp only [rd_eq, rd_ne, rf_eq, rf_nk, rf_nt, rd_fa, rd_af, rd_fl, rd_al, rd_lf, rd_la, rd_leq, rd_lne, rd_fr, rd_ar, ne_eq, Nat.reduceEqDiff, not_false_eq_true]))) (by (funext j9_; (try simp only [rd_eq, rd_ne, rf_eq, rf_nk, rf_nt, rd_fa, rd_af, rd_fl, rd_al, rd_lf, rd_la, rd_leq, rd_lne, rd_fr, rd_ar, ne_eq, Nat.reduceEqDiff, not_false_eq_true]))) (by (funext j9_; (try simp only [rd_eq, rd_ne, rf_eq, rf_nk, rf_nt, rd_fa, rd_af, rd_fl, rd_al, rd_lf, rd_la, rd_leq, rd_lne, rd_fr, rd_ar, ne_eq, Nat.reduceEqDiff, not_false_eq_true]))) (fun j9_ u9_ => by ((try simp only [rd_eq, rd_ne, rf_eq, rf_nk, rf_nt, rd_fa, rd_af, rd_fl, rd_al, rd_lf, rd_la, rd_leq, rd_lne, rd_fr, rd_ar, ne_eq, Nat.reduceEqDiff, not_false_eq_true]); exact u9_)) (fun j9_ u9_ => by ((try simp only [rd_eq, rd_ne, rf_eq, rf_nk, rf_nt, rd_fa, rd_af, rd_fl, rd_al, rd_lf, rd_la, rd_leq, rd_lne, rd_fr, rd_ar, ne_eq, Nat.reduceEqDiff, not_false_eq_true]); split; (first | rfl | (rename_i z9_; rw [z9_] at u9_; exfalso; omega)); exact u9_))
              · (intro j9_ u0_ u1_ u2_; exact lgp_mo (hl_ j9_ u0_ u1_ (by ((try simp only [rd_eq, rd_ne, rf_eq, rf_nk, rf_nt, rd_fa, rd_af, rd_fl, rd_al, rd_lf, rd_la, rd_leq, rd_lne, rd_fr, rd_ar, ne_eq, Nat.reduceEqDiff, not_false_eq_true] at *); exact u2_))) (by (try simp only [rd_eq, rd_ne, rf_eq, rf_nk, rf_nt, rd_fa, rd_af, rd_fl, rd_al, rd_lf, rd_la, rd_leq, rd_lne, rd_fr, rd_ar, ne_eq, Nat.reduceEqDiff, not_false_eq_true])) (by (try simp only [rd_eq, rd_ne, rf_eq, rf_nk, rf_nt, rd_fa, rd_af, rd_fl, rd_al, rd_lf, rd_la, rd_leq, rd_lne, rd_fr, rd_ar, ne_eq, Nat.reduceEqDiff, not_false_eq_true])) (fun i9_ u9_ => by ((try simp only [rd_eq, rd_ne, rf_eq, rf_nk, rf_nt, rd_fa, rd_af, rd_fl, rd_al, rd_lf, rd_la, rd_leq, rd_lne, rd_fr, rd_ar, ne_eq, Nat.reduceEqDiff, not_false_eq_true]); exact u9_)))
              · omega
            · have cx11_ : ¬ ((S_.2.2.1 201 0 k_.toNat) ≤ 1) := of_decide_eq_false cx11_
              refine sm_T_go 2 (c1 := (328, [some (.inr (.inr (some (13, 0)))), some (.inl n_), some (.inl k_), none, none], [.inl 1, .inl k_, .inr (.inr (some (203, 0)))], S_)) rfl ?_
              refine sm_T_zas1 (n := 2048) rfl rfl (by omega) (by omega) (by omega) ?_
              have hIx14_ : gi (sm_aI S_ 203 0 k_.toNat 1) := gi_aI hI_ (show 0 ≤ 1 ∧ 1 ≤ 1 from ⟨by omega, by omega⟩)
              have hFx15_ : ai_fr (sx_W vw_394n) S0_ (sm_aI S_ 203 0 k_.toNat 1) := ai_fr_tr hF_ (ai_fr_aI rfl)
              refine sm_T_inc (a := 2) (z := 1) (v := k_) (w := k_ + 1) rfl rfl (by omega) (by omega) (by omega) ?_ -- pc_ 329
              refine sm_T_go 1 (c1 := (285, [some (.inr (.inr (some (13, 0)))), some (.inl n_), some (.inl (k_ + 1)), none, none], [], sm_aI S_ 203 0 k_.toNat 1)) rfl ?_
              refine ih_.2.2.2.2 n_ (k_ + 1) (sm_aI S_ 203 0 k_.toNat 1) hIx14_ hFx15_ ⟨?_, ?_, ?_, ?_, ?_, ?_, ?_, trivial⟩ ?_
              · intro q9_ hq9_
                have w9_ := hu_ q9_ hq9_
                (try simp only [rd_eq, rd_ne, rf_eq, rf_nk, rf_nt, rd_fa, rd_af, rd_fl, rd_al, rd_lf, rd_la, rd_leq, rd_lne, rd_fr, rd_ar, ne_eq, Nat.reduceEqDiff, not_false_eq_true])
                exact w9_
              · intro q9_ hq9_
                have w9_ := hw_ q9_ hq9_
                (try simp only [rd_eq, rd_ne, rf_eq, rf_nk, rf_nt, rd_fa, rd_af, rd_fl, rd_al, rd_lf, rd_la, rd_leq, rd_lne, rd_fr, rd_ar, ne_eq, Nat.reduceEqDiff, not_false_eq_true])
                exact w9_
              · intro q9_ hq9_
                have w9_ := hv_ q9_ hq9_
                have wk9_ := hw_ k_.toNat (by omega)
                have wu9_ := hu_ k_.toNat (by omega)
                rw [rd_eq]
                by_cases z9_ : q9_ = k_.toNat
                · subst z9_
                  rw [if_pos rfl, if_pos (show ((k_.toNat : Nat) : Int) < k_ + 1 by omega)]
                  rw [if_neg (show ¬ ((k_.toNat : Nat) : Int) < k_ by omega)] at w9_
                  by_cases x9_ : 0 < rcn (fun m_ => S0_.2.2.1 166 0 (2048 * d_.toNat + m_)) (rto (S0_.2.2.1 156 0 d_.toNat).toNat (fun k_ => S0_.2.2.1 167 0 (16 * d_.toNat + k_)) (fun k_ => S0_.2.2.1 168 0 (6 * d_.toNat + k_))) ((S0_.2.2.1 156 0 d_.toNat).toNat + (S0_.2.2.1 155 0 d_.toNat).toNat) k_.toNat
                  · rw [if_pos ⟨by omega, x9_⟩] at w9_; first | (rw [if_pos ⟨by omega, Or.inl x9_⟩]; done) | (exfalso; omega)
                  · rw [if_neg (fun z_ => x9_ z_.2)] at w9_; by_cases v9_ : S_.2.2.1 202 0 k_.toNat = 1 ∧ 1 < S_.2.2.1 201 0 k_.toNat
                    · first | (rw [if_pos ⟨by omega, Or.inr ⟨wk9_.mp v9_.1, by omega⟩⟩]; done) | (exfalso; omega)
                    · first | (rw [if_neg (fun z_ => z_.2.elim x9_ (fun y_ => v9_ ⟨wk9_.mpr y_.1, by (have y8_ := y_.2; omega)⟩))]; done) | (exfalso; omega)
                · rw [if_neg z9_, w9_]; by_cases y9_ : (q9_ : Int) < k_
                  · rw [if_pos y9_, if_pos (show (q9_ : Int) < k_ + 1 by omega)]
                  · rw [if_neg y9_, if_neg (show ¬ (q9_ : Int) < k_ + 1 by omega)]
              · intro j9_ u1_ u2_ u3_
                have w9_ := hsd_ j9_ u1_ u2_ (by ((try simp only [rd_eq, rd_ne, rf_eq, rf_nk, rf_nt, rd_fa, rd_af, rd_fl, rd_al, rd_lf, rd_la, rd_leq, rd_lne, rd_fr, rd_ar, ne_eq, Nat.reduceEqDiff, not_false_eq_true] at *); exact u3_))
                (try simp only [rd_eq, rd_ne, rf_eq, rf_nk, rf_nt, rd_fa, rd_af, rd_fl, rd_al, rd_lf, rd_la, rd_leq, rd_lne, rd_fr, rd_ar, ne_eq, Nat.reduceEqDiff, not_false_eq_true])
                exact w9_
              · omega
              · exact rtd_mo hr_ (by (funext j9_; (try simp only [rd_eq, rd_ne, rf_eq, rf_nk, rf_nt, rd_fa, rd_af, rd_fl, rd_al, rd_lf, rd_la, rd_leq, rd_lne, rd_fr, rd_ar, ne_eq, Nat.reduceEqDiff, not_false_eq_true]))) (by (funext j9_; (try simp only [rd_eq, rd_ne, rf_eq, rf_nk, rf_nt, rd_fa, rd_af, rd_fl, rd_al, rd_lf, rd_la, rd_leq, rd_lne, rd_fr, rd_ar, ne_eq, Nat.reduceEqDiff, not_false_eq_true]))) (by (funext j9_; (try simp only [rd_eq, rd_ne, rf_eq, rf_nk, rf_nt, rd_fa, rd_af, rd_fl, rd_al, rd_lf, rd_la, rd_leq, rd_lne, rd_fr, rd_ar, ne_eq, Nat.reduceEqDiff, not_false_eq_true]))) (fun j9_ u9_ => by ((try simp only [rd_eq, rd_ne, rf_eq, rf_nk, rf_nt, rd_fa, rd_af, rd_fl, rd_al, rd_lf, rd_la, rd_leq, rd_lne, rd_fr, rd_ar, ne_eq, Nat.reduceEqDiff, not_false_eq_true]); exact u9_)) (fun j9_ u9_ => by ((try simp only [rd_eq, rd_ne, rf_eq, rf_nk, rf_nt, rd_fa, rd_af, rd_fl, rd_al, rd_lf, rd_la, rd_leq, rd_lne, rd_fr, rd_ar, ne_eq, Nat.reduceEqDiff, not_false_eq_true]); split; (first | rfl | (rename_i z9_; rw [z9_] at u9_; exfalso; omega)); exact u9_))
              · (intro j9_ u0_ u1_ u2_; exact lgp_mo (hl_ j9_ u0_ u1_ (by ((try simp only [rd_eq, rd_ne, rf_eq, rf_nk, rf_nt, rd_fa, rd_af, rd_fl, rd_al, rd_lf, rd_la, rd_leq, rd_lne, rd_fr, rd_ar, ne_eq, Nat.reduceEqDiff, not_false_eq_true] at *); exact u2_))) (by (try simp only [rd_eq, rd_ne, rf_eq, rf_nk, rf_nt, rd_fa, rd_af, rd_fl, rd_al, rd_lf, rd_la, rd_leq, rd_lne, rd_fr, rd_ar, ne_eq, Nat.reduceEqDiff, not_false_eq_true])) (by (try simp only [rd_eq, rd_ne, rf_eq, rf_nk, rf_nt, rd_fa, rd_af, rd_fl, rd_al, rd_lf, rd_la, rd_leq, rd_lne, rd_fr, rd_ar, ne_eq, Nat.reduceEqDiff, not_false_eq_true])) (fun i9_ u9_ => by ((try simp only [rd_eq, rd_ne, rf_eq, rf_nk, rf_nt, rd_fa, rd_af, rd_fl, rd_al, rd_lf, rd_la, rd_leq, rd_lne, rd_fr, rd_ar, ne_eq, Nat.reduceEqDiff, not_false_eq_true]); exact u9_)))
              · omega
set_option maxHeartbeats 8000000 in
set_option maxRecDepth 20000 in
theorem vc_394n {sc_ : Nat × (Nat → Int)} (F_ : Int) (N_ : Int) (d_ : Int) (S0_ : sm_S) (hI_ : gi S0_) (hd_ : dmp F_ N_ d_ S0_) : sm_T (mt_P sc_) 2 394 (0, [some (.inr (.inr (some (13, 0)))), none, none, none, none], [], S0_) (fun ro9_ => ∃ u_ S1_, ro9_ = (.inl u_, S1_, 0) ∧ vq_394n F_ N_ d_ S0_ u_ S1_) := by
  have hF_ : ai_fr (sx_W vw_394n) S0_ S0_ := ai_fr_rf
  have bx1_ : 0 ≤ S0_.1 13 0 105 ∧ S0_.1 13 0 105 ≤ 5 := hI_.1 13 0 105 rfl
  refine sm_T_go 4 (c1 := (8, [some (.inr (.inr (some (13, 0)))), none, none, none, none], [.inl (S0_.1 13 0 105), .inr (.inr (some (159, 0)))], S0_)) rfl ?_
  refine sm_T_iald (n := 6) rfl rfl (by omega) (by omega) ?_
  have bx2_ : 0 ≤ S0_.2.2.1 159 0 (S0_.1 13 0 105).toNat ∧ S0_.2.2.1 159 0 (S0_.1 13 0 105).toNat ≤ 1013 := hI_.2 159 0 _
  refine sm_T_go 3 (c1 := (12, [some (.inr (.inr (some (13, 0)))), some (.inl (S0_.2.2.1 159 0 (S0_.1 13 0 105).toNat)), some (.inl 0), none, none], [], S0_)) rfl ?_
  refine (vl_394n F_ N_ d_ S0_ hd_ _).1 (S0_.2.2.1 159 0 (S0_.1 13 0 105).toNat) 0 S0_ hI_ hF_ ⟨?_, ?_, ?_, trivial⟩ (Nat.lt_succ_self _)
  · (intro j9_ hj9_; exfalso; omega)
  · (have d1_ := hd_.1; rw [d1_.2.2.1]; omega)
  · (intro j9_ u0_ u1_; exfalso; omega)
end
/-! 99.ztZ7 -/
section
/-! cuts: rising lists of nodes; written by wip/p55/gen/vg -/

/-! rising lists -/
def ins (x_ : Nat) : List Nat → List Nat
  | [] => [x_]
  | y_ :: l_ => if x_ < y_ then x_ :: y_ :: l_ else if x_ = y_ then y_ :: l_ else y_ :: ins x_ l_
def ris : List Nat → Prop
  | [] => True
  | y_ :: l_ => (∀ z_, z_ ∈ l_ → y_ < z_) ∧ ris l_
theorem ins_c {x_ y_ : Nat} {l_ : List Nat} : ins x_ (y_ :: l_) = if x_ < y_ then x_ :: y_ :: l_ else if x_ = y_ then y_ :: l_ else y_ :: ins x_ l_ := rfl
theorem ins_m {x_ z_ : Nat} : ∀ {l_ : List Nat}, z_ ∈ ins x_ l_ ↔ z_ = x_ ∨ z_ ∈ l_
  | [] => by
    show z_ ∈ [x_] ↔ z_ = x_ ∨ z_ ∈ []
    constructor
    · intro h_
      exact Or.inl (List.mem_singleton.mp h_)
    · rintro (h_ | h_)
      · exact List.mem_singleton.mpr h_
      · exact absurd h_ List.not_mem_nil
  | y_ :: l_ => by
    have ih_ := ins_m (x_ := x_) (z_ := z_) (l_ := l_)
    rw [ins_c]
    by_cases c_ : x_ < y_
    · rw [if_pos c_, List.mem_cons]
    · rw [if_neg c_]
      by_cases e_ : x_ = y_
      · rw [if_pos e_, e_]
        constructor
        · intro h_
          exact Or.inr h_
        · rintro (h_ | h_)
          · rw [h_]
            exact List.mem_cons_self
          · exact h_
      · rw [if_neg e_, List.mem_cons, ih_, List.mem_cons]
        constructor
        · rintro (h_ | h_ | h_)
          · exact Or.inr (Or.inl h_)
          · exact Or.inl h_
          · exact Or.inr (Or.inr h_)
        · rintro (h_ | h_ | h_)
          · exact Or.inr (Or.inl h_)
          · exact Or.inl h_
          · exact Or.inr (Or.inr h_)
theorem ins_r {x_ : Nat} : ∀ {l_ : List Nat}, ris l_ → ris (ins x_ l_)
  | [], _ => ⟨fun z_ h_ => absurd h_ List.not_mem_nil, trivial⟩
  | y_ :: l_, h_ => by
    obtain ⟨h1_, h2_⟩ := h_
    rw [ins_c]
    by_cases c_ : x_ < y_
    · rw [if_pos c_]
      refine ⟨fun z_ hz_ => ?_, h1_, h2_⟩
      rcases List.mem_cons.mp hz_ with e_ | e_
      · omega
      · have := h1_ z_ e_
        omega
    · rw [if_neg c_]
      by_cases e_ : x_ = y_
      · rw [if_pos e_]
        exact ⟨h1_, h2_⟩
      · rw [if_neg e_]
        refine ⟨fun z_ hz_ => ?_, ins_r h2_⟩
        rcases ins_m.mp hz_ with q_ | q_
        · omega
        · exact h1_ z_ q_
/-- rising lists with the_ same members are_ one_ -/
theorem ris_u : ∀ {l_ m_ : List Nat}, ris l_ → ris m_ → (∀ z_, z_ ∈ l_ ↔ z_ ∈ m_) → l_ = m_
  | [], [], _, _, _ => rfl
  | [], b_ :: m_, _, _, h_ => absurd ((h_ b_).mpr List.mem_cons_self) List.not_mem_nil
  | a_ :: l_, [], _, _, h_ => absurd ((h_ a_).mp List.mem_cons_self) List.not_mem_nil
  | a_ :: l_, b_ :: m_, hl_, hm9_, h_ => by
    obtain ⟨l1_, l2_⟩ := hl_
    obtain ⟨m1_, m2_⟩ := hm9_
    have e_ : a_ = b_ := by
      rcases List.mem_cons.mp ((h_ a_).mp List.mem_cons_self) with p_ | p_
      · exact p_
      · rcases List.mem_cons.mp ((h_ b_).mpr List.mem_cons_self) with q_ | q_
        · exact q_.symm
        · have := m1_ a_ p_
          have := l1_ b_ q_
          omega
    subst e_
    have t_ : l_ = m_ := ris_u l2_ m2_ (fun z_ => by
      constructor
      · intro q_
        have w_ := l1_ z_ q_
        rcases List.mem_cons.mp ((h_ z_).mp (List.mem_cons_of_mem _ q_)) with p_ | p_
        · omega
        · exact p_
      · intro q_
        have w_ := m1_ z_ q_
        rcases List.mem_cons.mp ((h_ z_).mpr (List.mem_cons_of_mem _ q_)) with p_ | p_
        · omega
        · exact p_)
    rw [t_]
/-- one_ put_ at a_ place -/
def iap (x_ : Nat) : Nat → List Nat → List Nat
  | 0, l_ => x_ :: l_
  | _ + 1, [] => [x_]
  | a_ + 1, y_ :: l_ => y_ :: iap x_ a_ l_
theorem iap_m {x_ z_ : Nat} : ∀ {a_ : Nat} {l_ : List Nat}, z_ ∈ iap x_ a_ l_ ↔ z_ = x_ ∨ z_ ∈ l_
  | 0, l_ => List.mem_cons
  | a_ + 1, [] => by
    show z_ ∈ [x_] ↔ z_ = x_ ∨ z_ ∈ []
    constructor
    · intro h_
      exact Or.inl (List.mem_singleton.mp h_)
    · rintro (h_ | h_)
      · exact List.mem_singleton.mpr h_
      · exact absurd h_ List.not_mem_nil
  | a_ + 1, y_ :: l_ => by
    show z_ ∈ y_ :: iap x_ a_ l_ ↔ z_ = x_ ∨ z_ ∈ y_ :: l_
    rw [List.mem_cons, iap_m (a_ := a_) (l_ := l_), List.mem_cons]
    constructor
    · rintro (h_ | h_ | h_)
      · exact Or.inr (Or.inl h_)
      · exact Or.inl h_
      · exact Or.inr (Or.inr h_)
    · rintro (h_ | h_ | h_)
      · exact Or.inr (Or.inl h_)
      · exact Or.inl h_
      · exact Or.inr (Or.inr h_)
theorem iap_l {x_ : Nat} : ∀ {a_ : Nat} {l_ : List Nat}, a_ ≤ l_.length → (iap x_ a_ l_).length = l_.length + 1
  | 0, l_, _ => rfl
  | a_ + 1, [], h_ => absurd h_ (by simp)
  | a_ + 1, y_ :: l_, h_ => by
    have h_ : a_ + 1 ≤ l_.length + 1 := h_
    show (iap x_ a_ l_).length + 1 = l_.length + 1 + 1
    rw [iap_l (by omega)]
theorem iap_g {x_ : Nat} : ∀ (a_ : Nat) (l_ : List Nat) (j_ : Nat), a_ ≤ l_.length → (iap x_ a_ l_)[j_]? = if j_ < a_ then l_[j_]? else if j_ = a_ then some x_ else l_[j_ - 1]?
  | 0, l_, 0, _ => by
    rw [if_neg (by omega), if_pos rfl]
    rfl
  | 0, l_, j_ + 1, _ => by
    rw [if_neg (by omega), if_neg (by omega)]
    rfl
  | a_ + 1, [], _, h_ => absurd h_ (by simp)
  | a_ + 1, y_ :: l_, 0, _ => by
    rw [if_pos (by omega)]
    rfl
  | a_ + 1, y_ :: l_, j_ + 1, h_ => by
    have h_ : a_ + 1 ≤ l_.length + 1 := h_
    show (iap x_ a_ l_)[j_]? = _
    rw [iap_g a_ l_ j_ (by omega)]
    by_cases c_ : j_ < a_
    · rw [if_pos c_, if_pos (show j_ + 1 < a_ + 1 by omega)]
      rfl
    · rw [if_neg c_, if_neg (show ¬ j_ + 1 < a_ + 1 by omega)]
      by_cases e_ : j_ = a_
      · rw [if_pos e_, if_pos (show j_ + 1 = a_ + 1 by omega)]
      · rw [if_neg e_, if_neg (show ¬ j_ + 1 = a_ + 1 by omega)]
        obtain ⟨k_, rfl⟩ : ∃ k_, j_ = k_ + 1 := ⟨j_ - 1, by omega⟩
        rfl
/-- put_ where it_ belongs, it_ is_ put_ in -/
theorem iap_i {x_ : Nat} : ∀ {a_ : Nat} {l_ : List Nat}, a_ ≤ l_.length → (∀ j_ z_, j_ < a_ → l_[j_]? = some z_ → z_ < x_) → (∀ j_ z_, a_ ≤ j_ → l_[j_]? = some z_ → x_ < z_) → iap x_ a_ l_ = ins x_ l_
  | 0, [], _, _, _ => rfl
  | 0, y_ :: l_, _, _, h2_ => by
    have q_ := h2_ 0 y_ (Nat.le_refl _) rfl
    rw [ins_c, if_pos q_]
    rfl
  | a_ + 1, [], h_, _, _ => absurd h_ (by simp)
  | a_ + 1, y_ :: l_, h_, h1_, h2_ => by
    have h_ : a_ + 1 ≤ l_.length + 1 := h_
    have q_ := h1_ 0 y_ (by omega) rfl
    rw [ins_c, if_neg (by omega), if_neg (by omega)]
    show y_ :: iap x_ a_ l_ = y_ :: ins x_ l_
    rw [iap_i (by omega) (fun j_ z_ hj_ e_ => h1_ (j_ + 1) z_ (by omega) e_) (fun j_ z_ hj_ e_ => h2_ (j_ + 1) z_ (by omega) e_)]
theorem ins_o {x_ : Nat} : ∀ {l_ : List Nat}, ris l_ → x_ ∈ l_ → ins x_ l_ = l_ := fun h_ m_ => ris_u (ins_r h_) h_ (fun z_ => by
  rw [ins_m]
  constructor
  · rintro (e_ | e_)
    · rw [e_]
      exact m_
    · exact e_
  · exact Or.inr)
/-! cuts -/
/-- one_ step of_ the_ cuts: place k_ of_ cut_ i_ -/
def ctst (inn_ : Nat → Bool) (cl_ ch_ : Nat → Nat) (L_ : List (List Nat)) (i_ k_ : Nat) : List (List Nat) :=
  match L_[i_]? with
  | none => L_
  | some c_ =>
    match c_[k_]? with
    | none => L_
    | some x_ => if inn_ x_ = true ∧ (ins (cl_ x_) (ins (ch_ x_) (c_.filter (fun y_ => y_ != x_)))).length ≤ 3 ∧ ¬ ins (cl_ x_) (ins (ch_ x_) (c_.filter (fun y_ => y_ != x_))) ∈ L_ then L_ ++ [ins (cl_ x_) (ins (ch_ x_) (c_.filter (fun y_ => y_ != x_)))] else L_
/-- the_ cuts of_ n_ after m_ steps -/
def crn (inn_ : Nat → Bool) (cl_ ch_ : Nat → Nat) (n_ : Nat) : Nat → List (List Nat)
  | 0 => [ins (cl_ n_) [ch_ n_]]
  | m_ + 1 => ctst inn_ cl_ ch_ (crn inn_ cl_ ch_ n_ m_) (m_ / 3) (m_ % 3)
end
/-! 99.ztZ8 -/
section
/-! the mapper: members with their meaning; written by wip/p55/gen/vg -/

/-! members and cuts of_ the_ class -/
theorem ris_lt : ∀ {l_ : List Nat} {i_ j_ a_ b_ : Nat}, ris l_ → i_ < j_ → l_[i_]? = some a_ → l_[j_]? = some b_ → a_ < b_
  | [], i_, j_, a_, b_, _, _, h_, _ => by
    have h_ : (none : Option Nat) = some a_ := h_
    cases h_
  | y_ :: l_, 0, j_ + 1, a_, b_, h_, _, e_, f_ => by
    have e_ : some y_ = some a_ := e_
    have f_ : l_[j_]? = some b_ := f_
    cases e_
    exact h_.1 b_ (List.mem_of_getElem? f_)
  | y_ :: l_, i_ + 1, j_ + 1, a_, b_, h_, g_, e_, f_ => ris_lt (l_ := l_) h_.2 (by omega) e_ f_
  | y_ :: l_, i_, 0, a_, b_, _, g_, _, _ => absurd g_ (Nat.not_lt_zero _)
def mbl (ms_ : List Nat) (S_ : sm_S) : Prop := S_.1 6 0 13 = (ms_.length : Int) ∧ ∀ j_ x_ : Nat, ms_[j_]? = some x_ → S_.2.2.1 68 0 j_ = (x_ : Int)
def cva (c_ : List Nat) (k_ : Nat) : Int :=
  match c_[k_]? with
  | none => -1
  | some x_ => (x_ : Int)
def cbl (L_ : List (List Nat)) (S_ : sm_S) : Prop := S_.1 6 0 11 = (L_.length : Int) ∧ ∀ (i_ : Nat) (c_ : List Nat), L_[i_]? = some c_ → ((2 ≤ c_.length ∧ c_.length ≤ 3) ∧ ris c_) ∧ ∀ k_, k_ < 3 → S_.2.2.1 65 0 (3 * i_ + k_) = cva c_ k_
theorem cva_e {c_ e_ : List Nat} (hc_ : 2 ≤ c_.length ∧ c_.length ≤ 3) (he_ : 2 ≤ e_.length ∧ e_.length ≤ 3) (h_ : ∀ k_, k_ < 3 → cva c_ k_ = cva e_ k_) : c_ = e_ := by
  rcases c_ with _ | ⟨a_, _ | ⟨b_, _ | ⟨d_, _ | ⟨f_, c_⟩⟩⟩⟩
  all_goals first | (exfalso; simp at hc_; done) | skip
  all_goals rcases e_ with _ | ⟨a2_, _ | ⟨b2_, _ | ⟨d2_, _ | ⟨f2_, e_⟩⟩⟩⟩
  all_goals first | (exfalso; simp at he_; done) | skip
  · have h0_ : (a_ : Int) = a2_ := h_ 0 (by decide)
    have h1_ : (b_ : Int) = b2_ := h_ 1 (by decide)
    rw [show a_ = a2_ by omega, show b_ = b2_ by omega]
  · have h2_ : (-1 : Int) = d2_ := h_ 2 (by decide)
    exfalso
    omega
  · have h2_ : (d_ : Int) = -1 := h_ 2 (by decide)
    exfalso
    omega
  · have h0_ : (a_ : Int) = a2_ := h_ 0 (by decide)
    have h1_ : (b_ : Int) = b2_ := h_ 1 (by decide)
    have h2_ : (d_ : Int) = d2_ := h_ 2 (by decide)
    rw [show a_ = a2_ by omega, show b_ = b2_ by omega, show d_ = d2_ by omega]
theorem mbl_i {ms_ : List Nat} {x_ a_ : Nat} {S_ S'_ : sm_S} (h_ : mbl ms_ S_) (hr_ : ris ms_) (ha_ : a_ ≤ ms_.length) (h1_ : ∀ j_ z_, j_ < a_ → ms_[j_]? = some z_ → z_ < x_) (h2_ : ∀ j_ z_, a_ ≤ j_ → ms_[j_]? = some z_ → x_ < z_) (e1_ : S'_.1 6 0 13 = S_.1 6 0 13 + 1) (e2_ : ∀ j_ z_ : Nat, ms_[j_]? = some z_ → (j_ < a_ → S'_.2.2.1 68 0 j_ = (z_ : Int)) ∧ (a_ ≤ j_ → S'_.2.2.1 68 0 (j_ + 1) = (z_ : Int))) (e3_ : S'_.2.2.1 68 0 a_ = (x_ : Int)) : mbl (ins x_ ms_) S'_ := by
  rw [← iap_i ha_ h1_ h2_]
  refine ⟨?_, fun j_ z_ q_ => ?_⟩
  · rw [iap_l ha_, e1_, h_.1]
    omega
  · rw [iap_g a_ ms_ j_ ha_] at q_
    by_cases c_ : j_ < a_
    · rw [if_pos c_] at q_
      exact (e2_ j_ z_ q_).1 c_
    · rw [if_neg c_] at q_
      by_cases e_ : j_ = a_
      · rw [if_pos e_] at q_
        cases q_
        rw [e_]
        exact e3_
      · rw [if_neg e_] at q_
        have w_ := (e2_ (j_ - 1) z_ q_).2 (by omega)
        rw [show j_ - 1 + 1 = j_ by omega] at w_
        exact w_

/-! Mapper.addMember -/
def vw_101n : sx_Wl := ([(6, 13)], [68], [])
def vq_101n (a1_ : Int) (P_ : Int → Prop) (ms_ : List Nat) (S0_ : sm_S) (u_ : Option sm_V) (S1_ : sm_S) : Prop := u_ = none ∧ gi S1_ ∧ ai_fr (sx_W vw_101n) S0_ S1_ ∧ (S0_.1 6 0 13 ≤ S1_.1 6 0 13 ∧ S1_.1 6 0 13 ≤ S0_.1 6 0 13 + 1 ∧ mms P_ S1_ (S1_.1 6 0 13) (S1_.1 6 0 13) ∧ imq (a1_ ≠ -1) (1 ≤ S1_.1 6 0 13) ∧ imq (a1_ ≠ -1 ∧ S0_.1 6 0 13 = 0) (S1_.2.2.1 68 0 0 = a1_) ∧ imq (a1_ ≠ -1 ∧ S0_.1 6 0 13 = 1 ∧ S0_.2.2.1 68 0 0 ≠ a1_) (S1_.1 6 0 13 = 2) ∧ mbl (if a1_ = -1 then ms_ else ins a1_.toNat ms_) S1_)
set_option maxHeartbeats 400000 in
theorem vl_101n {sc_ : Nat × (Nat → Int)} (a1_ : Int) (P_ : Int → Prop) (ms_ : List Nat) (S0_ : sm_S) (hmb_ : mbl ms_ S0_ ∧ ris ms_) (h1_ : -1 ≤ a1_ ∧ a1_ ≤ 1012) (h3_ : S0_.1 6 0 13 ≤ 3) (hms_ : mms P_ S0_ (S0_.1 6 0 13) (S0_.1 6 0 13)) (hp_ : a1_ ≠ -1 → P_ a1_) : ∀ nn_ : Nat, (∀ (a9_ : Int) (k_ : Int) (S_ : sm_S), gi S_ → ai_fr (sx_W vw_101n) S0_ S_ → ((0 ≤ k_ ∧ k_ ≤ S0_.1 6 0 13 ∧ a9_ = S0_.1 6 0 13 ∧ a1_ ≠ -1) ∧ (S_ = S0_) ∧ (∀ j_ : Nat, (j_ : Int) < k_ → S0_.2.2.1 68 0 j_ ≠ a1_) ∧ True) → ((100 - k_).toNat) < nn_ → sm_T (mt_P sc_) 0 101 (13, [some (.inr (.inr (some (6, 0)))), some (.inl a1_), some (.inl a9_), some (.inl k_)], [], S_) (fun ro9_ => ∃ u_ S1_, ro9_ = (.inl u_, S1_, 0) ∧ vq_101n a1_ P_ ms_ S0_ u_ S1_)) ∧ (∀ (a9_ : Int) (S_ : sm_S), gi S_ → ai_fr (sx_W vw_101n) S0_ S_ → ((0 ≤ a9_ ∧ a9_ ≤ S0_.1 6 0 13 ∧ S_.1 6 0 13 = S0_.1 6 0 13 ∧ a1_ ≠ -1) ∧ (mms P_ S_ (S0_.1 6 0 13) a9_) ∧ (∀ j_ : Nat, (j_ : Int) < S0_.1 6 0 13 → S0_.2.2.1 68 0 j_ ≠ a1_) ∧ (∀ (j_ x_ : Nat), ms_[j_]? = some x_ → ((j_ : Int) < a9_ → S_.2.2.1 68 0 j_ = (x_ : Int)) ∧ (a9_ ≤ (j_ : Int) → S_.2.2.1 68 0 (j_ + 1) = (x_ : Int) ∧ a1_ < (x_ : Int))) ∧ True) → ((10 + a9_).toNat) < nn_ → sm_T (mt_P sc_) 0 101 (38, [some (.inr (.inr (some (6, 0)))), some (.inl a1_), some (.inl a9_), none], [], S_) (fun ro9_ => ∃ u_ S1_, ro9_ = (.inl u_, S1_, 0) ∧ vq_101n a1_ P_ ms_ S0_ u_ S1_)) := by
  intro nn_
  induction nn_ with
  | zero => exact ⟨fun _ _ _ _ _ _ h_ => absurd h_ (Nat.not_lt_zero _), fun _ _ _ _ _ h_ => absurd h_ (Nat.not_lt_zero _)⟩
  | succ nn_ ih_ =>
    refine ⟨?_, ?_⟩
    · rintro a9_ k_ S_ hI_ hF_ ⟨h0_, hS_, hj0_, -⟩ hm_
      have cm_ : 0 ≤ S_.1 6 0 13 ∧ S_.1 6 0 13 ≤ 4 := hI_.1 6 0 13 rfl
      have es_ : S_.1 6 0 13 = S0_.1 6 0 13 := by rw [hS_]
      have bx1_ : 0 ≤ S_.1 6 0 13 ∧ S_.1 6 0 13 ≤ 4 := hI_.1 6 0 13 rfl
      refine sm_T_go 3 (c1 := (18, [some (.inr (.inr (some (6, 0)))), some (.inl a1_), some (.inl a9_), some (.inl k_)], [.inl (S_.1 6 0 13), .inl k_], S_)) rfl ?_
      refine sm_T_br (a := 3) (z := 20) rfl (fun cx2_ => ?_) (fun cx2_ => ?_)
      · have cx2_ : (S_.1 6 0 13) ≤ k_ := of_decide_eq_true cx2_
        refine sm_T_go 0 (c1 := (38, [some (.inr (.inr (some (6, 0)))), some (.inl a1_), some (.inl a9_), some (.inl k_)], [], S_)) rfl ?_
        refine sm_T_wk [some (.inr (.inr (some (6, 0)))), some (.inl a1_), some (.inl a9_), none] (by exact ⟨rfl, rfl, rfl, trivial⟩) ?_
        refine ih_.2 a9_ S_ hI_ hF_ ⟨?_, ?_, ?_, ?_, trivial⟩ ?_
        · (rw [hS_]; omega)
        · (rw [hS_]; rw [show a9_ = S0_.1 6 0 13 by omega]; exact hms_)
        · (intro j_ hj_; exact hj0_ j_ (by omega))
        · rw [hS_]
          intro j_ x_ q9_
          have v9_ := hmb_.1.2 _ _ q9_
          have l9_ := (List.getElem?_eq_some_iff.mp q9_).1
          have ml9_ := hmb_.1.1
          exact ⟨fun _ => v9_, fun u9_ => by (exfalso; omega)⟩
        · omega
      · have cx2_ : ¬ ((S_.1 6 0 13) ≤ k_) := of_decide_eq_false cx2_
        refine sm_T_go 3 (c1 := (26, [some (.inr (.inr (some (6, 0)))), some (.inl a1_), some (.inl a9_), some (.inl k_)], [.inl k_, .inr (.inr (some (68, 0)))], S_)) rfl ?_
        refine sm_T_iald (n := 4) rfl rfl (by omega) (by omega) ?_
        have bx3_ : 0 ≤ S_.2.2.1 68 0 k_.toNat ∧ S_.2.2.1 68 0 k_.toNat ≤ 1012 := hI_.2 68 0 _
        refine sm_T_go 1 (c1 := (28, [some (.inr (.inr (some (6, 0)))), some (.inl a1_), some (.inl a9_), some (.inl k_)], [.inl a1_, .inl (S_.2.2.1 68 0 k_.toNat)], S_)) rfl ?_
        refine sm_T_br (a := 1) (z := 4) rfl (fun cx4_ => ?_) (fun cx4_ => ?_)
        · have cx4_ : (S_.2.2.1 68 0 k_.toNat) ≠ a1_ := of_decide_eq_true cx4_
          refine sm_T_inc (a := 3) (z := 1) (v := k_) (w := k_ + 1) rfl rfl (by omega) (by omega) (by omega) ?_ -- pc_ 32
          refine sm_T_go 1 (c1 := (13, [some (.inr (.inr (some (6, 0)))), some (.inl a1_), some (.inl a9_), some (.inl (k_ + 1))], [], S_)) rfl ?_
          refine ih_.1 a9_ (k_ + 1) S_ hI_ hF_ ⟨?_, ?_, ?_, trivial⟩ ?_
          · omega
          · exact hS_
          · intro j_ hj_
            by_cases y_ : (j_ : Int) = k_
            · rw [show j_ = k_.toNat by omega, ← hS_]; omega
            · exact hj0_ j_ (by omega)
          · omega
        · have cx4_ : ¬ ((S_.2.2.1 68 0 k_.toNat) ≠ a1_) := of_decide_eq_false cx4_
          refine sm_T_rv rfl ⟨_, _, rfl, rfl, hI_, hF_, ?_⟩
          rw [hS_] at *
          have q9_ : S0_.2.2.1 68 0 k_.toNat = a1_ := by omega
          exact ⟨by omega, by omega, hms_, fun _ => by omega, fun u_ => by (exfalso; omega), fun u_ => by (rw [show k_.toNat = 0 by omega] at q9_; exact absurd q9_ u_.2.2), by (rw [if_neg (by omega), ins_o hmb_.2]; exact hmb_.1; (have ml9_ := hmb_.1.1; obtain ⟨x9_, hx9_⟩ : ∃ x9_, ms_[k_.toNat]? = some x9_ := ⟨_, List.getElem?_eq_getElem (by omega)⟩; have v9_ := hmb_.1.2 _ _ hx9_; rw [show a1_.toNat = x9_ by omega]; exact List.mem_of_getElem? hx9_))⟩
    · rintro a9_ S_ hI_ hF_ ⟨h0_, hh_, hj1_, hmv_, -⟩ hm_
      have cm_ : 0 ≤ S_.1 6 0 13 ∧ S_.1 6 0 13 ≤ 4 := hI_.1 6 0 13 rfl
      refine sm_T_go 1 (c1 := (39, [some (.inr (.inr (some (6, 0)))), some (.inl a1_), some (.inl a9_), none], [.inl a9_], S_)) rfl ?_
      refine sm_T_b0 (a := 5) (z := 35) rfl (fun cx1_ => ?_) (fun cx1_ => ?_)
      · have cx1_ : a9_ ≤ 0 := of_decide_eq_true cx1_
        refine sm_T_go 4 (c1 := (80, [some (.inr (.inr (some (6, 0)))), some (.inl a1_), some (.inl a9_), none], [.inl a1_, .inl a9_, .inr (.inr (some (68, 0)))], S_)) rfl ?_
        refine sm_T_iast (n := 4) rfl rfl (by omega) (by omega) ?_
        have hIx2_ : gi (sm_aI S_ 68 0 a9_.toNat a1_) := gi_aI hI_ (show 0 ≤ a1_ ∧ a1_ ≤ 1012 from ⟨by omega, by omega⟩)
        have hFx3_ : ai_fr (sx_W vw_101n) S0_ (sm_aI S_ 68 0 a9_.toNat a1_) := ai_fr_tr hF_ (ai_fr_aI rfl)
        have bx4_ : 0 ≤ S_.1 6 0 13 ∧ S_.1 6 0 13 ≤ 4 := hI_.1 6 0 13 rfl
        refine sm_T_go 4 (c1 := (87, [some (.inr (.inr (some (6, 0)))), some (.inl a1_), some (.inl a9_), none], [.inl 1, .inl (S_.1 6 0 13), .inr (.inr (some (6, 0)))], sm_aI S_ 68 0 a9_.toNat a1_)) rfl ?_
        refine sm_T_bin (w := (S_.1 6 0 13) + 1) rfl (bi_add (by omega) (by omega) (by omega)) ?_ -- pc_ 87
        have hIx5_ : gi (sm_pI (sm_aI S_ 68 0 a9_.toNat a1_) 6 0 13 ((S_.1 6 0 13) + 1)) := gi_pI hIx2_ (show 0 ≤ (S_.1 6 0 13) + 1 ∧ (S_.1 6 0 13) + 1 ≤ 4 from ⟨by omega, by omega⟩)
        have hFx6_ : ai_fr (sx_W vw_101n) S0_ (sm_pI (sm_aI S_ 68 0 a9_.toNat a1_) 6 0 13 ((S_.1 6 0 13) + 1)) := ai_fr_tr hFx3_ (ai_fr_pI rfl)
        refine sm_T_go 1 (c1 := (91, [some (.inr (.inr (some (6, 0)))), some (.inl a1_), some (.inl a9_), none], [], sm_pI (sm_aI S_ 68 0 a9_.toNat a1_) 6 0 13 ((S_.1 6 0 13) + 1))) rfl ?_
        refine sm_T_rv rfl ⟨_, _, rfl, rfl, hIx5_, hFx6_, ?_⟩
        simp only [rf_eq]
        refine ⟨by omega, by omega, fun i_ hi_ hn_ => ?_, fun _ => by omega, fun u_ => ?_, fun u_ => by omega, ?_⟩
        · rw [rd_fa, rd_eq]; by_cases y_ : i_ = a9_.toNat; (rw [if_pos y_]; exact hp_ (by omega)); (rw [if_neg y_]; exact hh_ i_ (by omega) (by omega))
        · rw [rd_fa, rd_eq, if_pos (by omega)]
        · rw [if_neg (by omega)]
          have ml9_ := hmb_.1.1
          refine mbl_i (a_ := a9_.toNat) hmb_.1 hmb_.2 (by omega) (fun j_ z_ q1_ q2_ => ?_) (fun j_ z_ q1_ q2_ => ?_) (by rw [rf_eq]; omega) (fun j_ z_ q2_ => ⟨fun q1_ => ?_, fun q1_ => ?_⟩) (by rw [rd_fa, rd_eq, if_pos rfl]; omega)
          · obtain ⟨y9_, hy9_⟩ : ∃ y9_, ms_[(a9_ - 1).toNat]? = some y9_ := ⟨_, List.getElem?_eq_getElem (by omega)⟩
            have w9_ := (hmv_ _ _ hy9_).1 (by omega)
            have v9_ := hmb_.1.2 _ _ hy9_
            have n9_ := hj1_ (a9_ - 1).toNat (by omega)
            by_cases e9_ : j_ = (a9_ - 1).toNat
            · rw [e9_, hy9_] at q2_; cases q2_; omega
            · have r9_ := ris_lt hmb_.2 (show j_ < (a9_ - 1).toNat by omega) q2_ hy9_; omega
          · have w9_ := ((hmv_ _ _ q2_).2 (by omega)).2; omega
          · rw [rd_fa, rd_eq, if_neg (by omega)]; exact (hmv_ _ _ q2_).1 (by omega)
          · rw [rd_fa, rd_eq, if_neg (by omega)]; exact ((hmv_ _ _ q2_).2 (by omega)).1
      · have cx1_ : ¬ (a9_ ≤ 0) := of_decide_eq_false cx1_
        refine sm_T_go 4 (c1 := (48, [some (.inr (.inr (some (6, 0)))), some (.inl a1_), some (.inl a9_), none], [.inl 1, .inl a9_, .inr (.inr (some (68, 0)))], S_)) rfl ?_
        refine sm_T_bin (w := a9_ - 1) rfl (bi_sub (by omega) (by omega) (by omega)) ?_ -- pc_ 48
        refine sm_T_iald (n := 4) rfl rfl (by omega) (by omega) ?_
        have bx7_ : 0 ≤ S_.2.2.1 68 0 (a9_ - 1).toNat ∧ S_.2.2.1 68 0 (a9_ - 1).toNat ≤ 1012 := hI_.2 68 0 _
        refine sm_T_go 1 (c1 := (51, [some (.inr (.inr (some (6, 0)))), some (.inl a1_), some (.inl a9_), none], [.inl a1_, .inl (S_.2.2.1 68 0 (a9_ - 1).toNat)], S_)) rfl ?_
        refine sm_T_br (a := 5) (z := 23) rfl (fun cx8_ => ?_) (fun cx8_ => ?_)
        · have cx8_ : (S_.2.2.1 68 0 (a9_ - 1).toNat) ≤ a1_ := of_decide_eq_true cx8_
          refine sm_T_go 4 (c1 := (80, [some (.inr (.inr (some (6, 0)))), some (.inl a1_), some (.inl a9_), none], [.inl a1_, .inl a9_, .inr (.inr (some (68, 0)))], S_)) rfl ?_
          refine sm_T_iast (n := 4) rfl rfl (by omega) (by omega) ?_
          have hIx9_ : gi (sm_aI S_ 68 0 a9_.toNat a1_) := gi_aI hI_ (show 0 ≤ a1_ ∧ a1_ ≤ 1012 from ⟨by omega, by omega⟩)
          have hFx10_ : ai_fr (sx_W vw_101n) S0_ (sm_aI S_ 68 0 a9_.toNat a1_) := ai_fr_tr hF_ (ai_fr_aI rfl)
          have bx11_ : 0 ≤ S_.1 6 0 13 ∧ S_.1 6 0 13 ≤ 4 := hI_.1 6 0 13 rfl
          refine sm_T_go 4 (c1 := (87, [some (.inr (.inr (some (6, 0)))), some (.inl a1_), some (.inl a9_), none], [.inl 1, .inl (S_.1 6 0 13), .inr (.inr (some (6, 0)))], sm_aI S_ 68 0 a9_.toNat a1_)) rfl ?_
          refine sm_T_bin (w := (S_.1 6 0 13) + 1) rfl (bi_add (by omega) (by omega) (by omega)) ?_ -- pc_ 87
          have hIx12_ : gi (sm_pI (sm_aI S_ 68 0 a9_.toNat a1_) 6 0 13 ((S_.1 6 0 13) + 1)) := gi_pI hIx9_ (show 0 ≤ (S_.1 6 0 13) + 1 ∧ (S_.1 6 0 13) + 1 ≤ 4 from ⟨by omega, by omega⟩)
          have hFx13_ : ai_fr (sx_W vw_101n) S0_ (sm_pI (sm_aI S_ 68 0 a9_.toNat a1_) 6 0 13 ((S_.1 6 0 13) + 1)) := ai_fr_tr hFx10_ (ai_fr_pI rfl)
          refine sm_T_go 1 (c1 := (91, [some (.inr (.inr (some (6, 0)))), some (.inl a1_), some (.inl a9_), none], [], sm_pI (sm_aI S_ 68 0 a9_.toNat a1_) 6 0 13 ((S_.1 6 0 13) + 1))) rfl ?_
          refine sm_T_rv rfl ⟨_, _, rfl, rfl, hIx12_, hFx13_, ?_⟩
          simp only [rf_eq]
          refine ⟨by omega, by omega, fun i_ hi_ hn_ => ?_, fun _ => by omega, fun u_ => ?_, fun u_ => by omega, ?_⟩
          · rw [rd_fa, rd_eq]; by_cases y_ : i_ = a9_.toNat; (rw [if_pos y_]; exact hp_ (by omega)); (rw [if_neg y_]; exact hh_ i_ (by omega) (by omega))
          · rw [rd_fa, rd_eq, if_pos (by omega)]
          · rw [if_neg (by omega)]
            have ml9_ := hmb_.1.1
            refine mbl_i (a_ := a9_.toNat) hmb_.1 hmb_.2 (by omega) (fun j_ z_ q1_ q2_ => ?_) (fun j_ z_ q1_ q2_ => ?_) (by rw [rf_eq]; omega) (fun j_ z_ q2_ => ⟨fun q1_ => ?_, fun q1_ => ?_⟩) (by rw [rd_fa, rd_eq, if_pos rfl]; omega)
            · obtain ⟨y9_, hy9_⟩ : ∃ y9_, ms_[(a9_ - 1).toNat]? = some y9_ := ⟨_, List.getElem?_eq_getElem (by omega)⟩
              have w9_ := (hmv_ _ _ hy9_).1 (by omega)
              have v9_ := hmb_.1.2 _ _ hy9_
              have n9_ := hj1_ (a9_ - 1).toNat (by omega)
              by_cases e9_ : j_ = (a9_ - 1).toNat
              · rw [e9_, hy9_] at q2_; cases q2_; omega
              · have r9_ := ris_lt hmb_.2 (show j_ < (a9_ - 1).toNat by omega) q2_ hy9_; omega
            · have w9_ := ((hmv_ _ _ q2_).2 (by omega)).2; omega
            · rw [rd_fa, rd_eq, if_neg (by omega)]; exact (hmv_ _ _ q2_).1 (by omega)
            · rw [rd_fa, rd_eq, if_neg (by omega)]; exact ((hmv_ _ _ q2_).2 (by omega)).1
        · have cx8_ : ¬ ((S_.2.2.1 68 0 (a9_ - 1).toNat) ≤ a1_) := of_decide_eq_false cx8_
          refine sm_T_go 7 (c1 := (65, [some (.inr (.inr (some (6, 0)))), some (.inl a1_), some (.inl a9_), none], [.inl 1, .inl a9_, .inr (.inr (some (68, 0))), .inl a9_, .inr (.inr (some (68, 0)))], S_)) rfl ?_
          refine sm_T_bin (w := a9_ - 1) rfl (bi_sub (by omega) (by omega) (by omega)) ?_ -- pc_ 65
          refine sm_T_iald (n := 4) rfl rfl (by omega) (by omega) ?_
          refine sm_T_iast (n := 4) rfl rfl (by omega) (by omega) ?_
          have hIx14_ : gi (sm_aI S_ 68 0 a9_.toNat (S_.2.2.1 68 0 (a9_ - 1).toNat)) := gi_aI hI_ (show 0 ≤ (S_.2.2.1 68 0 (a9_ - 1).toNat) ∧ (S_.2.2.1 68 0 (a9_ - 1).toNat) ≤ 1012 from ⟨by omega, by omega⟩)
          have hFx15_ : ai_fr (sx_W vw_101n) S0_ (sm_aI S_ 68 0 a9_.toNat (S_.2.2.1 68 0 (a9_ - 1).toNat)) := ai_fr_tr hF_ (ai_fr_aI rfl)
          refine sm_T_inc (a := 2) (z := (-1)) (v := a9_) (w := a9_ - 1) rfl rfl (by omega) (by omega) (by omega) ?_ -- pc_ 68
          refine sm_T_go 1 (c1 := (38, [some (.inr (.inr (some (6, 0)))), some (.inl a1_), some (.inl (a9_ - 1)), none], [], sm_aI S_ 68 0 a9_.toNat (S_.2.2.1 68 0 (a9_ - 1).toNat))) rfl ?_
          refine ih_.2 (a9_ - 1) (sm_aI S_ 68 0 a9_.toNat (S_.2.2.1 68 0 (a9_ - 1).toNat)) hIx14_ hFx15_ ⟨?_, ?_, ?_, ?_, trivial⟩ ?_
          · (simp only [rd_af]; omega)
          · exact mms_mv hh_ (by omega)
          · exact hj1_
          · intro j_ x_ q9_
            have w9_ := hmv_ j_ x_ q9_
            refine ⟨fun u9_ => ?_, fun u9_ => ?_⟩
            · rw [rd_eq, if_neg (by omega)]; exact w9_.1 (by omega)
            · by_cases z9_ : (j_ : Int) = a9_ - 1
              · have v9_ := w9_.1 (by omega)
                rw [show (a9_ - 1).toNat = j_ by omega] at *
                rw [rd_eq, if_pos (by omega)]
                exact ⟨v9_, by omega⟩
              · have v9_ := w9_.2 (by omega)
                rw [rd_eq, if_neg (by omega)]
                exact v9_
          · omega
set_option maxHeartbeats 400000 in
theorem vc_101n {sc_ : Nat × (Nat → Int)} (a1_ : Int) (P_ : Int → Prop) (ms_ : List Nat) (S0_ : sm_S) (hI_ : gi S0_) (hmb_ : mbl ms_ S0_ ∧ ris ms_) (h1_ : -1 ≤ a1_ ∧ a1_ ≤ 1012) (h3_ : S0_.1 6 0 13 ≤ 3) (hms_ : mms P_ S0_ (S0_.1 6 0 13) (S0_.1 6 0 13)) (hp_ : a1_ ≠ -1 → P_ a1_) : sm_T (mt_P sc_) 0 101 (0, [some (.inr (.inr (some (6, 0)))), some (.inl a1_), none, none], [], S0_) (fun ro9_ => ∃ u_ S1_, ro9_ = (.inl u_, S1_, 0) ∧ vq_101n a1_ P_ ms_ S0_ u_ S1_) := by
  have hF_ : ai_fr (sx_W vw_101n) S0_ S0_ := ai_fr_rf
  have cm0_ : 0 ≤ S0_.1 6 0 13 ∧ S0_.1 6 0 13 ≤ 4 := hI_.1 6 0 13 rfl
  refine sm_T_go 2 (c1 := (2, [some (.inr (.inr (some (6, 0)))), some (.inl a1_), none, none], [.inl (-1), .inl a1_], S0_)) rfl ?_
  refine sm_T_br (a := 1) (z := 4) rfl (fun cx1_ => ?_) (fun cx1_ => ?_)
  · have cx1_ : a1_ ≠ (-1) := of_decide_eq_true cx1_
    have bx2_ : 0 ≤ S0_.1 6 0 13 ∧ S0_.1 6 0 13 ≤ 4 := hI_.1 6 0 13 rfl
    refine sm_T_go 5 (c1 := (13, [some (.inr (.inr (some (6, 0)))), some (.inl a1_), some (.inl (S0_.1 6 0 13)), some (.inl 0)], [], S0_)) rfl ?_
    refine (vl_101n a1_ P_ ms_ S0_ hmb_ h1_ h3_ hms_ hp_ _).1 (S0_.1 6 0 13) 0 S0_ hI_ hF_ ⟨?_, ?_, ?_, trivial⟩ (Nat.lt_succ_self _)
    · omega
    · rfl
    · (intro j_ hj_; exfalso; omega)
  · have cx1_ : ¬ (a1_ ≠ (-1)) := of_decide_eq_false cx1_
    refine sm_T_rv rfl ⟨_, _, rfl, rfl, hI_, hF_, ?_⟩
    exact ⟨by omega, by omega, hms_, fun u_ => absurd (by omega) u_, fun u_ => absurd (by omega) u_.1, fun u_ => absurd (by omega) u_.1, by (rw [if_pos (by omega)]; exact hmb_.1)⟩
end
/-! 99.ztZ9 -/
section
/-! the mapper: cuts kept, with their meaning; written by wip/p55/gen/vg -/

/-! a_ cut_ kept -/
theorem cva_m {ms_ : List Nat} {S_ : sm_S} (h_ : mbl ms_ S_) {k_ : Nat} (hk_ : k_ < ms_.length) : cva ms_ k_ = S_.2.2.1 68 0 k_ := by
  obtain ⟨x_, hx_⟩ : ∃ x_ : Nat, ms_[k_]? = some x_ := ⟨_, List.getElem?_eq_getElem hk_⟩
  have v_ := h_.2 _ _ hx_
  unfold cva
  rw [hx_]
  exact v_.symm
theorem cva_n {ms_ : List Nat} {k_ : Nat} (hk_ : ms_.length ≤ k_) : cva ms_ k_ = -1 := by
  unfold cva
  rw [List.getElem?_eq_none hk_]

/-! Mapper.addCut -/
def vw_102n : sx_Wl := ([(6, 11)], [65], [])
def vq_102n (P_ : Int → Prop) (ms_ : List Nat) (L_ : List (List Nat)) (S0_ : sm_S) (u_ : Option sm_V) (S1_ : sm_S) : Prop := u_ = none ∧ gi S1_ ∧ ai_fr (sx_W vw_102n) S0_ S1_ ∧ (mcs P_ S1_ ∧ S0_.1 6 0 11 ≤ S1_.1 6 0 11 ∧ cbl (if ms_.length ≤ 3 ∧ ¬ ms_ ∈ L_ then L_ ++ [ms_] else L_) S1_)
set_option maxHeartbeats 400000 in
set_option maxRecDepth 20000 in
theorem vl_102n {sc_ : Nat × (Nat → Int)} (P_ : Int → Prop) (ms_ : List Nat) (L_ : List (List Nat)) (S0_ : sm_S) (hmb_ : mbl ms_ S0_) (hrs_ : ris ms_) (hcb_ : cbl L_ S0_ ∧ L_.length ≤ 1000) (h3_ : 2 ≤ S0_.1 6 0 13) (hms_ : mms P_ S0_ (S0_.1 6 0 13) (S0_.1 6 0 13)) (hcs_ : mcs P_ S0_) : ∀ nn_ : Nat, (∀ (th9_ : Int) (k_ : Int) (S_ : sm_S), gi S_ → ai_fr (sx_W vw_102n) S0_ S_ → ((0 ≤ k_ ∧ k_ ≤ 1024 ∧ S0_.1 6 0 11 ≤ 1023 ∧ -1 ≤ th9_ ∧ th9_ ≤ 1012 ∧ S0_.1 6 0 13 ≤ 3) ∧ (S_ = S0_) ∧ (th9_ = -1 ∨ P_ th9_) ∧ (th9_ = cva ms_ 2) ∧ (∀ (i_ : Nat) (c_ : List Nat), (i_ : Int) < k_ → L_[i_]? = some c_ → c_ ≠ ms_) ∧ True) → ((3000 - k_).toNat) < nn_ → sm_T (mt_P sc_) 0 102 (40, [some (.inr (.inr (some (6, 0)))), some (.inl th9_), some (.inl k_)], [], S_) (fun ro9_ => ∃ u_ S1_, ro9_ = (.inl u_, S1_, 0) ∧ vq_102n P_ ms_ L_ S0_ u_ S1_)) := by
  intro nn_
  induction nn_ with
  | zero => exact fun _ _ _ _ _ _ h_ => absurd h_ (Nat.not_lt_zero _)
  | succ nn_ ih_ =>
    rintro th9_ k_ S_ hI_ hF_ ⟨h0_, hS_, ht_, hth_, hne_, -⟩ hm_
    have ck_ : 0 ≤ S_.1 6 0 11 ∧ S_.1 6 0 11 ≤ 1024 := hI_.1 6 0 11 rfl
    have cm_ : 0 ≤ S_.1 6 0 13 ∧ S_.1 6 0 13 ≤ 4 := hI_.1 6 0 13 rfl
    have es_ : S_.1 6 0 11 = S0_.1 6 0 11 := by rw [hS_]
    have bx1_ : 0 ≤ S_.1 6 0 11 ∧ S_.1 6 0 11 ≤ 1024 := hI_.1 6 0 11 rfl
    refine sm_T_go 3 (c1 := (45, [some (.inr (.inr (some (6, 0)))), some (.inl th9_), some (.inl k_)], [.inl (S_.1 6 0 11), .inl k_], S_)) rfl ?_
    refine sm_T_br (a := 3) (z := 60) rfl (fun cx2_ => ?_) (fun cx2_ => ?_)
    · have cx2_ : (S_.1 6 0 11) ≤ k_ := of_decide_eq_true cx2_
      refine sm_T_go 5 (c1 := (114, [some (.inr (.inr (some (6, 0)))), some (.inl th9_), some (.inl k_)], [.inl (S_.1 6 0 11), .inl 3, .inr (.inr (some (65, 0)))], S_)) rfl ?_
      refine sm_T_bin (w := 3 * (S_.1 6 0 11)) rfl (bi_mul (by omega) (by omega) (by omega)) ?_ -- pc_ 114
      refine sm_T_go 3 (c1 := (120, [some (.inr (.inr (some (6, 0)))), some (.inl th9_), some (.inl k_)], [.inl 0, .inr (.inr (some (68, 0))), .inl (3 * (S_.1 6 0 11)), .inr (.inr (some (65, 0)))], S_)) rfl ?_
      refine sm_T_iald (n := 4) rfl rfl (by omega) (by omega) ?_
      have bx3_ : 0 ≤ S_.2.2.1 68 0 (0 : Int).toNat ∧ S_.2.2.1 68 0 (0 : Int).toNat ≤ 1012 := hI_.2 68 0 _
      refine sm_T_iast (n := 3072) rfl rfl (by omega) (by omega) ?_
      have hIx4_ : gi (sm_aI S_ 65 0 (3 * (S_.1 6 0 11)).toNat (S_.2.2.1 68 0 (0 : Int).toNat)) := gi_aI hI_ (show (-1) ≤ (S_.2.2.1 68 0 (0 : Int).toNat) ∧ (S_.2.2.1 68 0 (0 : Int).toNat) ≤ 1012 from ⟨by omega, by omega⟩)
      have hFx5_ : ai_fr (sx_W vw_102n) S0_ (sm_aI S_ 65 0 (3 * (S_.1 6 0 11)).toNat (S_.2.2.1 68 0 (0 : Int).toNat)) := ai_fr_tr hF_ (ai_fr_aI rfl)
      refine sm_T_go 5 (c1 := (131, [some (.inr (.inr (some (6, 0)))), some (.inl th9_), some (.inl k_)], [.inl (S_.1 6 0 11), .inl 3, .inr (.inr (some (65, 0)))], sm_aI S_ 65 0 (3 * (S_.1 6 0 11)).toNat (S_.2.2.1 68 0 (0 : Int).toNat))) rfl ?_
      refine sm_T_bin (w := 3 * (S_.1 6 0 11)) rfl (bi_mul (by omega) (by omega) (by omega)) ?_ -- pc_ 131
      refine sm_T_go 1 (c1 := (133, [some (.inr (.inr (some (6, 0)))), some (.inl th9_), some (.inl k_)], [.inl 1, .inl (3 * (S_.1 6 0 11)), .inr (.inr (some (65, 0)))], sm_aI S_ 65 0 (3 * (S_.1 6 0 11)).toNat (S_.2.2.1 68 0 (0 : Int).toNat))) rfl ?_
      refine sm_T_bin (w := 3 * (S_.1 6 0 11) + 1) rfl (bi_add (by omega) (by omega) (by omega)) ?_ -- pc_ 133
      refine sm_T_go 3 (c1 := (139, [some (.inr (.inr (some (6, 0)))), some (.inl th9_), some (.inl k_)], [.inl 1, .inr (.inr (some (68, 0))), .inl (3 * (S_.1 6 0 11) + 1), .inr (.inr (some (65, 0)))], sm_aI S_ 65 0 (3 * (S_.1 6 0 11)).toNat (S_.2.2.1 68 0 (0 : Int).toNat))) rfl ?_
      refine sm_T_iald (n := 4) rfl rfl (by omega) (by omega) ?_
      have bx6_ : 0 ≤ S_.2.2.1 68 0 (1 : Int).toNat ∧ S_.2.2.1 68 0 (1 : Int).toNat ≤ 1012 := hI_.2 68 0 _
      refine sm_T_go 0 (c1 := (140, [some (.inr (.inr (some (6, 0)))), some (.inl th9_), some (.inl k_)], [.inl (S_.2.2.1 68 0 (1 : Int).toNat), .inl (3 * (S_.1 6 0 11) + 1), .inr (.inr (some (65, 0)))], sm_aI S_ 65 0 (3 * (S_.1 6 0 11)).toNat (S_.2.2.1 68 0 (0 : Int).toNat))) rfl ?_
      refine sm_T_iast (n := 3072) rfl rfl (by omega) (by omega) ?_
      have hIx7_ : gi (sm_aI (sm_aI S_ 65 0 (3 * (S_.1 6 0 11)).toNat (S_.2.2.1 68 0 (0 : Int).toNat)) 65 0 (3 * (S_.1 6 0 11) + 1).toNat (S_.2.2.1 68 0 (1 : Int).toNat)) := gi_aI hIx4_ (show (-1) ≤ (S_.2.2.1 68 0 (1 : Int).toNat) ∧ (S_.2.2.1 68 0 (1 : Int).toNat) ≤ 1012 from ⟨by omega, by omega⟩)
      have hFx8_ : ai_fr (sx_W vw_102n) S0_ (sm_aI (sm_aI S_ 65 0 (3 * (S_.1 6 0 11)).toNat (S_.2.2.1 68 0 (0 : Int).toNat)) 65 0 (3 * (S_.1 6 0 11) + 1).toNat (S_.2.2.1 68 0 (1 : Int).toNat)) := ai_fr_tr hFx5_ (ai_fr_aI rfl)
      refine sm_T_go 5 (c1 := (150, [some (.inr (.inr (some (6, 0)))), some (.inl th9_), some (.inl k_)], [.inl (S_.1 6 0 11), .inl 3, .inr (.inr (some (65, 0)))], sm_aI (sm_aI S_ 65 0 (3 * (S_.1 6 0 11)).toNat (S_.2.2.1 68 0 (0 : Int).toNat)) 65 0 (3 * (S_.1 6 0 11) + 1).toNat (S_.2.2.1 68 0 (1 : Int).toNat))) rfl ?_
      refine sm_T_bin (w := 3 * (S_.1 6 0 11)) rfl (bi_mul (by omega) (by omega) (by omega)) ?_ -- pc_ 150
      refine sm_T_go 1 (c1 := (152, [some (.inr (.inr (some (6, 0)))), some (.inl th9_), some (.inl k_)], [.inl 2, .inl (3 * (S_.1 6 0 11)), .inr (.inr (some (65, 0)))], sm_aI (sm_aI S_ 65 0 (3 * (S_.1 6 0 11)).toNat (S_.2.2.1 68 0 (0 : Int).toNat)) 65 0 (3 * (S_.1 6 0 11) + 1).toNat (S_.2.2.1 68 0 (1 : Int).toNat))) rfl ?_
      refine sm_T_bin (w := 3 * (S_.1 6 0 11) + 2) rfl (bi_add (by omega) (by omega) (by omega)) ?_ -- pc_ 152
      refine sm_T_go 1 (c1 := (154, [some (.inr (.inr (some (6, 0)))), some (.inl th9_), some (.inl k_)], [.inl th9_, .inl (3 * (S_.1 6 0 11) + 2), .inr (.inr (some (65, 0)))], sm_aI (sm_aI S_ 65 0 (3 * (S_.1 6 0 11)).toNat (S_.2.2.1 68 0 (0 : Int).toNat)) 65 0 (3 * (S_.1 6 0 11) + 1).toNat (S_.2.2.1 68 0 (1 : Int).toNat))) rfl ?_
      refine sm_T_iast (n := 3072) rfl rfl (by omega) (by omega) ?_
      have hIx9_ : gi (sm_aI (sm_aI (sm_aI S_ 65 0 (3 * (S_.1 6 0 11)).toNat (S_.2.2.1 68 0 (0 : Int).toNat)) 65 0 (3 * (S_.1 6 0 11) + 1).toNat (S_.2.2.1 68 0 (1 : Int).toNat)) 65 0 (3 * (S_.1 6 0 11) + 2).toNat th9_) := gi_aI hIx7_ (show (-1) ≤ th9_ ∧ th9_ ≤ 1012 from ⟨by omega, by omega⟩)
      have hFx10_ : ai_fr (sx_W vw_102n) S0_ (sm_aI (sm_aI (sm_aI S_ 65 0 (3 * (S_.1 6 0 11)).toNat (S_.2.2.1 68 0 (0 : Int).toNat)) 65 0 (3 * (S_.1 6 0 11) + 1).toNat (S_.2.2.1 68 0 (1 : Int).toNat)) 65 0 (3 * (S_.1 6 0 11) + 2).toNat th9_) := ai_fr_tr hFx8_ (ai_fr_aI rfl)
      refine sm_T_go 4 (c1 := (161, [some (.inr (.inr (some (6, 0)))), some (.inl th9_), some (.inl k_)], [.inl 1, .inl (S_.1 6 0 11), .inr (.inr (some (6, 0)))], sm_aI (sm_aI (sm_aI S_ 65 0 (3 * (S_.1 6 0 11)).toNat (S_.2.2.1 68 0 (0 : Int).toNat)) 65 0 (3 * (S_.1 6 0 11) + 1).toNat (S_.2.2.1 68 0 (1 : Int).toNat)) 65 0 (3 * (S_.1 6 0 11) + 2).toNat th9_)) rfl ?_
      refine sm_T_bin (w := (S_.1 6 0 11) + 1) rfl (bi_add (by omega) (by omega) (by omega)) ?_ -- pc_ 161
      have hIx11_ : gi (sm_pI (sm_aI (sm_aI (sm_aI S_ 65 0 (3 * (S_.1 6 0 11)).toNat (S_.2.2.1 68 0 (0 : Int).toNat)) 65 0 (3 * (S_.1 6 0 11) + 1).toNat (S_.2.2.1 68 0 (1 : Int).toNat)) 65 0 (3 * (S_.1 6 0 11) + 2).toNat th9_) 6 0 11 ((S_.1 6 0 11) + 1)) := gi_pI hIx9_ (show 0 ≤ (S_.1 6 0 11) + 1 ∧ (S_.1 6 0 11) + 1 ≤ 1024 from ⟨by omega, by omega⟩)
      have hFx12_ : ai_fr (sx_W vw_102n) S0_ (sm_pI (sm_aI (sm_aI (sm_aI S_ 65 0 (3 * (S_.1 6 0 11)).toNat (S_.2.2.1 68 0 (0 : Int).toNat)) 65 0 (3 * (S_.1 6 0 11) + 1).toNat (S_.2.2.1 68 0 (1 : Int).toNat)) 65 0 (3 * (S_.1 6 0 11) + 2).toNat th9_) 6 0 11 ((S_.1 6 0 11) + 1)) := ai_fr_tr hFx10_ (ai_fr_pI rfl)
      refine sm_T_go 1 (c1 := (165, [some (.inr (.inr (some (6, 0)))), some (.inl th9_), some (.inl k_)], [], sm_pI (sm_aI (sm_aI (sm_aI S_ 65 0 (3 * (S_.1 6 0 11)).toNat (S_.2.2.1 68 0 (0 : Int).toNat)) 65 0 (3 * (S_.1 6 0 11) + 1).toNat (S_.2.2.1 68 0 (1 : Int).toNat)) 65 0 (3 * (S_.1 6 0 11) + 2).toNat th9_) 6 0 11 ((S_.1 6 0 11) + 1))) rfl ?_
      refine sm_T_rv rfl ⟨_, _, rfl, rfl, hIx11_, hFx12_, ?_⟩
      rw [hS_]
      have m0_ := hms_ 0 (by omega) (by omega)
      have m1_ := hms_ 1 (by omega) (by omega)
      have R_ : ∀ i_, (sm_pI (sm_aI (sm_aI (sm_aI S0_ 65 0 (3 * S0_.1 6 0 11).toNat (S0_.2.2.1 68 0 (0 : Int).toNat)) 65 0 (3 * S0_.1 6 0 11 + 1).toNat (S0_.2.2.1 68 0 (1 : Int).toNat)) 65 0 (3 * S0_.1 6 0 11 + 2).toNat th9_) 6 0 11 (S0_.1 6 0 11 + 1)).2.2.1 65 0 i_ = if i_ = (3 * S0_.1 6 0 11 + 2).toNat then th9_ else if i_ = (3 * S0_.1 6 0 11 + 1).toNat then S0_.2.2.1 68 0 1 else if i_ = (3 * S0_.1 6 0 11).toNat then S0_.2.2.1 68 0 0 else S0_.2.2.1 65 0 i_ := fun i_ => by rw [rd_fa, rd_eq, rd_eq, rd_eq]; rfl
      have ml9_ := hmb_.1
      have cl9_ := hcb_.1.1
      refine ⟨fun c_ hc_ => ?_, by rw [rf_eq]; omega, ?_⟩
      · rw [rf_eq] at hc_
        rw [R_, R_, R_]
        by_cases y_ : (c_ : Int) = S0_.1 6 0 11
        · rw [if_neg (by omega), if_neg (by omega), if_pos (by omega), if_neg (by omega), if_pos (by omega), if_pos (by omega)]; exact ⟨m0_, m1_, ht_⟩
        · rw [if_neg (by omega), if_neg (by omega), if_neg (by omega), if_neg (by omega), if_neg (by omega), if_neg (by omega), if_neg (by omega), if_neg (by omega), if_neg (by omega)]; exact hcs_ c_ (by omega)
      · rw [if_pos ⟨by omega, fun z_ => by (obtain ⟨i9_, hi9_⟩ := List.getElem?_of_mem z_; exact hne_ i9_ ms_ (by (have l9_ := (List.getElem?_eq_some_iff.mp hi9_).1; omega)) hi9_ rfl)⟩]
        refine ⟨by (rw [rf_eq, List.length_append, List.length_singleton]; omega), fun i_ c_ q_ => ?_⟩
        by_cases z9_ : i_ < L_.length
        · rw [List.getElem?_append_left z9_] at q_
          have w9_ := hcb_.1.2 i_ c_ q_
          refine ⟨w9_.1, fun j_ hj_ => ?_⟩
          rw [R_, if_neg (by omega), if_neg (by omega), if_neg (by omega)]
          exact w9_.2 j_ hj_
        · rw [List.getElem?_append_right (by omega)] at q_
          have l9_ := (List.getElem?_eq_some_iff.mp q_).1
          have l9_ : i_ - L_.length < 1 := l9_
          have e9_ := List.mem_singleton.mp (List.mem_of_getElem? q_)
          rw [e9_]
          refine ⟨⟨by omega, hrs_⟩, fun j_ hj_ => ?_⟩
          have n0_ := cva_m hmb_ (k_ := 0) (by omega)
          have n1_ := cva_m hmb_ (k_ := 1) (by omega)
          rw [R_]
          have cs9_ : j_ = 0 ∨ j_ = 1 ∨ j_ = 2 := by omega
          rcases cs9_ with rfl | rfl | rfl
          · rw [if_neg (by omega), if_neg (by omega), if_pos (by omega)]; exact n0_.symm
          · rw [if_neg (by omega), if_pos (by omega)]; exact n1_.symm
          · rw [if_pos (by omega)]; exact hth_
    · have cx2_ : ¬ ((S_.1 6 0 11) ≤ k_) := of_decide_eq_false cx2_
      refine sm_T_go 4 (c1 := (54, [some (.inr (.inr (some (6, 0)))), some (.inl th9_), some (.inl k_)], [.inl k_, .inl 3, .inr (.inr (some (65, 0)))], S_)) rfl ?_
      refine sm_T_bin (w := 3 * k_) rfl (bi_mul (by omega) (by omega) (by omega)) ?_ -- pc_ 54
      refine sm_T_iald (n := 3072) rfl rfl (by omega) (by omega) ?_
      have bx13_ : (-1) ≤ S_.2.2.1 65 0 (3 * k_).toNat ∧ S_.2.2.1 65 0 (3 * k_).toNat ≤ 1012 := hI_.2 65 0 _
      refine sm_T_go 3 (c1 := (61, [some (.inr (.inr (some (6, 0)))), some (.inl th9_), some (.inl k_)], [.inl 0, .inr (.inr (some (68, 0))), .inl (S_.2.2.1 65 0 (3 * k_).toNat)], S_)) rfl ?_
      refine sm_T_iald (n := 4) rfl rfl (by omega) (by omega) ?_
      have bx14_ : 0 ≤ S_.2.2.1 68 0 (0 : Int).toNat ∧ S_.2.2.1 68 0 (0 : Int).toNat ≤ 1012 := hI_.2 68 0 _
      refine sm_T_br (a := 1) (z := 37) rfl (fun cx15_ => ?_) (fun cx15_ => ?_)
      · have cx15_ : (S_.2.2.1 65 0 (3 * k_).toNat) ≠ (S_.2.2.1 68 0 (0 : Int).toNat) := of_decide_eq_true cx15_
        refine sm_T_inc (a := 2) (z := 1) (v := k_) (w := k_ + 1) rfl rfl (by omega) (by omega) (by omega) ?_ -- pc_ 99
        refine sm_T_go 1 (c1 := (40, [some (.inr (.inr (some (6, 0)))), some (.inl th9_), some (.inl (k_ + 1))], [], S_)) rfl ?_
        refine ih_ th9_ (k_ + 1) S_ hI_ hF_ ⟨?_, ?_, ?_, ?_, ?_, trivial⟩ ?_
        · omega
        · exact hS_
        · exact ht_
        · exact hth_
        · intro i_ c_ u_ q_ e9_
          by_cases z9_ : (i_ : Int) = k_
          · have ml9_ := hmb_.1
            have w9_ := (hcb_.1.2 i_ c_ q_).2
            rw [e9_] at w9_
            have a0_ := w9_ 0 (by decide)
            have a1_ := w9_ 1 (by decide)
            have a2_ := w9_ 2 (by decide)
            rw [← hS_, show 3 * i_ + 0 = (3 * k_).toNat by omega] at a0_
            rw [← hS_, show 3 * i_ + 1 = (3 * k_ + 1).toNat by omega] at a1_
            rw [← hS_, show 3 * i_ + 2 = (3 * k_ + 2).toNat by omega] at a2_
            have m0_ : S_.2.2.1 68 0 (0 : Int).toNat = cva ms_ 0 := by (rw [hS_]; exact (cva_m hmb_ (k_ := 0) (by omega)).symm)
            have m1_ : S_.2.2.1 68 0 (1 : Int).toNat = cva ms_ 1 := by (rw [hS_]; exact (cva_m hmb_ (k_ := 1) (by omega)).symm)
            omega
          · exact hne_ i_ c_ (by omega) q_ e9_
        · omega
      · have cx15_ : ¬ ((S_.2.2.1 65 0 (3 * k_).toNat) ≠ (S_.2.2.1 68 0 (0 : Int).toNat)) := of_decide_eq_false cx15_
        refine sm_T_go 4 (c1 := (71, [some (.inr (.inr (some (6, 0)))), some (.inl th9_), some (.inl k_)], [.inl k_, .inl 3, .inr (.inr (some (65, 0)))], S_)) rfl ?_
        refine sm_T_bin (w := 3 * k_) rfl (bi_mul (by omega) (by omega) (by omega)) ?_ -- pc_ 71
        refine sm_T_go 1 (c1 := (73, [some (.inr (.inr (some (6, 0)))), some (.inl th9_), some (.inl k_)], [.inl 1, .inl (3 * k_), .inr (.inr (some (65, 0)))], S_)) rfl ?_
        refine sm_T_bin (w := 3 * k_ + 1) rfl (bi_add (by omega) (by omega) (by omega)) ?_ -- pc_ 73
        refine sm_T_iald (n := 3072) rfl rfl (by omega) (by omega) ?_
        have bx16_ : (-1) ≤ S_.2.2.1 65 0 (3 * k_ + 1).toNat ∧ S_.2.2.1 65 0 (3 * k_ + 1).toNat ≤ 1012 := hI_.2 65 0 _
        refine sm_T_go 3 (c1 := (80, [some (.inr (.inr (some (6, 0)))), some (.inl th9_), some (.inl k_)], [.inl 1, .inr (.inr (some (68, 0))), .inl (S_.2.2.1 65 0 (3 * k_ + 1).toNat)], S_)) rfl ?_
        refine sm_T_iald (n := 4) rfl rfl (by omega) (by omega) ?_
        have bx17_ : 0 ≤ S_.2.2.1 68 0 (1 : Int).toNat ∧ S_.2.2.1 68 0 (1 : Int).toNat ≤ 1012 := hI_.2 68 0 _
        refine sm_T_br (a := 1) (z := 18) rfl (fun cx18_ => ?_) (fun cx18_ => ?_)
        · have cx18_ : (S_.2.2.1 65 0 (3 * k_ + 1).toNat) ≠ (S_.2.2.1 68 0 (1 : Int).toNat) := of_decide_eq_true cx18_
          refine sm_T_inc (a := 2) (z := 1) (v := k_) (w := k_ + 1) rfl rfl (by omega) (by omega) (by omega) ?_ -- pc_ 99
          refine sm_T_go 1 (c1 := (40, [some (.inr (.inr (some (6, 0)))), some (.inl th9_), some (.inl (k_ + 1))], [], S_)) rfl ?_
          refine ih_ th9_ (k_ + 1) S_ hI_ hF_ ⟨?_, ?_, ?_, ?_, ?_, trivial⟩ ?_
          · omega
          · exact hS_
          · exact ht_
          · exact hth_
          · intro i_ c_ u_ q_ e9_
            by_cases z9_ : (i_ : Int) = k_
            · have ml9_ := hmb_.1
              have w9_ := (hcb_.1.2 i_ c_ q_).2
              rw [e9_] at w9_
              have a0_ := w9_ 0 (by decide)
              have a1_ := w9_ 1 (by decide)
              have a2_ := w9_ 2 (by decide)
              rw [← hS_, show 3 * i_ + 0 = (3 * k_).toNat by omega] at a0_
              rw [← hS_, show 3 * i_ + 1 = (3 * k_ + 1).toNat by omega] at a1_
              rw [← hS_, show 3 * i_ + 2 = (3 * k_ + 2).toNat by omega] at a2_
              have m0_ : S_.2.2.1 68 0 (0 : Int).toNat = cva ms_ 0 := by (rw [hS_]; exact (cva_m hmb_ (k_ := 0) (by omega)).symm)
              have m1_ : S_.2.2.1 68 0 (1 : Int).toNat = cva ms_ 1 := by (rw [hS_]; exact (cva_m hmb_ (k_ := 1) (by omega)).symm)
              omega
            · exact hne_ i_ c_ (by omega) q_ e9_
          · omega
        · have cx18_ : ¬ ((S_.2.2.1 65 0 (3 * k_ + 1).toNat) ≠ (S_.2.2.1 68 0 (1 : Int).toNat)) := of_decide_eq_false cx18_
          refine sm_T_go 4 (c1 := (90, [some (.inr (.inr (some (6, 0)))), some (.inl th9_), some (.inl k_)], [.inl k_, .inl 3, .inr (.inr (some (65, 0)))], S_)) rfl ?_
          refine sm_T_bin (w := 3 * k_) rfl (bi_mul (by omega) (by omega) (by omega)) ?_ -- pc_ 90
          refine sm_T_go 1 (c1 := (92, [some (.inr (.inr (some (6, 0)))), some (.inl th9_), some (.inl k_)], [.inl 2, .inl (3 * k_), .inr (.inr (some (65, 0)))], S_)) rfl ?_
          refine sm_T_bin (w := 3 * k_ + 2) rfl (bi_add (by omega) (by omega) (by omega)) ?_ -- pc_ 92
          refine sm_T_iald (n := 3072) rfl rfl (by omega) (by omega) ?_
          have bx19_ : (-1) ≤ S_.2.2.1 65 0 (3 * k_ + 2).toNat ∧ S_.2.2.1 65 0 (3 * k_ + 2).toNat ≤ 1012 := hI_.2 65 0 _
          refine sm_T_go 1 (c1 := (95, [some (.inr (.inr (some (6, 0)))), some (.inl th9_), some (.inl k_)], [.inl th9_, .inl (S_.2.2.1 65 0 (3 * k_ + 2).toNat)], S_)) rfl ?_
          refine sm_T_br (a := 1) (z := 4) rfl (fun cx20_ => ?_) (fun cx20_ => ?_)
          · have cx20_ : (S_.2.2.1 65 0 (3 * k_ + 2).toNat) ≠ th9_ := of_decide_eq_true cx20_
            refine sm_T_inc (a := 2) (z := 1) (v := k_) (w := k_ + 1) rfl rfl (by omega) (by omega) (by omega) ?_ -- pc_ 99
            refine sm_T_go 1 (c1 := (40, [some (.inr (.inr (some (6, 0)))), some (.inl th9_), some (.inl (k_ + 1))], [], S_)) rfl ?_
            refine ih_ th9_ (k_ + 1) S_ hI_ hF_ ⟨?_, ?_, ?_, ?_, ?_, trivial⟩ ?_
            · omega
            · exact hS_
            · exact ht_
            · exact hth_
            · intro i_ c_ u_ q_ e9_
              by_cases z9_ : (i_ : Int) = k_
              · have ml9_ := hmb_.1
                have w9_ := (hcb_.1.2 i_ c_ q_).2
                rw [e9_] at w9_
                have a0_ := w9_ 0 (by decide)
                have a1_ := w9_ 1 (by decide)
                have a2_ := w9_ 2 (by decide)
                rw [← hS_, show 3 * i_ + 0 = (3 * k_).toNat by omega] at a0_
                rw [← hS_, show 3 * i_ + 1 = (3 * k_ + 1).toNat by omega] at a1_
                rw [← hS_, show 3 * i_ + 2 = (3 * k_ + 2).toNat by omega] at a2_
                have m0_ : S_.2.2.1 68 0 (0 : Int).toNat = cva ms_ 0 := by (rw [hS_]; exact (cva_m hmb_ (k_ := 0) (by omega)).symm)
                have m1_ : S_.2.2.1 68 0 (1 : Int).toNat = cva ms_ 1 := by (rw [hS_]; exact (cva_m hmb_ (k_ := 1) (by omega)).symm)
                omega
              · exact hne_ i_ c_ (by omega) q_ e9_
            · omega
          · have cx20_ : ¬ ((S_.2.2.1 65 0 (3 * k_ + 2).toNat) ≠ th9_) := of_decide_eq_false cx20_
            refine sm_T_rv rfl ⟨_, _, rfl, rfl, hI_, hF_, ?_⟩
            have ml9_ := hmb_.1
            have cl9_ := hcb_.1.1
            obtain ⟨c9_, hc9_⟩ : ∃ c9_, L_[k_.toNat]? = some c9_ := ⟨_, List.getElem?_eq_getElem (by omega)⟩
            have w9_ := hcb_.1.2 _ _ hc9_
            have m0_ : S_.2.2.1 68 0 (0 : Int).toNat = cva ms_ 0 := by (rw [hS_]; exact (cva_m hmb_ (k_ := 0) (by omega)).symm)
            have m1_ : S_.2.2.1 68 0 (1 : Int).toNat = cva ms_ 1 := by (rw [hS_]; exact (cva_m hmb_ (k_ := 1) (by omega)).symm)
            have a0_ := w9_.2 0 (by decide)
            have a1_ := w9_.2 1 (by decide)
            have a2_ := w9_.2 2 (by decide)
            rw [← hS_, show 3 * k_.toNat + 0 = (3 * k_).toNat by omega] at a0_
            rw [← hS_, show 3 * k_.toNat + 1 = (3 * k_ + 1).toNat by omega] at a1_
            rw [← hS_, show 3 * k_.toNat + 2 = (3 * k_ + 2).toNat by omega] at a2_
            have e9_ : c9_ = ms_ := cva_e w9_.1.1 (by omega) (fun j_ hj_ => by (have cs9_ : j_ = 0 ∨ j_ = 1 ∨ j_ = 2 := (by omega); rcases cs9_ with rfl | rfl | rfl <;> omega))
            have me9_ : ms_ ∈ L_ := by (rw [← e9_]; exact List.mem_of_getElem? hc9_)
            rw [hS_]
            refine ⟨hcs_, Int.le_refl _, ?_⟩
            rw [if_neg (fun z_ => z_.2 me9_)]
            exact hcb_.1
set_option maxHeartbeats 400000 in
set_option maxRecDepth 20000 in
theorem vc_102n {sc_ : Nat × (Nat → Int)} (P_ : Int → Prop) (ms_ : List Nat) (L_ : List (List Nat)) (S0_ : sm_S) (hI_ : gi S0_) (hmb_ : mbl ms_ S0_) (hrs_ : ris ms_) (hcb_ : cbl L_ S0_ ∧ L_.length ≤ 1000) (h3_ : 2 ≤ S0_.1 6 0 13) (hms_ : mms P_ S0_ (S0_.1 6 0 13) (S0_.1 6 0 13)) (hcs_ : mcs P_ S0_) : sm_T (mt_P sc_) 0 102 (0, [some (.inr (.inr (some (6, 0)))), none, none], [], S0_) (fun ro9_ => ∃ u_ S1_, ro9_ = (.inl u_, S1_, 0) ∧ vq_102n P_ ms_ L_ S0_ u_ S1_) := by
  have hF_ : ai_fr (sx_W vw_102n) S0_ S0_ := ai_fr_rf
  have ck0_ : 0 ≤ S0_.1 6 0 11 ∧ S0_.1 6 0 11 ≤ 1024 := hI_.1 6 0 11 rfl
  have cm0_ : 0 ≤ S0_.1 6 0 13 ∧ S0_.1 6 0 13 ≤ 4 := hI_.1 6 0 13 rfl
  have bx1_ : 0 ≤ S0_.1 6 0 13 ∧ S0_.1 6 0 13 ≤ 4 := hI_.1 6 0 13 rfl
  refine sm_T_go 3 (c1 := (5, [some (.inr (.inr (some (6, 0)))), none, none], [.inl 3, .inl (S0_.1 6 0 13)], S0_)) rfl ?_
  refine sm_T_br (a := 4) (z := 13) rfl (fun cx2_ => ?_) (fun cx2_ => ?_)
  · have cx2_ : 3 < (S0_.1 6 0 13) := of_decide_eq_true cx2_
    refine sm_T_rv rfl ⟨_, _, rfl, rfl, hI_, hF_, ?_⟩
    exact ⟨hcs_, Int.le_refl _, by (rw [if_neg (fun z_ => by (have ml9_ := hmb_.1; have z9_ := z_.1; have cl9_ := hcb_.1.1; have c29_ := hcb_.2; omega))]; exact hcb_.1)⟩
  · have cx2_ : ¬ (3 < (S0_.1 6 0 13)) := of_decide_eq_false cx2_
    have bx3_ : 0 ≤ S0_.1 6 0 11 ∧ S0_.1 6 0 11 ≤ 1024 := hI_.1 6 0 11 rfl
    refine sm_T_go 3 (c1 := (15, [some (.inr (.inr (some (6, 0)))), none, none], [.inl 1024, .inl (S0_.1 6 0 11)], S0_)) rfl ?_
    refine sm_T_br (a := 1) (z := 4) rfl (fun cx4_ => ?_) (fun cx4_ => ?_)
    · have cx4_ : (S0_.1 6 0 11) ≠ 1024 := of_decide_eq_true cx4_
      refine sm_T_go 3 (c1 := (24, [some (.inr (.inr (some (6, 0)))), none, none], [.inl 3, .inl (S0_.1 6 0 13)], S0_)) rfl ?_
      refine sm_T_br (a := 1) (z := 12) rfl (fun cx5_ => ?_) (fun cx5_ => ?_)
      · have cx5_ : (S0_.1 6 0 13) ≠ 3 := of_decide_eq_true cx5_
        refine sm_T_go 4 (c1 := (40, [some (.inr (.inr (some (6, 0)))), some (.inl (-1)), some (.inl 0)], [], S0_)) rfl ?_
        refine (vl_102n P_ ms_ L_ S0_ hmb_ hrs_ hcb_ h3_ hms_ hcs_ _) (-1) 0 S0_ hI_ hF_ ⟨?_, ?_, ?_, ?_, ?_, trivial⟩ (Nat.lt_succ_self _)
        · omega
        · rfl
        · first | (left; rfl) | (right; exact hms_ 2 (by omega) (by omega))
        · first | (have ml9_ := hmb_.1; exact (cva_n (by omega)).symm) | (have ml9_ := hmb_.1; exact (cva_m hmb_ (k_ := 2) (by omega)).symm)
        · (intro i_ c_ u_ q_; exfalso; omega)
      · have cx5_ : ¬ ((S0_.1 6 0 13) ≠ 3) := of_decide_eq_false cx5_
        refine sm_T_go 3 (c1 := (32, [some (.inr (.inr (some (6, 0)))), none, none], [.inl 2, .inr (.inr (some (68, 0)))], S0_)) rfl ?_
        refine sm_T_iald (n := 4) rfl rfl (by omega) (by omega) ?_
        have bx6_ : 0 ≤ S0_.2.2.1 68 0 (2 : Int).toNat ∧ S0_.2.2.1 68 0 (2 : Int).toNat ≤ 1012 := hI_.2 68 0 _
        refine sm_T_go 4 (c1 := (40, [some (.inr (.inr (some (6, 0)))), some (.inl (S0_.2.2.1 68 0 (2 : Int).toNat)), some (.inl 0)], [], S0_)) rfl ?_
        refine (vl_102n P_ ms_ L_ S0_ hmb_ hrs_ hcb_ h3_ hms_ hcs_ _) (S0_.2.2.1 68 0 (2 : Int).toNat) 0 S0_ hI_ hF_ ⟨?_, ?_, ?_, ?_, ?_, trivial⟩ (Nat.lt_succ_self _)
        · omega
        · rfl
        · first | (left; rfl) | (right; exact hms_ 2 (by omega) (by omega))
        · first | (have ml9_ := hmb_.1; exact (cva_n (by omega)).symm) | (have ml9_ := hmb_.1; exact (cva_m hmb_ (k_ := 2) (by omega)).symm)
        · (intro i_ c_ u_ q_; exfalso; omega)
    · have cx4_ : ¬ ((S0_.1 6 0 11) ≠ 1024) := of_decide_eq_false cx4_
      refine sm_T_rv rfl ⟨_, _, rfl, rfl, hI_, hF_, ?_⟩
      exact ⟨hcs_, Int.le_refl _, by (rw [if_neg (fun z_ => by (have ml9_ := hmb_.1; have z9_ := z_.1; have cl9_ := hcb_.1.1; have c29_ := hcb_.2; omega))]; exact hcb_.1)⟩
end
/-! 99.ztZA -/
section
/-! the cuts of a node: rows; written by wip/p55/gen/vg -/

/-! the_ cuts of_ a_ node -/
theorem cut_f {c_ : List Nat} {k_ x_ z_ : Nat} (hl_ : 2 ≤ c_.length ∧ c_.length ≤ 3) (hr_ : ris c_) (hx_ : c_[k_]? = some x_) : z_ ∈ c_.filter (fun y_ => y_ != x_) ↔ cva c_ ((k_ + 1) % 3) = (z_ : Int) ∨ cva c_ ((k_ + 2) % 3) = (z_ : Int) := by
  rw [List.mem_filter, bne_iff_ne]
  rcases c_ with _ | ⟨a_, _ | ⟨b_, _ | ⟨d_, _ | ⟨f_, c_⟩⟩⟩⟩
  · exfalso
    have h_ : 2 ≤ 0 := hl_.1
    omega
  · exfalso
    have h_ : 2 ≤ 1 := hl_.1
    omega
  · have ab_ : a_ < b_ := hr_.1 b_ List.mem_cons_self
    have m_ : z_ ∈ [a_, b_] ↔ z_ = a_ ∨ z_ = b_ := by rw [List.mem_cons, List.mem_singleton]
    rw [m_]
    rcases k_ with _ | _ | k_
    · have e_ : a_ = x_ := Option.some.inj hx_
      have v1_ : cva [a_, b_] ((0 + 1) % 3) = (b_ : Int) := rfl
      have v2_ : cva [a_, b_] ((0 + 2) % 3) = -1 := rfl
      rw [v1_, v2_]
      omega
    · have e_ : b_ = x_ := Option.some.inj hx_
      have v1_ : cva [a_, b_] ((0 + 1 + 1) % 3) = -1 := rfl
      have v2_ : cva [a_, b_] ((0 + 1 + 2) % 3) = (a_ : Int) := rfl
      rw [v1_, v2_]
      omega
    · exfalso
      have h_ : (none : Option Nat) = some x_ := hx_
      cases h_
  · have ab_ : a_ < b_ := hr_.1 b_ List.mem_cons_self
    have ad_ : a_ < d_ := hr_.1 d_ (List.mem_cons_of_mem _ List.mem_cons_self)
    have bd_ : b_ < d_ := hr_.2.1 d_ List.mem_cons_self
    have m_ : z_ ∈ [a_, b_, d_] ↔ z_ = a_ ∨ z_ = b_ ∨ z_ = d_ := by rw [List.mem_cons, List.mem_cons, List.mem_singleton]
    rw [m_]
    rcases k_ with _ | _ | _ | k_
    · have e_ : a_ = x_ := Option.some.inj hx_
      have v1_ : cva [a_, b_, d_] ((0 + 1) % 3) = (b_ : Int) := rfl
      have v2_ : cva [a_, b_, d_] ((0 + 2) % 3) = (d_ : Int) := rfl
      rw [v1_, v2_]
      omega
    · have e_ : b_ = x_ := Option.some.inj hx_
      have v1_ : cva [a_, b_, d_] ((0 + 1 + 1) % 3) = (d_ : Int) := rfl
      have v2_ : cva [a_, b_, d_] ((0 + 1 + 2) % 3) = (a_ : Int) := rfl
      rw [v1_, v2_]
      omega
    · have e_ : d_ = x_ := Option.some.inj hx_
      have v1_ : cva [a_, b_, d_] ((0 + 1 + 1 + 1) % 3) = (a_ : Int) := rfl
      have v2_ : cva [a_, b_, d_] ((0 + 1 + 1 + 2) % 3) = (b_ : Int) := rfl
      rw [v1_, v2_]
      omega
    · exfalso
      have h_ : (none : Option Nat) = some x_ := hx_
      cases h_
  · exfalso
    have h_ : c_.length + 4 ≤ 3 := hl_.2
    omega
theorem ris_f {p_ : Nat → Bool} : ∀ {c_ : List Nat}, ris c_ → ris (c_.filter p_)
  | [], _ => trivial
  | y_ :: l_, h_ => by
    rw [List.filter_cons]
    split
    · exact ⟨fun z_ hz_ => h_.1 z_ (List.mem_filter.mp hz_).1, ris_f h_.2⟩
    · exact ris_f h_.2
/-- what is_ put_ in is_ put_ in -/
def oinn (v_ : Int) (ms_ : List Nat) : List Nat := if v_ = -1 then ms_ else ins v_.toNat ms_
theorem oinn_r {v_ : Int} {ms_ : List Nat} (h_ : ris ms_) : ris (oinn v_ ms_) := by
  unfold oinn
  split
  · exact h_
  · exact ins_r h_
theorem oinn_m {v_ : Int} {ms_ : List Nat} {z_ : Nat} (hv_ : -1 ≤ v_) : z_ ∈ oinn v_ ms_ ↔ v_ = (z_ : Int) ∨ z_ ∈ ms_ := by
  unfold oinn
  split
  · constructor
    · intro h_
      exact Or.inr h_
    · rintro (h_ | h_)
      · omega
      · exact h_
  · rw [ins_m]
    constructor
    · rintro (h_ | h_)
      · left
        omega
      · exact Or.inr h_
    · rintro (h_ | h_)
      · left
        omega
      · exact Or.inr h_
theorem new_e {c_ : List Nat} {k_ x_ a_ b_ : Nat} (hl_ : 2 ≤ c_.length ∧ c_.length ≤ 3) (hr_ : ris c_) (hx_ : c_[k_]? = some x_) (h1_ : -1 ≤ cva c_ ((k_ + 1) % 3)) (h2_ : -1 ≤ cva c_ ((k_ + 2) % 3)) : oinn (cva c_ ((k_ + 2) % 3)) (oinn (cva c_ ((k_ + 1) % 3)) (ins b_ (ins a_ []))) = ins a_ (ins b_ (c_.filter (fun y_ => y_ != x_))) := by
  refine ris_u (oinn_r (oinn_r (ins_r (ins_r trivial)))) (ins_r (ins_r (ris_f hr_))) (fun z_ => ?_)
  rw [oinn_m h2_, oinn_m h1_, ins_m, ins_m, ins_m, ins_m, cut_f hl_ hr_ hx_]
  constructor
  · rintro (h_ | h_ | h_ | h_ | h_)
    · exact Or.inr (Or.inr (Or.inr h_))
    · exact Or.inr (Or.inr (Or.inl h_))
    · exact Or.inr (Or.inl h_)
    · exact Or.inl h_
    · exact absurd h_ List.not_mem_nil
  · rintro (h_ | h_ | h_ | h_)
    · exact Or.inr (Or.inr (Or.inr (Or.inl h_)))
    · exact Or.inr (Or.inr (Or.inl h_))
    · exact Or.inr (Or.inl h_)
    · exact Or.inl h_
section CR_
variable {inn_ : Nat → Bool} {cl_ ch_ : Nat → Nat} {n_ i_ k_ x_ : Nat} {c_ : List Nat}
theorem crn_s : crn inn_ cl_ ch_ n_ (3 * i_ + (k_ + 1)) = ctst inn_ cl_ ch_ (crn inn_ cl_ ch_ n_ (3 * i_ + k_)) ((3 * i_ + k_) / 3) ((3 * i_ + k_) % 3) := rfl
theorem crn_o (hk_ : k_ < 3) (hc_ : (crn inn_ cl_ ch_ n_ (3 * i_ + k_))[i_]? = some c_) (h_ : c_[k_]? = none ∨ ∃ x_, c_[k_]? = some x_ ∧ inn_ x_ = false) : crn inn_ cl_ ch_ n_ (3 * i_ + (k_ + 1)) = crn inn_ cl_ ch_ n_ (3 * i_ + k_) := by
  rw [crn_s, show (3 * i_ + k_) / 3 = i_ by omega, show (3 * i_ + k_) % 3 = k_ by omega]
  unfold ctst
  rcases h_ with h_ | ⟨x_, h_, g_⟩
  · simp only [hc_, h_]
  · simp only [hc_, h_]
    rw [if_neg (fun z_ => by rw [g_] at z_; exact absurd z_.1 Bool.false_ne_true)]
theorem crn_a (hk_ : k_ < 3) (hc_ : (crn inn_ cl_ ch_ n_ (3 * i_ + k_))[i_]? = some c_) (hx_ : c_[k_]? = some x_) (g_ : inn_ x_ = true) : crn inn_ cl_ ch_ n_ (3 * i_ + (k_ + 1)) = if (ins (cl_ x_) (ins (ch_ x_) (c_.filter (fun y_ => y_ != x_)))).length ≤ 3 ∧ ¬ ins (cl_ x_) (ins (ch_ x_) (c_.filter (fun y_ => y_ != x_))) ∈ crn inn_ cl_ ch_ n_ (3 * i_ + k_) then crn inn_ cl_ ch_ n_ (3 * i_ + k_) ++ [ins (cl_ x_) (ins (ch_ x_) (c_.filter (fun y_ => y_ != x_)))] else crn inn_ cl_ ch_ n_ (3 * i_ + k_) := by
  rw [crn_s, show (3 * i_ + k_) / 3 = i_ by omega, show (3 * i_ + k_) % 3 = k_ by omega]
  unfold ctst
  simp only [hc_, hx_]
  by_cases z_ : (ins (cl_ x_) (ins (ch_ x_) (c_.filter (fun y_ => y_ != x_)))).length ≤ 3 ∧ ¬ ins (cl_ x_) (ins (ch_ x_) (c_.filter (fun y_ => y_ != x_))) ∈ crn inn_ cl_ ch_ n_ (3 * i_ + k_)
  · rw [if_pos z_, if_pos ⟨g_, z_⟩]
  · rw [if_neg z_, if_neg (fun y_ => z_ y_.2)]
end CR_
theorem cbl_g {L_ : List (List Nat)} {S_ : sm_S} {i_ k_ : Nat} (h_ : cbl L_ S_) (hi_ : (i_ : Int) < S_.1 6 0 11) (hk_ : k_ < 3) : ∃ c_, L_[i_]? = some c_ ∧ ((2 ≤ c_.length ∧ c_.length ≤ 3) ∧ ris c_) ∧ ∀ j_, j_ < 3 → S_.2.2.1 65 0 (3 * i_ + j_) = cva c_ j_ := by
  have e_ := h_.1
  obtain ⟨c_, hc_⟩ : ∃ c_, L_[i_]? = some c_ := ⟨_, List.getElem?_eq_getElem (by omega)⟩
  exact ⟨c_, hc_, h_.2 i_ c_ hc_⟩
theorem cva_x {c_ : List Nat} {k_ : Nat} {v_ : Int} (h_ : cva c_ k_ = v_) (hv_ : v_ ≠ -1) : c_[k_]? = some v_.toNat := by
  unfold cva at h_
  obtain ⟨o_, x_⟩ : ∃ o_, c_[k_]? = o_ := ⟨_, rfl⟩
  rw [x_] at h_ ⊢
  rcases o_ with _ | y_
  · have h_ : (-1 : Int) = v_ := h_
    omega
  · have h_ : (y_ : Int) = v_ := h_
    rw [show v_.toNat = y_ by omega]
theorem cva_z {c_ : List Nat} {k_ : Nat} (h_ : cva c_ k_ = -1) : c_[k_]? = none := by
  unfold cva at h_
  obtain ⟨o_, x_⟩ : ∃ o_, c_[k_]? = o_ := ⟨_, rfl⟩
  rw [x_] at h_ ⊢
  rcases o_ with _ | y_
  · rfl
  · have h_ : (y_ : Int) = -1 := h_
    omega
end
