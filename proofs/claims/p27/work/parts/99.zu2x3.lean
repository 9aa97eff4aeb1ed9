/-! the class: a table of a chip; written by wip/p55/gen/vg -/

/-- the_ nets of_ a_ chip's ends -/
def ket (cc_ : Nat) (S_ : sm_S) (e_ : Nat) : Int := if (e_ : Int) < S_.1 2 cc_ 3 then S_.2.2.1 37 (0 + cc_) e_ else S_.2.2.1 38 (0 + cc_) (e_ - (S_.1 2 cc_ 3).toNat)
theorem ket_fr {w_ : sx_Wl} {cc_ : Nat} {S_ S'_ : sm_S} (f_ : ai_fr (sx_W w_) S_ S'_) (h1_ : (sx_W w_).1 2 3 = false := by rfl) (h2_ : (sx_W w_).2.1 37 = false := by rfl) (h3_ : (sx_W w_).2.1 38 = false := by rfl) : ket cc_ S'_ = ket cc_ S_ := by
  funext e_
  unfold ket
  rw [f_.1 2 cc_ 3 h1_, fr_arr (t := 37) (i := 0 + cc_) f_ h2_, fr_arr (t := 38) (i := 0 + cc_) f_ h3_]
theorem kcv_fr {w_ : sx_Wl} {cc_ : Nat} {S_ S'_ : sm_S} (h_ : kcv cc_ S_) (f_ : ai_fr (sx_W w_) S_ S'_) (h1_ : (sx_W w_).2.1 35 = false := by rfl) (h2_ : (sx_W w_).2.1 36 = false := by rfl) (h3_ : (sx_W w_).2.1 55 = false := by rfl) (h4_ : (sx_W w_).2.1 56 = false := by rfl) (h5_ : (sx_W w_).1 9 2 = false := by rfl) (h6_ : (sx_W w_).1 2 1 = false := by rfl) (h7_ : (sx_W w_).1 2 2 = false := by rfl) (h8_ : (sx_W w_).1 2 8 = false := by rfl) (h9_ : (sx_W w_).2.1 92 = false := by rfl) : kcv cc_ S'_ := by
  have k_ := kcX_fr (cc_ := cc_) f_ h1_ h2_ h3_ h4_
  unfold kcv
  rw [k_.1, k_.2.1, k_.2.2, f_.1 9 0 2 h5_, f_.1 2 cc_ 1 h6_, f_.1 2 cc_ 2 h7_, f_.1 2 cc_ 8 h8_, fr_lon (t_ := 92) (i_ := 0) f_ h9_]
  exact h_
def ktw (o_ : Nat) (R_ : Nat → Int) (kt_ : Nat → Int) (k_ q_ : Nat) : Int := tbw o_ (fun j_ => nev (fun n_ => pvl R_ n_ q_) (kt_ j_)) k_
theorem ktw_or {o_ k_ q_ : Nat} {R_ : Nat → Int} {kt_ : Nat → Int} {b_ : Int} (ho_ : o_ ≤ 16) (hk_ : sht o_ k_ ≤ 21) (hb_ : b_ = if nev (fun n_ => pvl R_ n_ q_) (kt_ k_) = true then 1 else 0) : i_or (ktw o_ R_ kt_ k_ q_) (i_shl b_ (sht o_ k_ : Int)) = ktw o_ R_ kt_ (k_ + 1) q_ := by
  rw [hb_]
  exact tbw_or (f_ := fun j_ => nev (fun n_ => pvl R_ n_ q_) (kt_ j_)) ho_ hk_
theorem nev_m {v_ : Nat → Bool} {n_ : Int} (h_ : n_ = -1 ∨ n_ = -2) : -n_ - 1 = if nev v_ n_ = true then 1 else 0 := by
  rcases h_ with rfl | rfl
  · have e_ : nev v_ (-1) = false := by
      unfold nev
      rw [if_pos rfl]
    rw [e_]
    decide
  · have e_ : nev v_ (-2) = true := by
      unfold nev
      rw [if_neg (by decide), if_pos rfl]
    rw [e_]
    decide
theorem nev_p {R_ : Nat → Int} {n_ p_ : Int} (h_ : 0 ≤ n_) (hp_ : 0 ≤ p_) : l_l2i (l_3 (l_s1 (R_ (64 * n_ + p_ / 64).toNat) (p_ % 64)) 1) = if nev (fun m_ => pvl R_ m_ p_.toNat) n_ = true then 1 else 0 := by
  obtain ⟨q_, rfl⟩ : ∃ q_ : Nat, p_ = (q_ : Int) := ⟨p_.toNat, by omega⟩
  have e_ : nev (fun m_ => pvl R_ m_ q_) n_ = pvl R_ n_.toNat q_ := by
    unfold nev
    rw [if_neg (by omega), if_neg (by omega)]
  rw [Int.toNat_natCast, e_, bitv, show ((q_ : Int) % 64) = ((q_ % 64 : Nat) : Int) by omega, lbt_s1 (Nat.mod_lt _ (by decide)), show (64 * n_ + (q_ : Int) / 64).toNat = 64 * n_.toNat + q_ / 64 by omega]
  rfl
/-- a_ chip's table tells what the_ chip does -/
def kctb (cc_ : Nat) (S_ : sm_S) : Prop := ∀ p_ : Nat, (p_ : Int) < 2 ^ (S_.1 2 cc_ 1 + S_.1 2 cc_ 2).toNat → ∃ v_ : Nat → Bool, cvq (S_.1 2 cc_ 1 + S_.1 2 cc_ 2).toNat (S_.1 2 cc_ 8).toNat (kcT cc_ S_) (kcN cc_ S_) (kcA cc_ S_) p_ v_ ∧ S_.2.2.1 34 (0 + cc_) p_ % 65536 = tbv (fun k_ => nev v_ (S_.2.2.1 37 (0 + cc_) k_)) (S_.1 2 cc_ 3).toNat ∧ S_.2.2.1 34 (0 + cc_) p_ / 65536 = tbv (fun k_ => nev v_ (S_.2.2.1 38 (0 + cc_) k_)) (S_.1 2 cc_ 2).toNat
theorem kctb_of {cc_ : Nat} {S_ : sm_S} (hv_ : kcv cc_ S_) (ho_ : 0 ≤ S_.1 2 cc_ 3 ∧ S_.1 2 cc_ 3 ≤ 16) (ht_ : ∀ q_ : Nat, (q_ : Int) < 2 ^ (S_.1 2 cc_ 1 + S_.1 2 cc_ 2).toNat → S_.2.2.1 34 (0 + cc_) q_ = ktw (S_.1 2 cc_ 3).toNat (S_.2.2.2 92 0) (ket cc_ S_) ((S_.1 2 cc_ 3).toNat + (S_.1 2 cc_ 2).toNat) q_) : kctb cc_ S_ := by
  intro p_ hp_
  refine ⟨fun n_ => pvl (S_.2.2.2 92 0) n_ p_, hv_.2 p_ (by have := hv_.1.2; omega), ?_⟩
  obtain ⟨o_, eo_⟩ : ∃ o_, o_ = (S_.1 2 cc_ 3).toNat := ⟨_, rfl⟩
  obtain ⟨r_, er⟩ : ∃ r_, r_ = (S_.1 2 cc_ 2).toNat := ⟨_, rfl⟩
  have e_ := ht_ p_ hp_
  unfold ktw at e_
  rw [← eo_, ← er] at e_ ⊢
  have n_ := tbw_n (o_ := o_) (f_ := fun j_ => nev (fun n_ => pvl (S_.2.2.2 92 0) n_ p_) (ket cc_ S_ j_)) r_
  rw [n_] at e_
  have b_ := tbv_b (f_ := fun j_ => nev (fun n_ => pvl (S_.2.2.2 92 0) n_ p_) (ket cc_ S_ j_)) o_
  have l_ := pw_le (n := o_) (m := 16) (by omega)
  have l_ : (2 : Int) ^ o_ ≤ 65536 := l_
  have c1_ : tbv (fun j_ => nev (fun n_ => pvl (S_.2.2.2 92 0) n_ p_) (ket cc_ S_ j_)) o_ = tbv (fun k_ => nev (fun n_ => pvl (S_.2.2.2 92 0) n_ p_) (S_.2.2.1 37 (0 + cc_) k_)) o_ := tbv_cg o_ (fun j_ hj_ => by
    show nev _ (ket cc_ S_ j_) = nev _ (S_.2.2.1 37 (0 + cc_) j_)
    unfold ket
    rw [if_pos (by omega)])
  have c2_ : tbv (fun j_ => (fun j_ => nev (fun n_ => pvl (S_.2.2.2 92 0) n_ p_) (ket cc_ S_ j_)) (o_ + j_)) r_ = tbv (fun k_ => nev (fun n_ => pvl (S_.2.2.2 92 0) n_ p_) (S_.2.2.1 38 (0 + cc_) k_)) r_ := tbv_cg r_ (fun j_ hj_ => by
    show nev _ (ket cc_ S_ (o_ + j_)) = nev _ (S_.2.2.1 38 (0 + cc_) j_)
    unfold ket
    rw [if_neg (by omega), ← eo_, show o_ + j_ - o_ = j_ by omega])
  rw [← c1_, ← c2_, e_]
  have fn_ : ∀ x_ y_ : Int, 0 ≤ x_ → x_ < 65536 → (x_ + 65536 * y_) % 65536 = x_ ∧ (x_ + 65536 * y_) / 65536 = y_ := fun x_ y_ h1_ h2_ => by omega
  exact fn_ _ _ b_.1 (by omega)
/-! Chip.endNet -/
def vw_58n : sx_Wl := ([], [], [])
def vq_58n (a1_ : Int) (ii_ : Nat) (S0_ : sm_S) (u_ : Option sm_V) (S1_ : sm_S) : Prop := S0_ = S1_ ∧ ∃ v_ : Int, u_ = some (.inl v_) ∧ ((-2 ≤ v_ ∧ v_ ≤ 161) ∧ v_ = ket ii_ S0_ a1_.toNat)
set_option maxHeartbeats 400000 in
theorem vc_58n {sc_ : Nat × (Nat → Int)} (a1_ : Int) (ii_ : Nat) (S0_ : sm_S) (hI_ : gi S0_) (h1_ : 0 ≤ a1_ ∧ a1_ ≤ 21 ∧ a1_ < S0_.1 2 ii_ 3 + S0_.1 2 ii_ 2) : sm_T (mt_P sc_) 0 58 (0, [some (.inr (.inr (some (2, ii_)))), some (.inl a1_)], [], S0_) (fun ro9_ => ∃ u_ S1_, ro9_ = (.inl u_, S1_, 0) ∧ vq_58n a1_ ii_ S0_ u_ S1_) := by
  have hF_ : ai_fr (sx_W vw_58n) S0_ S0_ := ai_fr_rf
  have c2_ : 0 ≤ S0_.1 2 ii_ 2 ∧ S0_.1 2 ii_ 2 ≤ 6 := hI_.1 2 ii_ 2 rfl
  have c3_ : 0 ≤ S0_.1 2 ii_ 3 ∧ S0_.1 2 ii_ 3 ≤ 16 := hI_.1 2 ii_ 3 rfl
  have bx1_ : 0 ≤ S0_.1 2 ii_ 3 ∧ S0_.1 2 ii_ 3 ≤ 16 := hI_.1 2 ii_ 3 rfl
  refine sm_T_go 3 (c1 := (5, [some (.inr (.inr (some (2, ii_)))), some (.inl a1_)], [.inl (S0_.1 2 ii_ 3), .inl a1_], S0_)) rfl ?_
  refine sm_T_br (a := 3) (z := 12) rfl (fun cx2_ => ?_) (fun cx2_ => ?_)
  · have cx2_ : (S0_.1 2 ii_ 3) ≤ a1_ := of_decide_eq_true cx2_
    refine sm_T_go 5 (c1 := (26, [some (.inr (.inr (some (2, ii_)))), some (.inl a1_)], [.inl (S0_.1 2 ii_ 3), .inl a1_, .inr (.inr (some (38, (0 + ii_))))], S0_)) rfl ?_
    refine sm_T_bin (w := a1_ - (S0_.1 2 ii_ 3)) rfl (bi_sub (by omega) (by omega) (by omega)) ?_ -- pc_ 26
    refine sm_T_iald (n := 6) rfl rfl (by omega) (by omega) ?_
    have bx3_ : (-2) ≤ S0_.2.2.1 38 (0 + ii_) (a1_ - (S0_.1 2 ii_ 3)).toNat ∧ S0_.2.2.1 38 (0 + ii_) (a1_ - (S0_.1 2 ii_ 3)).toNat ≤ 161 := hI_.2 38 (0 + ii_) _
    refine sm_T_ri rfl ⟨_, _, rfl, rfl, _, rfl, ?_⟩
    refine ⟨by omega, ?_⟩
    unfold ket
    first | (rw [if_pos (by omega)]) | (rw [if_neg (by omega), show a1_.toNat - (S0_.1 2 ii_ 3).toNat = (a1_ - S0_.1 2 ii_ 3).toNat by omega])
  · have cx2_ : ¬ ((S0_.1 2 ii_ 3) ≤ a1_) := of_decide_eq_false cx2_
    refine sm_T_go 3 (c1 := (13, [some (.inr (.inr (some (2, ii_)))), some (.inl a1_)], [.inl a1_, .inr (.inr (some (37, (0 + ii_))))], S0_)) rfl ?_
    refine sm_T_iald (n := 16) rfl rfl (by omega) (by omega) ?_
    have bx4_ : (-2) ≤ S0_.2.2.1 37 (0 + ii_) a1_.toNat ∧ S0_.2.2.1 37 (0 + ii_) a1_.toNat ≤ 161 := hI_.2 37 (0 + ii_) _
    refine sm_T_go 1 (c1 := (28, [some (.inr (.inr (some (2, ii_)))), some (.inl a1_)], [.inl (S0_.2.2.1 37 (0 + ii_) a1_.toNat)], S0_)) rfl ?_
    refine sm_T_ri rfl ⟨_, _, rfl, rfl, _, rfl, ?_⟩
    refine ⟨by omega, ?_⟩
    unfold ket
    first | (rw [if_pos (by omega)]) | (rw [if_neg (by omega), show a1_.toNat - (S0_.1 2 ii_ 3).toNat = (a1_ - S0_.1 2 ii_ 3).toNat by omega])
/-! Tester.fillTable -/
def vw_169n : sx_Wl := ([(9, 1), (9, 2), (9, 3)], [34, 92, 93, 94, 96], [(9, 0)])
def vq_169n (cc_ : Nat) (S0_ : sm_S) (u_ : Option sm_V) (S1_ : sm_S) : Prop := u_ = none ∧ gi S1_ ∧ ai_fr (sx_W vw_169n) S0_ S1_ ∧ (cdf cc_ S0_ S1_ ∧ (ctb cc_ S1_ ∧ (S1_.1 9 0 1 = S0_.1 2 cc_ 19 ∧ S1_.2.1 9 0 0 = some cc_) ∧ kcv cc_ S1_ ∧ kctb cc_ S1_))
set_option maxHeartbeats 2000000 in
theorem vl_169n {sc_ : Nat × (Nat → Int)} (cc_ : Nat) (S0_ : sm_S) (hs_ : S0_.1 2 cc_ 1 + S0_.1 2 cc_ 2 ≤ 12) (hn_ : S0_.2.1 9 0 0 = some cc_ → S0_.1 9 0 1 ≠ S0_.1 2 cc_ 19) : ∀ nn_ : Nat, (∀ (pt_ : Int) (e_ : Int) (S_ : sm_S), gi S_ → ai_fr (sx_W vw_169n) S0_ S_ → ((0 ≤ e_ ∧ e_ ≤ 22 ∧ e_ ≤ S0_.1 2 cc_ 3 + S0_.1 2 cc_ 2 ∧ 0 ≤ pt_ ∧ pt_ ≤ 4096) ∧ (∀ p9_ : Nat, p9_ < 4096 → 0 ≤ S_.2.2.1 34 (0 + cc_) p9_ ∧ S_.2.2.1 34 (0 + cc_) p9_ < 2 ^ (16 + (S0_.1 2 cc_ 2).toNat)) ∧ (pt_ = 2 ^ (S0_.1 2 cc_ 1 + S0_.1 2 cc_ 2).toNat) ∧ (kcv cc_ S_) ∧ (S_.1 9 0 1 = S0_.1 2 cc_ 19 ∧ S_.2.1 9 0 0 = some cc_) ∧ (∀ q9_ : Nat, (q9_ : Int) < pt_ → S_.2.2.1 34 (0 + cc_) q9_ = ktw (S0_.1 2 cc_ 3).toNat (S_.2.2.2 92 0) (ket cc_ S0_) e_.toNat q9_) ∧ (cdf cc_ S0_ S_) ∧ True) → ((10000 * (100 - e_) + 9000).toNat) < nn_ → sm_T (mt_P sc_) 4 169 (22, [some (.inr (.inr (some (9, 0)))), some (.inr (.inr (some (2, cc_)))), some (.inl pt_), some (.inl e_), none, none, none, none], [], S_) (fun ro9_ => ∃ u_ S1_, ro9_ = (.inl u_, S1_, 0) ∧ vq_169n cc_ S0_ u_ S1_)) ∧ (∀ (pt_ : Int) (e_ : Int) (nt_ : Int) (sh_ : Int) (p_ : Int) (S_ : sm_S), gi S_ → ai_fr (sx_W vw_169n) S0_ S_ → ((0 ≤ e_ ∧ e_ < 22 ∧ e_ < S0_.1 2 cc_ 3 + S0_.1 2 cc_ 2 ∧ 0 ≤ pt_ ∧ pt_ ≤ 4096 ∧ 0 ≤ p_ ∧ p_ ≤ pt_ ∧ -2 ≤ nt_ ∧ nt_ ≤ 161 ∧ 0 ≤ sh_ ∧ sh_ < 16 + S0_.1 2 cc_ 2) ∧ (∀ p9_ : Nat, p9_ < 4096 → 0 ≤ S_.2.2.1 34 (0 + cc_) p9_ ∧ S_.2.2.1 34 (0 + cc_) p9_ < 2 ^ (16 + (S0_.1 2 cc_ 2).toNat)) ∧ (pt_ = 2 ^ (S0_.1 2 cc_ 1 + S0_.1 2 cc_ 2).toNat) ∧ (kcv cc_ S_) ∧ (S_.1 9 0 1 = S0_.1 2 cc_ 19 ∧ S_.2.1 9 0 0 = some cc_) ∧ (nt_ = ket cc_ S0_ e_.toNat ∧ sh_ = (sht (S0_.1 2 cc_ 3).toNat e_.toNat : Int)) ∧ (∀ q9_ : Nat, (q9_ : Int) < pt_ → S_.2.2.1 34 (0 + cc_) q9_ = if (q9_ : Int) < p_ then ktw (S0_.1 2 cc_ 3).toNat (S_.2.2.2 92 0) (ket cc_ S0_) (e_.toNat + 1) q9_ else ktw (S0_.1 2 cc_ 3).toNat (S_.2.2.2 92 0) (ket cc_ S0_) e_.toNat q9_) ∧ (cdf cc_ S0_ S_) ∧ True) → ((10000 * (100 - e_) + 8000 - p_).toNat) < nn_ → sm_T (mt_P sc_) 4 169 (63, [some (.inr (.inr (some (9, 0)))), some (.inr (.inr (some (2, cc_)))), some (.inl pt_), some (.inl e_), some (.inl nt_), some (.inl sh_), some (.inl p_), none], [], S_) (fun ro9_ => ∃ u_ S1_, ro9_ = (.inl u_, S1_, 0) ∧ vq_169n cc_ S0_ u_ S1_)) := by
  intro nn_
  induction nn_ with
  | zero => exact ⟨fun _ _ _ _ _ _ h_ => absurd h_ (Nat.not_lt_zero _), fun _ _ _ _ _ _ _ _ _ h_ => absurd h_ (Nat.not_lt_zero _)⟩
  | succ nn_ ih_ =>
    refine ⟨?_, ?_⟩
    · rintro pt_ e_ S_ hI_ hF_ ⟨h0_, ht_, hpt_, hkv_, hst_, hv_, hC_, -⟩ hm_
      have z1_ : S_.1 2 cc_ 1 = S0_.1 2 cc_ 1 := hF_.1 2 cc_ 1 rfl
      have z2_ : S_.1 2 cc_ 2 = S0_.1 2 cc_ 2 := hF_.1 2 cc_ 2 rfl
      have z3_ : S_.1 2 cc_ 3 = S0_.1 2 cc_ 3 := hF_.1 2 cc_ 3 rfl
      have co_ : 0 ≤ S_.1 2 cc_ 3 ∧ S_.1 2 cc_ 3 ≤ 16 := hI_.1 2 cc_ 3 rfl
      have cr : 0 ≤ S_.1 2 cc_ 2 ∧ S_.1 2 cc_ 2 ≤ 6 := hI_.1 2 cc_ 2 rfl
      have ci_ : 0 ≤ S_.1 2 cc_ 1 ∧ S_.1 2 cc_ 1 ≤ 12 := hI_.1 2 cc_ 1 rfl
      have pw9_ := pw_le (n := 16 + (S0_.1 2 cc_ 2).toNat) (m := 22) (by omega)
      refine sm_T_go 2 (c1 := (24, [some (.inr (.inr (some (9, 0)))), some (.inr (.inr (some (2, cc_)))), some (.inl pt_), some (.inl e_), none, none, none, none], [.inr (.inr (some (2, cc_))), .inl e_], S_)) rfl ?_
      refine sm_T_cal (d1 := 0) (Q1 := vq_57 cc_ S_) rfl rfl (by decide) (vc_57 cc_ S_ hI_ ) (fun u_ Sx1_ px4_ => ?_)
      obtain ⟨rfl, vx6_, rfl, px4_⟩ := px4_
      have g24_ := px4_
      refine sm_T_br (a := 3) (z := 108) rfl (fun cx7_ => ?_) (fun cx7_ => ?_)
      · have cx7_ : vx6_ ≤ e_ := of_decide_eq_true cx7_
        refine sm_T_rv rfl ⟨_, _, rfl, rfl, hI_, hF_, ?_⟩
        refine ⟨hC_, ?_⟩
        refine ⟨fun p9_ hp9_ => ?_, hst_, hkv_, kctb_of hkv_ (by omega) (fun q9_ hq9_ => ?_)⟩
        · rw [z2_]; exact ht_ p9_ hp9_
        · have w9_ := hv_ q9_ (by (rw [hpt_, ← z1_, ← z2_]; exact hq9_)); rw [show e_.toNat = (S0_.1 2 cc_ 3).toNat + (S0_.1 2 cc_ 2).toNat by omega] at w9_; rw [ket_fr hF_, z2_, z3_]; exact w9_
      · have cx7_ : ¬ (vx6_ ≤ e_) := of_decide_eq_false cx7_
        refine sm_T_go 2 (c1 := (32, [some (.inr (.inr (some (9, 0)))), some (.inr (.inr (some (2, cc_)))), some (.inl pt_), some (.inl e_), none, none, none, none], [.inl e_, .inr (.inr (some (2, cc_)))], S_)) rfl ?_
        refine sm_T_cal (d1 := 0) (Q1 := vq_58n e_ cc_ S_) rfl rfl (by decide) (vc_58n e_ cc_ S_ hI_ (by omega)) (fun u_ Sx8_ px11_ => ?_)
        obtain ⟨rfl, vx13_, rfl, px11_⟩ := px11_
        have g32_ := px11_.1
        have g32n := px11_.2
        rw [ket_fr hF_] at g32n
        have bx14_ : 0 ≤ S_.1 2 cc_ 3 ∧ S_.1 2 cc_ 3 ≤ 16 := hI_.1 2 cc_ 3 rfl
        refine sm_T_go 4 (c1 := (42, [some (.inr (.inr (some (9, 0)))), some (.inr (.inr (some (2, cc_)))), some (.inl pt_), some (.inl e_), some (.inl vx13_), none, none, none], [.inl (S_.1 2 cc_ 3), .inl e_], S_)) rfl ?_
        refine sm_T_br (a := 3) (z := 7) rfl (fun cx15_ => ?_) (fun cx15_ => ?_)
        · have cx15_ : (S_.1 2 cc_ 3) ≤ e_ := of_decide_eq_true cx15_
          refine sm_T_go 2 (c1 := (52, [some (.inr (.inr (some (9, 0)))), some (.inr (.inr (some (2, cc_)))), some (.inl pt_), some (.inl e_), some (.inl vx13_), none, none, none], [.inl e_, .inl 16], S_)) rfl ?_
          refine sm_T_bin (w := e_ + 16) rfl (bi_add (by omega) (by omega) (by omega)) ?_ -- pc_ 52
          refine sm_T_go 2 (c1 := (57, [some (.inr (.inr (some (9, 0)))), some (.inr (.inr (some (2, cc_)))), some (.inl pt_), some (.inl e_), some (.inl vx13_), none, none, none], [.inl (S_.1 2 cc_ 3), .inl (e_ + 16)], S_)) rfl ?_
          refine sm_T_bin (w := e_ - (S_.1 2 cc_ 3) + 16) rfl (bi_sub (by omega) (by omega) (by omega)) ?_ -- pc_ 57
          refine sm_T_go 3 (c1 := (63, [some (.inr (.inr (some (9, 0)))), some (.inr (.inr (some (2, cc_)))), some (.inl pt_), some (.inl e_), some (.inl vx13_), some (.inl (e_ - (S_.1 2 cc_ 3) + 16)), some (.inl 0), none], [], S_)) rfl ?_
          refine ih_.2 pt_ e_ vx13_ (e_ - (S_.1 2 cc_ 3) + 16) 0 S_ hI_ hF_ ⟨?_, ?_, ?_, ?_, ?_, ?_, ?_, ?_, trivial⟩ ?_
          · omega
          · exact ht_
          · exact hpt_
          · exact hkv_
          · exact hst_
          · refine ⟨g32n, ?_⟩
            unfold sht; split <;> omega
          · (intro q9_ hq9_; rw [if_neg (by omega)]; exact hv_ q9_ hq9_)
          · exact hC_
          · omega
        · have cx15_ : ¬ ((S_.1 2 cc_ 3) ≤ e_) := of_decide_eq_false cx15_
          refine sm_T_go 5 (c1 := (63, [some (.inr (.inr (some (9, 0)))), some (.inr (.inr (some (2, cc_)))), some (.inl pt_), some (.inl e_), some (.inl vx13_), some (.inl e_), some (.inl 0), none], [], S_)) rfl ?_
          refine ih_.2 pt_ e_ vx13_ e_ 0 S_ hI_ hF_ ⟨?_, ?_, ?_, ?_, ?_, ?_, ?_, ?_, trivial⟩ ?_
          · omega
          · exact ht_
          · exact hpt_
          · exact hkv_
          · exact hst_
          · refine ⟨g32n, ?_⟩
            unfold sht; split <;> omega
          · (intro q9_ hq9_; rw [if_neg (by omega)]; exact hv_ q9_ hq9_)
          · exact hC_
          · omega
    · rintro pt_ e_ nt_ sh_ p_ S_ hI_ hF_ ⟨h0_, ht_, hpt_, hkv_, hst_, hls_, hv_, hC_, -⟩ hm_
      have z1_ : S_.1 2 cc_ 1 = S0_.1 2 cc_ 1 := hF_.1 2 cc_ 1 rfl
      have z2_ : S_.1 2 cc_ 2 = S0_.1 2 cc_ 2 := hF_.1 2 cc_ 2 rfl
      have z3_ : S_.1 2 cc_ 3 = S0_.1 2 cc_ 3 := hF_.1 2 cc_ 3 rfl
      have co_ : 0 ≤ S_.1 2 cc_ 3 ∧ S_.1 2 cc_ 3 ≤ 16 := hI_.1 2 cc_ 3 rfl
      have cr : 0 ≤ S_.1 2 cc_ 2 ∧ S_.1 2 cc_ 2 ≤ 6 := hI_.1 2 cc_ 2 rfl
      have ci_ : 0 ≤ S_.1 2 cc_ 1 ∧ S_.1 2 cc_ 1 ≤ 12 := hI_.1 2 cc_ 1 rfl
      have pw9_ := pw_le (n := 16 + (S0_.1 2 cc_ 2).toNat) (m := 22) (by omega)
      refine sm_T_go 2 (c1 := (66, [some (.inr (.inr (some (9, 0)))), some (.inr (.inr (some (2, cc_)))), some (.inl pt_), some (.inl e_), some (.inl nt_), some (.inl sh_), some (.inl p_), none], [.inl pt_, .inl p_], S_)) rfl ?_
      refine sm_T_br (a := 3) (z := 63) rfl (fun cx1_ => ?_) (fun cx1_ => ?_)
      · have cx1_ : pt_ ≤ p_ := of_decide_eq_true cx1_
        refine sm_T_inc (a := 3) (z := 1) (v := e_) (w := e_ + 1) rfl rfl (by omega) (by omega) (by omega) ?_ -- pc_ 129
        refine sm_T_go 1 (c1 := (22, [some (.inr (.inr (some (9, 0)))), some (.inr (.inr (some (2, cc_)))), some (.inl pt_), some (.inl (e_ + 1)), some (.inl nt_), some (.inl sh_), some (.inl p_), none], [], S_)) rfl ?_
        refine sm_T_wk [some (.inr (.inr (some (9, 0)))), some (.inr (.inr (some (2, cc_)))), some (.inl pt_), some (.inl (e_ + 1)), none, none, none, none] (by exact ⟨rfl, rfl, rfl, rfl, trivial⟩) ?_
        refine ih_.1 pt_ (e_ + 1) S_ hI_ hF_ ⟨?_, ?_, ?_, ?_, ?_, ?_, ?_, trivial⟩ ?_
        · omega
        · exact ht_
        · exact hpt_
        · exact hkv_
        · exact hst_
        · (intro q9_ hq9_; rw [show (e_ + 1).toNat = e_.toNat + 1 by omega]; have w9_ := hv_ q9_ hq9_; rw [if_pos (by omega)] at w9_; exact w9_)
        · exact hC_
        · omega
      · have cx1_ : ¬ (pt_ ≤ p_) := of_decide_eq_false cx1_
        refine sm_T_go 1 (c1 := (71, [some (.inr (.inr (some (9, 0)))), some (.inr (.inr (some (2, cc_)))), some (.inl pt_), some (.inl e_), some (.inl nt_), some (.inl sh_), some (.inl p_), none], [.inl nt_], S_)) rfl ?_
        refine sm_T_b0 (a := 3) (z := 10) rfl (fun cx2_ => ?_) (fun cx2_ => ?_)
        · have cx2_ : 0 ≤ nt_ := of_decide_eq_true cx2_
          have bt9_ := l_bit (x_ := l_s1 (S_.2.2.2 92 0 (64 * nt_ + p_ / 64).toNat) (p_ % 64))
          have bv9_ : l_l2i (l_3 (l_s1 (S_.2.2.2 92 0 (64 * nt_ + p_ / 64).toNat) (p_ % 64)) 1) = if nev (fun n_ => pvl (S_.2.2.2 92 0) n_ p_.toNat) (ket cc_ S0_ e_.toNat) = true then 1 else 0 := by (rw [← hls_.1]; exact nev_p (by omega) (by omega))
          have bs9_ := bsh (k_ := 16 + (S0_.1 2 cc_ 2).toNat) bt9_ (show 0 ≤ sh_ by omega) (by omega) (by omega)
          have or9_ := i_orp (x_ := S_.2.2.1 34 (0 + cc_) p_.toNat) (k_ := 16 + (S0_.1 2 cc_ 2).toNat) (by omega) (ht_ p_.toNat (by omega)) bs9_
          refine sm_T_go 4 (c1 := (89, [some (.inr (.inr (some (9, 0)))), some (.inr (.inr (some (2, cc_)))), some (.inl pt_), some (.inl e_), some (.inl nt_), some (.inl sh_), some (.inl p_), none], [.inl 64, .inl nt_, .inr (.inr (some (92, 0)))], S_)) rfl ?_
          refine sm_T_bin (w := 64 * nt_) rfl (bi_mul (by omega) (by omega) (by omega)) ?_ -- pc_ 89
          refine sm_T_go 2 (c1 := (94, [some (.inr (.inr (some (9, 0)))), some (.inr (.inr (some (2, cc_)))), some (.inl pt_), some (.inl e_), some (.inl nt_), some (.inl sh_), some (.inl p_), none], [.inl 6, .inl p_, .inl (64 * nt_), .inr (.inr (some (92, 0)))], S_)) rfl ?_
          refine sm_T_bin (w := (p_ / 64)) rfl (bi_shr (k := 6) (by decide) (by omega) (by omega)) ?_ -- pc_ 94
          refine sm_T_bin (w := 64 * nt_ + (p_ / 64)) rfl (bi_add (by omega) (by omega) (by omega)) ?_ -- pc_ 95
          refine sm_T_lald (n := 10368) rfl rfl (by omega) (by omega) ?_
          refine sm_T_go 2 (c1 := (101, [some (.inr (.inr (some (9, 0)))), some (.inr (.inr (some (2, cc_)))), some (.inl pt_), some (.inl e_), some (.inl nt_), some (.inl sh_), some (.inl p_), none], [.inl 63, .inl p_, .inr (.inl (S_.2.2.2 92 0 (64 * nt_ + (p_ / 64)).toNat))], S_)) rfl ?_
          refine sm_T_bin (w := (p_ % 64)) rfl (bi_msk (k := 6) (by decide)) ?_ -- pc_ 101
          have bx3_ := l_l2i_n ((l_3 ((l_s1 ((S_.2.2.2 92 0 (64 * nt_ + (p_ / 64)).toNat)) (p_ % 64))) 1))
          refine sm_T_go 9 (c1 := (115, [some (.inr (.inr (some (9, 0)))), some (.inr (.inr (some (2, cc_)))), some (.inl pt_), some (.inl e_), some (.inl nt_), some (.inl sh_), some (.inl p_), some (.inl (l_l2i ((l_3 ((l_s1 ((S_.2.2.2 92 0 (64 * nt_ + (p_ / 64)).toNat)) (p_ % 64))) 1))))], [.inl p_, .inr (.inr (some (34, (0 + cc_)))), .inl p_, .inr (.inr (some (34, (0 + cc_))))], S_)) rfl ?_
          refine sm_T_iald (n := 4096) rfl rfl (by omega) (by omega) ?_
          have bx4_ : 0 ≤ S_.2.2.1 34 (0 + cc_) p_.toNat ∧ S_.2.2.1 34 (0 + cc_) p_.toNat ≤ 4194303 := hI_.2 34 (0 + cc_) _
          refine sm_T_go 2 (c1 := (120, [some (.inr (.inr (some (9, 0)))), some (.inr (.inr (some (2, cc_)))), some (.inl pt_), some (.inl e_), some (.inl nt_), some (.inl sh_), some (.inl p_), some (.inl (l_l2i ((l_3 ((l_s1 ((S_.2.2.2 92 0 (64 * nt_ + (p_ / 64)).toNat)) (p_ % 64))) 1))))], [.inl sh_, .inl (l_l2i ((l_3 ((l_s1 ((S_.2.2.2 92 0 (64 * nt_ + (p_ / 64)).toNat)) (p_ % 64))) 1))), .inl (S_.2.2.1 34 (0 + cc_) p_.toNat), .inl p_, .inr (.inr (some (34, (0 + cc_))))], S_)) rfl ?_
          refine sm_T_bin (w := (i_shl (l_l2i ((l_3 ((l_s1 ((S_.2.2.2 92 0 (64 * nt_ + (p_ / 64)).toNat)) (p_ % 64))) 1))) sh_)) rfl rfl ?_ -- pc_ 120
          refine sm_T_bin (w := (i_or (S_.2.2.1 34 (0 + cc_) p_.toNat) (i_shl (l_l2i ((l_3 ((l_s1 ((S_.2.2.2 92 0 (64 * nt_ + (p_ / 64)).toNat)) (p_ % 64))) 1))) sh_))) rfl rfl ?_ -- pc_ 121
          refine sm_T_iast (n := 4096) rfl rfl (by omega) (by omega) ?_
          have hIx5_ : gi (sm_aI S_ 34 (0 + cc_) p_.toNat (i_or (S_.2.2.1 34 (0 + cc_) p_.toNat) (i_shl (l_l2i ((l_3 ((l_s1 ((S_.2.2.2 92 0 (64 * nt_ + (p_ / 64)).toNat)) (p_ % 64))) 1))) sh_))) := gi_aI hI_ (show 0 ≤ (i_or (S_.2.2.1 34 (0 + cc_) p_.toNat) (i_shl (l_l2i ((l_3 ((l_s1 ((S_.2.2.2 92 0 (64 * nt_ + (p_ / 64)).toNat)) (p_ % 64))) 1))) sh_)) ∧ (i_or (S_.2.2.1 34 (0 + cc_) p_.toNat) (i_shl (l_l2i ((l_3 ((l_s1 ((S_.2.2.2 92 0 (64 * nt_ + (p_ / 64)).toNat)) (p_ % 64))) 1))) sh_)) ≤ 4194303 from ⟨by omega, by omega⟩)
          have hFx6_ : ai_fr (sx_W vw_169n) S0_ (sm_aI S_ 34 (0 + cc_) p_.toNat (i_or (S_.2.2.1 34 (0 + cc_) p_.toNat) (i_shl (l_l2i ((l_3 ((l_s1 ((S_.2.2.2 92 0 (64 * nt_ + (p_ / 64)).toNat)) (p_ % 64))) 1))) sh_))) := ai_fr_tr hF_ (ai_fr_aI rfl)
          have hCx7_ : cdf cc_ S0_ (sm_aI S_ 34 (0 + cc_) p_.toNat (i_or (S_.2.2.1 34 (0 + cc_) p_.toNat) (i_shl (l_l2i ((l_3 ((l_s1 ((S_.2.2.2 92 0 (64 * nt_ + (p_ / 64)).toNat)) (p_ % 64))) 1))) sh_))) := cdf_aI hC_ (Or.inr (by rw [show cof 34 = 0 from rfl] <;> omega))
          refine sm_T_inc (a := 6) (z := 1) (v := p_) (w := p_ + 1) rfl rfl (by omega) (by omega) (by omega) ?_ -- pc_ 123
          refine sm_T_go 1 (c1 := (63, [some (.inr (.inr (some (9, 0)))), some (.inr (.inr (some (2, cc_)))), some (.inl pt_), some (.inl e_), some (.inl nt_), some (.inl sh_), some (.inl (p_ + 1)), some (.inl (l_l2i ((l_3 ((l_s1 ((S_.2.2.2 92 0 (64 * nt_ + (p_ / 64)).toNat)) (p_ % 64))) 1))))], [], sm_aI S_ 34 (0 + cc_) p_.toNat (i_or (S_.2.2.1 34 (0 + cc_) p_.toNat) (i_shl (l_l2i ((l_3 ((l_s1 ((S_.2.2.2 92 0 (64 * nt_ + (p_ / 64)).toNat)) (p_ % 64))) 1))) sh_)))) rfl ?_
          refine sm_T_wk [some (.inr (.inr (some (9, 0)))), some (.inr (.inr (some (2, cc_)))), some (.inl pt_), some (.inl e_), some (.inl nt_), some (.inl sh_), some (.inl (p_ + 1)), none] (by exact ⟨rfl, rfl, rfl, rfl, rfl, rfl, rfl, trivial⟩) ?_
          refine ih_.2 pt_ e_ nt_ sh_ (p_ + 1) (sm_aI S_ 34 (0 + cc_) p_.toNat (i_or (S_.2.2.1 34 (0 + cc_) p_.toNat) (i_shl (l_l2i ((l_3 ((l_s1 ((S_.2.2.2 92 0 (64 * nt_ + (p_ / 64)).toNat)) (p_ % 64))) 1))) sh_))) hIx5_ hFx6_ ⟨?_, ?_, ?_, ?_, ?_, ?_, ?_, ?_, trivial⟩ ?_
          · omega
          · intro p9_ hp9_
            rw [rd_eq]
            by_cases z9_ : p9_ = p_.toNat
            · rw [if_pos z9_]; first | exact or9_ | exact or8_
            · rw [if_neg z9_]; exact ht_ p9_ hp9_
          · exact hpt_
          · exact kcv_fr (w_ := ([], [34], [])) hkv_ (ai_fr_aI rfl)
          · exact hst_
          · exact hls_
          · intro q9_ hq9_
            rw [rd_eq]
            by_cases z9_ : q9_ = p_.toNat
            · have w9_ := hv_ p_.toNat (by omega)
              rw [if_neg (by omega)] at w9_
              rw [if_pos z9_, if_pos (by omega), w9_, z9_, show sh_ = (sht (S0_.1 2 cc_ 3).toNat e_.toNat : Int) from hls_.2]
              exact ktw_or (by omega) (sht_b (r_ := 6) (by omega) (by decide) (by omega)) (by first | exact bv8_ | exact bv9_)
            · rw [if_neg z9_]
              have w9_ := hv_ q9_ hq9_
              by_cases y9_ : (q9_ : Int) < p_
              · rw [if_pos y9_] at w9_; rw [if_pos (by omega)]; exact w9_
              · rw [if_neg y9_] at w9_; rw [if_neg (by omega)]; exact w9_
          · exact hCx7_
          · omega
        · have cx2_ : ¬ (0 ≤ nt_) := of_decide_eq_false cx2_
          have bt8_ : -nt_ - 1 = 0 ∨ -nt_ - 1 = 1 := by omega
          have bv8_ : -nt_ - 1 = if nev (fun n_ => pvl (S_.2.2.2 92 0) n_ p_.toNat) (ket cc_ S0_ e_.toNat) = true then 1 else 0 := by (rw [← hls_.1]; exact nev_m (by omega))
          have bs8_ := bsh (k_ := 16 + (S0_.1 2 cc_ 2).toNat) bt8_ (show 0 ≤ sh_ by omega) (by omega) (by omega)
          have or8_ := i_orp (x_ := S_.2.2.1 34 (0 + cc_) p_.toNat) (k_ := 16 + (S0_.1 2 cc_ 2).toNat) (by omega) (ht_ p_.toNat (by omega)) bs8_
          refine sm_T_go 2 (c1 := (77, [some (.inr (.inr (some (9, 0)))), some (.inr (.inr (some (2, cc_)))), some (.inl pt_), some (.inl e_), some (.inl nt_), some (.inl sh_), some (.inl p_), none], [.inl nt_, .inl (-1)], S_)) rfl ?_
          refine sm_T_bin (w := -nt_ - 1) rfl (bi_sub (by omega) (by omega) (by omega)) ?_ -- pc_ 77
          refine sm_T_go 6 (c1 := (115, [some (.inr (.inr (some (9, 0)))), some (.inr (.inr (some (2, cc_)))), some (.inl pt_), some (.inl e_), some (.inl nt_), some (.inl sh_), some (.inl p_), some (.inl (-nt_ - 1))], [.inl p_, .inr (.inr (some (34, (0 + cc_)))), .inl p_, .inr (.inr (some (34, (0 + cc_))))], S_)) rfl ?_
          refine sm_T_iald (n := 4096) rfl rfl (by omega) (by omega) ?_
          have bx8_ : 0 ≤ S_.2.2.1 34 (0 + cc_) p_.toNat ∧ S_.2.2.1 34 (0 + cc_) p_.toNat ≤ 4194303 := hI_.2 34 (0 + cc_) _
          refine sm_T_go 2 (c1 := (120, [some (.inr (.inr (some (9, 0)))), some (.inr (.inr (some (2, cc_)))), some (.inl pt_), some (.inl e_), some (.inl nt_), some (.inl sh_), some (.inl p_), some (.inl (-nt_ - 1))], [.inl sh_, .inl (-nt_ - 1), .inl (S_.2.2.1 34 (0 + cc_) p_.toNat), .inl p_, .inr (.inr (some (34, (0 + cc_))))], S_)) rfl ?_
          refine sm_T_bin (w := (i_shl (-nt_ - 1) sh_)) rfl rfl ?_ -- pc_ 120
          refine sm_T_bin (w := (i_or (S_.2.2.1 34 (0 + cc_) p_.toNat) (i_shl (-nt_ - 1) sh_))) rfl rfl ?_ -- pc_ 121
          refine sm_T_iast (n := 4096) rfl rfl (by omega) (by omega) ?_
          have hIx9_ : gi (sm_aI S_ 34 (0 + cc_) p_.toNat (i_or (S_.2.2.1 34 (0 + cc_) p_.toNat) (i_shl (-nt_ - 1) sh_))) := gi_aI hI_ (show 0 ≤ (i_or (S_.2.2.1 34 (0 + cc_) p_.toNat) (i_shl (-nt_ - 1) sh_)) ∧ (i_or (S_.2.2.1 34 (0 + cc_) p_.toNat) (i_shl (-nt_ - 1) sh_)) ≤ 4194303 from ⟨by omega, by omega⟩)
          have hFx10_ : ai_fr (sx_W vw_169n) S0_ (sm_aI S_ 34 (0 + cc_) p_.toNat (i_or (S_.2.2.1 34 (0 + cc_) p_.toNat) (i_shl (-nt_ - 1) sh_))) := ai_fr_tr hF_ (ai_fr_aI rfl)
          have hCx11_ : cdf cc_ S0_ (sm_aI S_ 34 (0 + cc_) p_.toNat (i_or (S_.2.2.1 34 (0 + cc_) p_.toNat) (i_shl (-nt_ - 1) sh_))) := cdf_aI hC_ (Or.inr (by rw [show cof 34 = 0 from rfl] <;> omega))
          refine sm_T_inc (a := 6) (z := 1) (v := p_) (w := p_ + 1) rfl rfl (by omega) (by omega) (by omega) ?_ -- pc_ 123
          refine sm_T_go 1 (c1 := (63, [some (.inr (.inr (some (9, 0)))), some (.inr (.inr (some (2, cc_)))), some (.inl pt_), some (.inl e_), some (.inl nt_), some (.inl sh_), some (.inl (p_ + 1)), some (.inl (-nt_ - 1))], [], sm_aI S_ 34 (0 + cc_) p_.toNat (i_or (S_.2.2.1 34 (0 + cc_) p_.toNat) (i_shl (-nt_ - 1) sh_)))) rfl ?_
          refine sm_T_wk [some (.inr (.inr (some (9, 0)))), some (.inr (.inr (some (2, cc_)))), some (.inl pt_), some (.inl e_), some (.inl nt_), some (.inl sh_), some (.inl (p_ + 1)), none] (by exact ⟨rfl, rfl, rfl, rfl, rfl, rfl, rfl, trivial⟩) ?_
          refine ih_.2 pt_ e_ nt_ sh_ (p_ + 1) (sm_aI S_ 34 (0 + cc_) p_.toNat (i_or (S_.2.2.1 34 (0 + cc_) p_.toNat) (i_shl (-nt_ - 1) sh_))) hIx9_ hFx10_ ⟨?_, ?_, ?_, ?_, ?_, ?_, ?_, ?_, trivial⟩ ?_
          · omega
          · intro p9_ hp9_
            rw [rd_eq]
            by_cases z9_ : p9_ = p_.toNat
            · rw [if_pos z9_]; first | exact or9_ | exact or8_
            · rw [if_neg z9_]; exact ht_ p9_ hp9_
          · exact hpt_
          · exact kcv_fr (w_ := ([], [34], [])) hkv_ (ai_fr_aI rfl)
          · exact hst_
          · exact hls_
          · intro q9_ hq9_
            rw [rd_eq]
            by_cases z9_ : q9_ = p_.toNat
            · have w9_ := hv_ p_.toNat (by omega)
              rw [if_neg (by omega)] at w9_
              rw [if_pos z9_, if_pos (by omega), w9_, z9_, show sh_ = (sht (S0_.1 2 cc_ 3).toNat e_.toNat : Int) from hls_.2]
              exact ktw_or (by omega) (sht_b (r_ := 6) (by omega) (by decide) (by omega)) (by first | exact bv8_ | exact bv9_)
            · rw [if_neg z9_]
              have w9_ := hv_ q9_ hq9_
              by_cases y9_ : (q9_ : Int) < p_
              · rw [if_pos y9_] at w9_; rw [if_pos (by omega)]; exact w9_
              · rw [if_neg y9_] at w9_; rw [if_neg (by omega)]; exact w9_
          · exact hCx11_
          · omega
set_option maxHeartbeats 2000000 in
theorem vc_169n {sc_ : Nat × (Nat → Int)} (cc_ : Nat) (S0_ : sm_S) (hI_ : gi S0_) (hs_ : S0_.1 2 cc_ 1 + S0_.1 2 cc_ 2 ≤ 12) (hn_ : S0_.2.1 9 0 0 = some cc_ → S0_.1 9 0 1 ≠ S0_.1 2 cc_ 19) : sm_T (mt_P sc_) 4 169 (0, [some (.inr (.inr (some (9, 0)))), some (.inr (.inr (some (2, cc_)))), none, none, none, none, none, none], [], S0_) (fun ro9_ => ∃ u_ S1_, ro9_ = (.inl u_, S1_, 0) ∧ vq_169n cc_ S0_ u_ S1_) := by
  have hF_ : ai_fr (sx_W vw_169n) S0_ S0_ := ai_fr_rf
  have hC_ : cdf cc_ S0_ S0_ := cdf_rf
  have c3o : 0 ≤ S0_.1 2 cc_ 3 ∧ S0_.1 2 cc_ 3 ≤ 16 := hI_.1 2 cc_ 3 rfl
  have c2o : 0 ≤ S0_.1 2 cc_ 2 ∧ S0_.1 2 cc_ 2 ≤ 6 := hI_.1 2 cc_ 2 rfl
  refine sm_T_go 2 (c1 := (2, [some (.inr (.inr (some (9, 0)))), some (.inr (.inr (some (2, cc_)))), none, none, none, none, none, none], [.inr (.inr (some (2, cc_))), .inr (.inr (some (9, 0)))], S0_)) rfl ?_
  refine sm_T_cal (d1 := 3) (Q1 := vq_168n cc_ S0_) rfl rfl (by decide) (vc_168n cc_ S0_ hI_ (by omega) (by exact hn_)) (fun u_ Sx1_ px4_ => ?_)
  obtain ⟨rfl, hIx2_, hFx3_, px4_⟩ := px4_
  have hFx5_ : ai_fr (sx_W vw_169n) S0_ Sx1_ := ai_fr_tr hF_ (fr_le hFx3_ rfl)
  have hCx6_ : cdf cc_ S0_ Sx1_ := cdf_tr hC_ (cdf_fr hFx3_ rfl)
  have q1_ := hFx3_.1 2 cc_ 1 rfl
  have q2_ := hFx3_.1 2 cc_ 2 rfl
  have q3_ := hFx3_.1 2 cc_ 3 rfl
  have k2_ := px4_
  refine sm_T_go 3 (c1 := (10, [some (.inr (.inr (some (9, 0)))), some (.inr (.inr (some (2, cc_)))), none, none, none, none, none, none], [.inl 0, .inr (.inr (some (34, (0 + cc_))))], Sx1_)) rfl ?_
  refine sm_T_cal (d1 := 0) (Q1 := vq_2c4 0 cc_ Sx1_) rfl rfl (by decide) (vc_2c4 0 cc_ Sx1_ hIx2_ (by decide)) (fun u_ Sx7_ px10_ => ?_)
  obtain ⟨rfl, hIx8_, hFx9_, px10_⟩ := px10_
  have hFx11_ : ai_fr (sx_W vw_169n) S0_ Sx7_ := ai_fr_tr hFx5_ (fr_le hFx9_ rfl)
  obtain ⟨dx13_, px10_⟩ := px10_
  have hCx12_ : cdf cc_ S0_ Sx7_ := cdf_tr hCx6_ (cdf_cg (by omega) dx13_)
  have e10 := px10_
  have f10_ := hFx9_
  have q1b := hFx9_.1 2 cc_ 1 rfl
  have q2b := hFx9_.1 2 cc_ 2 rfl
  refine sm_T_go 2 (c1 := (15, [some (.inr (.inr (some (9, 0)))), some (.inr (.inr (some (2, cc_)))), none, none, none, none, none, none], [.inr (.inr (some (2, cc_))), .inl 1], Sx7_)) rfl ?_
  refine sm_T_cal (d1 := 0) (Q1 := vq_54 cc_ Sx7_) rfl rfl (by decide) (vc_54 cc_ Sx7_ hIx8_ ) (fun u_ Sx14_ px17_ => ?_)
  obtain ⟨rfl, vx19_, rfl, px17_⟩ := px17_
  have g15_ := px17_
  have g15b : vx19_ = S0_.1 2 cc_ 1 + S0_.1 2 cc_ 2 := by omega
  refine sm_T_bin (w := (i_shl 1 vx19_)) rfl rfl ?_ -- pc_ 18
  have bx20_ := i_shl1 (e := vx19_) (by omega) (by omega)
  have p5_ := pw_le (n := (vx19_).toNat) (m := 12) (by omega)
  have p6_ := pw_pos (vx19_).toNat
  refine sm_T_go 3 (c1 := (22, [some (.inr (.inr (some (9, 0)))), some (.inr (.inr (some (2, cc_)))), some (.inl (i_shl 1 vx19_)), some (.inl 0), none, none, none, none], [], Sx7_)) rfl ?_
  refine (vl_169n cc_ S0_ hs_ hn_ _).1 (i_shl 1 vx19_) 0 Sx7_ hIx8_ hFx11_ ⟨?_, ?_, ?_, ?_, ?_, ?_, ?_, trivial⟩ (Nat.lt_succ_self _)
  · omega
  · (intro p9_ hp9_; rw [e10 p9_ hp9_]; exact ⟨Int.le_refl _, pw_pos _⟩)
  · (rw [← g15b]; first | assumption | omega)
  · exact kcv_fr k2_.2.2 f10_
  · exact ⟨(f10_.1 9 0 1 rfl).trans k2_.2.1, (f10_.2.1 9 0 0 rfl).trans k2_.1⟩
  · (intro q9_ hq9_; rw [e10 q9_ (by omega)]; rfl)
  · exact hCx12_
