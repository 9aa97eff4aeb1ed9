/-! the class: a table of a chip; written by wip/p55/gen/vg -/

/-- the_ nets of_ a_ chip's ends -/
def ket (cc_ : Nat) (S_ : sm_S) (e_ : Nat) : Int := if (e_ : Int) < S_.1 2 cc_ 3 then S_.2.2.1 37 (0 + cc_) e_ else S_.2.2.1 38 (0 + cc_) (e_ - (S_.1 2 cc_ 3).toNat)
theorem ket_fr {w_ : sx_Wl} {cc_ : Nat} {S_ S'_ : sm_S} (f_ : ai_fr (sx_W w_) S_ S'_) (h1_ : (sx_W w_).1 2 3 = false := by rfl) (h2_ : (sx_W w_).2.1 37 = false := by rfl) (h3_ : (sx_W w_).2.1 38 = false := by rfl) : ket cc_ S'_ = ket cc_ S_ := by
  funext e_
  unfold ket
  rw [f_.1 2 cc_ 3 h1_, fr_arr (t := 37) (i := 0 + cc_) f_ h2_, fr_arr (t := 38) (i := 0 + cc_) f_ h3_]
theorem kcv_fr {w_ : sx_Wl} {cc_ : Nat} {S_ S'_ : sm_S} (h_ : kcv cc_ S_) (f_ : ai_fr (sx_W w_) S_ S'_) (h1_ : (sx_W w_).2.1 35 = false := by rfl) (h2_ : (sx_W w_).2.1 36 = false := by rfl) (h3_ : (sx_W w_).2.1 55 = false := by rfl) (h4_ : (sx_W w_).2.1 56 = false := by rfl) (h5_ : (sx_W w_).1 9 2 = false := by rfl) (h6_ : (sx_W w_).1 2 1 = false := by rfl) (h7_ : (sx_W w_).1 2 2 = false := by rfl) (h8_ : (sx_W w_).1 2 8 = false := by rfl) (h9_ : (sx_W w_).2.1 92 = false := by rfl) : kcv cc_ S'_ := by
  have k_ := kcX_fr (cc_ := cc_) f_ h1_ h2_ h3_ h4_
  unfold kcv
  rw [k_.1, k_.2.1, k_.2.2, f_.1 9 0 2 h5_, f_.1 2 cc_ 1 h6_, f_.1 2 cc_ 2 h7_, f_.1 2 cc_ 8 h8_, fr_lon (t_ := 92) (i_ := 0) f_ h9_]
  exact h_
def ktw (o_ : Nat) (R_ : Nat → Int) (kt_ : Nat → Int) (k_ q_ : Nat) : Int := tbw o_ (fun j_ => nev (fun n_ => pvl R_ n_ q_) (kt_ j_)) k_
theorem ktw_or {o_ k_ q_ : Nat} {R_ : Nat → Int} {kt_ : Nat → Int} {b_ : Int} (ho_ : o_ ≤ 16) (hk_ : sht o_ k_ ≤ 21) (hb_ : b_ = if nev (fun n_ => pvl R_ n_ q_) (kt_ k_) = true then 1 else 0) : i_or (ktw o_ R_ kt_ k_ q_) (i_shl b_ (sht o_ k_ : Int)) = ktw o_ R_ kt_ (k_ + 1) q_ := by
  rw [hb_]
  exact tbw_or (f_ := fun j_ => nev (fun n_ => pvl R_ n_ q_) (kt_ j_)) ho_ hk_
theorem nev_m {v_ : Nat → Bool} {n_ : Int} (h_ : n_ = -1 ∨ n_ = -2) : -n_ - 1 = if nev v_ n_ = true then 1 else 0 := by
  rcases h_ with rfl | rfl
  · have e_ : nev v_ (-1) = false := by
      unfold nev
      rw [if_pos rfl]
    rw [e_]
    decide
  · have e_ : nev v_ (-2) = true := by
      unfold nev
      rw [if_neg (by decide), if_pos rfl]
    rw [e_]
    decide
theorem nev_p {R_ : Nat → Int} {n_ p_ : Int} (h_ : 0 ≤ n_) (hp_ : 0 ≤ p_) : l_l2i (l_3 (l_s1 (R_ (64 * n_ + p_ / 64).toNat) (p_ % 64)) 1) = if nev (fun m_ => pvl R_ m_ p_.toNat) n_ = true then 1 else 0 := by
  obtain ⟨q_, rfl⟩ : ∃ q_ : Nat, p_ = (q_ : Int) := ⟨p_.toNat, by omega⟩
  have e_ : nev (fun m_ => pvl R_ m_ q_) n_ = pvl R_ n_.toNat q_ := by
    unfold nev
    rw [if_neg (by omega), if_neg (by omega)]
  rw [Int.toNat_natCast, e_, bitv, show ((q_ : Int) % 64) = ((q_ % 64 : Nat) : Int) by omega, lbt_s1 (Nat.mod_lt _ (by decide)), show (64 * n_ + (q_ : Int) / 64).toNat = 64 * n_.toNat + q_ / 64 by omega]
  rfl
/-- a_ chip's table tells what the_ chip does -/
def kctb (cc_ : Nat) (S_ : sm_S) : Prop := ∀ p_ : Nat, (p_ : Int) < 2 ^ (S_.1 2 cc_ 1 + S_.1 2 cc_ 2).toNat → ∃ v_ : Nat → Bool, cvq (S_.1 2 cc_ 1 + S_.1 2 cc_ 2).toNat (S_.1 2 cc_ 8).toNat (kcT cc_ S_) (kcN cc_ S_) (kcA cc_ S_) p_ v_ ∧ S_.2.2.1 34 (0 + cc_) p_ % 65536 = tbv (fun k_ => nev v_ (S_.2.2.1 37 (0 + cc_) k_)) (S_.1 2 cc_ 3).toNat ∧ S_.2.2.1 34 (0 + cc_) p_ / 65536 = tbv (fun k_ => nev v_ (S_.2.2.1 38 (0 + cc_) k_)) (S_.1 2 cc_ 2).toNat
theorem kctb_of {cc_ : Nat} {S_ : sm_S} (hv_ : kcv cc_ S_) (ho_ : 0 ≤ S_.1 2 cc_ 3 ∧ S_.1 2 cc_ 3 ≤ 16) (ht_ : ∀ q_ : Nat, (q_ : Int) < 2 ^ (S_.1 2 cc_ 1 + S_.1 2 cc_ 2).toNat → S_.2.2.1 34 (0 + cc_) q_ = ktw (S_.1 2 cc_ 3).toNat (S_.2.2.2 92 0) (ket cc_ S_) ((S_.1 2 cc_ 3).toNat + (S_.1 2 cc_ 2).toNat) q_) : kctb cc_ S_ := by
  intro p_ hp_
  refine ⟨fun n_ => pvl (S_.2.2.2 92 0) n_ p_, hv_.2 p_ (by have := hv_.1.2; omega), ?_⟩
  obtain ⟨o_, eo_⟩ : ∃ o_, o_ = (S_.1 2 cc_ 3).toNat := ⟨_, rfl⟩
  obtain ⟨r_, er⟩ : ∃ r_, r_ = (S_.1 2 cc_ 2).toNat := ⟨_, rfl⟩
  have e_ := ht_ p_ hp_
  unfold ktw at e_
  rw [← eo_, ← er] at e_ ⊢
  have n_ := tbw_n (o_ := o_) (f_ := fun j_ => nev (fun n_ => pvl (S_.2.2.2 92 0) n_ p_) (ket cc_ S_ j_)) r_
  rw [n_] at e_
  have b_ := tbv_b (f_ := fun j_ => nev (fun n_ => pvl (S_.2.2.2 92 0) n_ p_) (ket cc_ S_ j_)) o_
  have l_ := pw_le (n := o_) (m := 16) (by omega)
  have l_ : (2 : Int) ^ o_ ≤ 65536 := l_
  have c1_ : tbv (fun j_ => nev (fun n_ => pvl (S_.2.2.2 92 0) n_ p_) (ket cc_ S_ j_)) o_ = tbv (fun k_ => nev (fun n_ => pvl (S_.2.2.2 92 0) n_ p_) (S_.2.2.1 37 (0 + cc_) k_)) o_ := tbv_cg o_ (fun j_ hj_ => by
    show nev _ (ket cc_ S_ j_) = nev _ (S_.2.2.1 37 (0 + cc_) j_)
    unfold ket
    rw [if_pos (by omega)])
  have c2_ : tbv (fun j_ => (fun j_ => nev (fun n_ => pvl (S_.2.2.2 92 0) n_ p_) (ket cc_ S_ j_)) (o_ + j_)) r_ = tbv (fun k_ => nev (fun n_ => pvl (S_.2.2.2 92 0) n_ p_) (S_.2.2.1 38 (0 + cc_) k_)) r_ := tbv_cg r_ (fun j_ hj_ => by
    show nev _ (ket cc_ S_ (o_ + j_)) = nev _ (S_.2.2.1 38 (0 + cc_) j_)
    unfold ket
    rw [if_neg (by omega), ← eo_, show o_ + j_ - o_ = j_ by omega])
  rw [← c1_, ← c2_, e_]
  have fn_ : ∀ x_ y_ : Int, 0 ≤ x_ → x_ < 65536 → (x_ + 65536 * y_) % 65536 = x_ ∧ (x_ + 65536 * y_) / 65536 = y_ := fun x_ y_ h1_ h2_ => by omega
  exact fn_ _ _ b_.1 (by omega)
/-! Chip.endNet -/
def vw_58n : sx_Wl := ([], [], [])
def vq_58n (a1_ : Int) (ii_ : Nat) (S0_ : sm_S) (u_ : Option sm_V) (S1_ : sm_S) : Prop := S0_ = S1_ ∧ ∃ v_ : Int, u_ = some (.inl v_) ∧ ((-2 ≤ v_ ∧ v_ ≤ 161) ∧ v_ = ket ii_ S0_ a1_.toNat)
set_option maxHeartbeats 400000 in
theorem vc_58n {sc_ : Nat × (Nat → Int)} (a1_ : Int) (ii_ : Nat) (S0_ : sm_S) (hI_ : gi S0_) (h1_ : 0 ≤ a1_ ∧ a1_ ≤ 21 ∧ a1_ < S0_.1 2 ii_ 3 + S0_.1 2 ii_ 2) : sm_T (mt_P sc_) 0 58 (0, [some (.inr (.inr (some (2, ii_)))), some (.inl a1_)], [], S0_) (fun ro9_ => ∃ u_ S1_, ro9_ = (.inl u_, S1_, 0) ∧ vq_58n a1_ ii_ S0_ u_ S1_) := by
  have hF_ : ai_fr (sx_W vw_58n) S0_ S0_ := ai_fr_rf
  have c2_ : 0 ≤ S0_.1 2 ii_ 2 ∧ S0_.1 2 ii_ 2 ≤ 6 := hI_.1 2 ii_ 2 rfl
  have c3_ : 0 ≤ S0_.1 2 ii_ 3 ∧ S0_.1 2 ii_ 3 ≤ 16 := hI_.1 2 ii_ 3 rfl
  have bx1_ : 0 ≤ S0_.1 2 ii_ 3 ∧ S0_.1 2 ii_ 3 ≤ 16 := hI_.1 2 ii_ 3 rfl
  refine sm_T_go 3 (c1 := (5, [some (.inr (.inr (some (2, ii_)))), some (.inl a1_)], [.inl (S0_.1 2 ii_ 3), .inl a1_], S0_)) rfl ?_
  refine sm_T_br (a := 3) (z := 12) rfl (fun cx2_ => ?_) (fun cx2_ => ?_)
  · have cx2_ : (S0_.1 2 ii_ 3) ≤ a1_ := of_decide_eq_true cx2_
    refine sm_T_go 5 (c1 := (26, [some (.inr (.inr (some (2, ii_)))), some (.inl a1_)], [.inl (S0_.1 2 ii_ 3), .inl a1_, .inr (.inr (some (38, (0 + ii_))))], S0_)) rfl ?_
    refine sm_T_bin (w := a1_ - (S0_.1 2 ii_ 3)) rfl (bi_sub (by omega) (by omega) (by omega)) ?_ -- pc_ 26
    refine sm_T_iald (n := 6) rfl rfl (by omega) (by omega) ?_
    have bx3_ : (-2) ≤ S0_.2.2.1 38 (0 + ii_) (a1_ - (S0_.1 2 ii_ 3)).toNat ∧ S0_.2.2.1 38 (0 + ii_) (a1_ - (S0_.1 2 ii_ 3)).toNat ≤ 161 := hI_.2 38 (0 + ii_) _
    refine sm_T_ri rfl ⟨_, _, rfl, rfl, _, rfl, ?_⟩
    refine ⟨by omega, ?_⟩
    unfold ket
    first | (rw [if_pos (by omega)]) | (rw [if_neg (by omega), show a1_.toNat - (S0_.1 2 ii_ 3).toNat = (a1_ - S0_.1 2 ii_ 3).toNat by omega])
  · have cx2_ : ¬ ((S0_.1 2 ii_ 3) ≤ a1_) := of_decide_eq_false cx2_
    refine sm_T_go 3 (c1 := (13, [some (.inr (.inr (some (2, ii_)))), some (.inl a1_)], [.inl a1_, .inr (.inr (some (37, (0 + ii_))))], S0_)) rfl ?_
    refine sm_T_iald (n := 16) rfl rfl (by omega) (by omega) ?_
    have bx4_ : (-2) ≤ S0_.2.2.1 37 (0 + ii_) a1_.toNat ∧ S0_.2.2.1 37 (0 + ii_) a1_.toNat ≤ 161 := hI_.2 37 (0 + ii_) _
    refine sm_T_go 1 (c1 := (28, [some (.inr (.inr (some (2, ii_)))), some (.inl a1_)], [.inl (S0_.2.2.1 37 (0 + ii_) a1_.toNat)], S0_)) rfl ?_
    refine sm_T_ri rfl ⟨_, _, rfl, rfl, _, rfl, ?_⟩
    refine ⟨by omega, ?_⟩
    unfold ket
    first | (rw [if_pos (by omega)]) | (rw [if_neg (by omega), show a1_.toNat - (S0_.1 2 ii_ 3).toNat = (a1_ - S0_.1 2 ii_ 3).toNat by omega])
/-! Tester.fillTable -/
