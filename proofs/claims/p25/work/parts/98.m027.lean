/-! 99.zm3a -/
section
/-! paths found; written by wip/p55/gen/vg -/

theorem tpo_fr {w_ : sx_Wl} {S_ S'_ : sm_S} (h_ : tpo S_) (g_ : ai_fr (sx_W w_) S_ S'_) (h1_ : (sx_W w_).1 11 5 = false := by rfl) (a1_ : (sx_W w_).2.1 102 = false := by rfl) (a2_ : (sx_W w_).2.1 104 = false := by rfl) (a3_ : (sx_W w_).2.1 105 = false := by rfl) : tpo S'_ := by
  unfold tpo
  rw [g_.1 11 0 5 h1_, fr_arr g_ a1_, fr_arr g_ a2_, fr_arr g_ a3_]
  exact h_
theorem ttr_fr {w_ : sx_Wl} {S_ S'_ : sm_S} (h_ : ttr S_) (g_ : ai_fr (sx_W w_) S_ S'_) (h1_ : (sx_W w_).1 11 11 = false := by rfl) (a1_ : (sx_W w_).2.1 106 = false := by rfl) : ttr S'_ := by
  unfold ttr
  rw [g_.1 11 0 11 h1_, fr_arr g_ a1_]
  exact h_
/-! Times.lengthen -/
def vw_201 : sx_Wl := ([(11, 5), (11, 11)], [102, 103, 104, 105, 106], [])
def vq_201 (a2_ : Int) (cc_ : Nat) (S0_ : sm_S) (u_ : Option sm_V) (S1_ : sm_S) : Prop := u_ = none ∧ gi S1_ ∧ ai_fr (sx_W vw_201) S0_ S1_ ∧ (tpo S1_)
set_option maxHeartbeats 2000000 in
set_option maxRecDepth 20000 in
theorem vl_201 {sc_ : Nat × (Nat → Int)} (a2_ : Int) (cc_ : Nat) (S0_ : sm_S) (hs_ : S0_.1 2 cc_ 1 + S0_.1 2 cc_ 2 ≤ 12) (hp_ : tpo S0_) (h2_ : 0 ≤ a2_ ∧ a2_ < S0_.1 11 0 5) (hl_ : S0_.2.2.1 105 0 (152 * (S0_.2.2.1 102 0 a2_.toNat) + (S0_.2.2.1 104 0 (S0_.2.2.1 102 0 a2_.toNat).toNat) - 1).toNat < 10000) : ∀ nn_ : Nat, (∀ (bs_ : Int) (ls_ : Int) (ln_ : Int) (k_ : Int) (S_ : sm_S), gi S_ → ai_fr (sx_W vw_201) S0_ S_ → ((0 ≤ bs_ ∧ bs_ ≤ 1782 ∧ 0 ≤ ls_ ∧ ls_ ≤ 161 ∧ 0 ≤ k_ ∧ k_ ≤ 152) ∧ (tpo S_) ∧ (ttr S_) ∧ (1 ≤ S_.1 11 0 11 ∧ S_.1 11 0 11 ≤ 152) ∧ True) → ((90000 - k_).toNat) < nn_ → sm_T (mt_P sc_) 2 201 (74, [some (.inr (.inr (some (11, 0)))), some (.inr (.inr (some (2, cc_)))), some (.inl a2_), none, some (.inl bs_), some (.inl ls_), some (.inl ln_), some (.inl k_), none, none, none], [], S_) (fun ro9_ => ∃ u_ S1_, ro9_ = (.inl u_, S1_, 0) ∧ vq_201 a2_ cc_ S0_ u_ S1_)) ∧ (∀ (bs_ : Int) (ls_ : Int) (ln_ : Int) (g_ : Int) (S_ : sm_S), gi S_ → ai_fr (sx_W vw_201) S0_ S_ → ((0 ≤ bs_ ∧ bs_ ≤ 1782 ∧ 0 ≤ ls_ ∧ ls_ ≤ 161 ∧ 0 ≤ g_ ∧ g_ ≤ 162) ∧ (tpo S_) ∧ (ttr S_) ∧ (1 ≤ S_.1 11 0 11 ∧ S_.1 11 0 11 ≤ 152) ∧ True) → ((10000 + 10 * (500 - g_) + 9).toNat) < nn_ → sm_T (mt_P sc_) 2 201 (121, [some (.inr (.inr (some (11, 0)))), some (.inr (.inr (some (2, cc_)))), some (.inl a2_), none, some (.inl bs_), some (.inl ls_), some (.inl ln_), some (.inl g_), none, none, none], [], S_) (fun ro9_ => ∃ u_ S1_, ro9_ = (.inl u_, S1_, 0) ∧ vq_201 a2_ cc_ S0_ u_ S1_)) ∧ (∀ (bs_ : Int) (ls_ : Int) (ln_ : Int) (g_ : Int) (nt_ : Int) (fo_ : Int) (k_ : Int) (S_ : sm_S), gi S_ → ai_fr (sx_W vw_201) S0_ S_ → ((0 ≤ bs_ ∧ bs_ ≤ 1782 ∧ 0 ≤ ls_ ∧ ls_ ≤ 161 ∧ 0 ≤ g_ ∧ g_ < 150 ∧ 0 ≤ nt_ ∧ nt_ ≤ 161 ∧ 0 ≤ fo_ ∧ fo_ ≤ 1 ∧ 0 ≤ k_ ∧ k_ ≤ 3) ∧ (tpo S_) ∧ (ttr S_) ∧ (1 ≤ S_.1 11 0 11 ∧ S_.1 11 0 11 ≤ 152) ∧ True) → ((10000 + 10 * (500 - g_) + 8 - k_).toNat) < nn_ → sm_T (mt_P sc_) 2 201 (145, [some (.inr (.inr (some (11, 0)))), some (.inr (.inr (some (2, cc_)))), some (.inl a2_), none, some (.inl bs_), some (.inl ls_), some (.inl ln_), some (.inl g_), some (.inl nt_), some (.inl fo_), some (.inl k_)], [], S_) (fun ro9_ => ∃ u_ S1_, ro9_ = (.inl u_, S1_, 0) ∧ vq_201 a2_ cc_ S0_ u_ S1_)) ∧ (∀ (bs_ : Int) (ls_ : Int) (ln_ : Int) (e_ : Int) (S_ : sm_S), gi S_ → ai_fr (sx_W vw_201) S0_ S_ → ((0 ≤ bs_ ∧ bs_ ≤ 1782 ∧ 0 ≤ ls_ ∧ ls_ ≤ 161 ∧ 0 ≤ e_ ∧ e_ ≤ 22) ∧ (tpo S_) ∧ (ttr S_) ∧ (1 ≤ S_.1 11 0 11 ∧ S_.1 11 0 11 ≤ 152) ∧ True) → ((100 - e_).toNat) < nn_ → sm_T (mt_P sc_) 2 201 (231, [some (.inr (.inr (some (11, 0)))), some (.inr (.inr (some (2, cc_)))), some (.inl a2_), none, some (.inl bs_), some (.inl ls_), some (.inl ln_), some (.inl e_), none, none, none], [], S_) (fun ro9_ => ∃ u_ S1_, ro9_ = (.inl u_, S1_, 0) ∧ vq_201 a2_ cc_ S0_ u_ S1_)) := by
  intro nn_
  induction nn_ with
  | zero => exact ⟨fun _ _ _ _ _ _ _ _ h_ => absurd h_ (Nat.not_lt_zero _), fun _ _ _ _ _ _ _ _ h_ => absurd h_ (Nat.not_lt_zero _), fun _ _ _ _ _ _ _ _ _ _ _ h_ => absurd h_ (Nat.not_lt_zero _), fun _ _ _ _ _ _ _ _ h_ => absurd h_ (Nat.not_lt_zero _)⟩
  | succ nn_ ih_ =>
    refine ⟨?_, ?_, ?_, ?_⟩
    · rintro bs_ ls_ ln_ k_ S_ hI_ hF_ ⟨h0_, ht_, hr_, hn_, -⟩ hm_
      have z1_ : S_.1 2 cc_ 1 = S0_.1 2 cc_ 1 := hF_.1 2 cc_ 1 rfl
      have z2_ : S_.1 2 cc_ 2 = S0_.1 2 cc_ 2 := hF_.1 2 cc_ 2 rfl
      have cg9_ : 0 ≤ S_.1 2 cc_ 8 ∧ S_.1 2 cc_ 8 ≤ 150 := hI_.1 2 cc_ 8 rfl
      have ci_ : 0 ≤ S_.1 2 cc_ 1 ∧ S_.1 2 cc_ 1 ≤ 12 := hI_.1 2 cc_ 1 rfl
      have cr : 0 ≤ S_.1 2 cc_ 2 ∧ S_.1 2 cc_ 2 ≤ 6 := hI_.1 2 cc_ 2 rfl
      have bx1_ : 0 ≤ S_.1 11 0 11 ∧ S_.1 11 0 11 ≤ 152 := hI_.1 11 0 11 rfl
      refine sm_T_go 3 (c1 := (80, [some (.inr (.inr (some (11, 0)))), some (.inr (.inr (some (2, cc_)))), some (.inl a2_), none, some (.inl bs_), some (.inl ls_), some (.inl ln_), some (.inl k_), none, none, none], [.inl (S_.1 11 0 11), .inl k_], S_)) rfl ?_
      refine sm_T_br (a := 3) (z := 26) rfl (fun cx2_ => ?_) (fun cx2_ => ?_)
      · have cx2_ : (S_.1 11 0 11) ≤ k_ := of_decide_eq_true cx2_
        refine sm_T_go 3 (c1 := (110, [some (.inr (.inr (some (11, 0)))), some (.inr (.inr (some (2, cc_)))), some (.inl a2_), none, some (.inl bs_), some (.inl ls_), some (.inl ln_), some (.inl k_), none, none, none], [.inr (.inr (some (2, cc_))), .inl ls_, .inl 0], S_)) rfl ?_
        refine sm_T_cal (d1 := 0) (Q1 := vq_54 cc_ S_) rfl rfl (by decide) (vc_54 cc_ S_ hI_ ) (fun u_ Sx3_ px6_ => ?_)
        obtain ⟨rfl, vx8_, rfl, px6_⟩ := px6_
        have fg110_ := px6_.2
        refine sm_T_bin (w := ls_ - vx8_) rfl (bi_sub (by omega) (by omega) (by omega)) ?_ -- pc_ 113
        refine sm_T_go 1 (c1 := (115, [some (.inr (.inr (some (11, 0)))), some (.inr (.inr (some (2, cc_)))), some (.inl a2_), none, some (.inl bs_), some (.inl ls_), some (.inl ln_), some (.inl k_), none, none, none], [.inl 1, .inl (ls_ - vx8_), .inl 0], S_)) rfl ?_
        refine sm_T_bin (w := ls_ - vx8_ + 1) rfl (bi_add (by omega) (by omega) (by omega)) ?_ -- pc_ 115
        refine sm_T_nt (u := some (.inl (sm_mx 0 (ls_ - vx8_ + 1)))) (S1 := S_) rfl rfl rfl ?_
        have bx9_ := sm_mx_d 0 (ls_ - vx8_ + 1)
        refine sm_T_go 1 (c1 := (121, [some (.inr (.inr (some (11, 0)))), some (.inr (.inr (some (2, cc_)))), some (.inl a2_), none, some (.inl bs_), some (.inl ls_), some (.inl ln_), some (.inl (sm_mx 0 (ls_ - vx8_ + 1))), none, none, none], [], S_)) rfl ?_
        refine ih_.2.1 bs_ ls_ ln_ (sm_mx 0 (ls_ - vx8_ + 1)) S_ hI_ hF_ ⟨?_, ?_, ?_, ?_, trivial⟩ ?_
        · omega
        · first | exact ht_
        · first | exact hr_
        · first | exact hn_
        · omega
      · have cx2_ : ¬ ((S_.1 11 0 11) ≤ k_) := of_decide_eq_false cx2_
        have k9_ := hr_.1 k_.toNat (by omega)
        refine sm_T_go 6 (c1 := (95, [some (.inr (.inr (some (11, 0)))), some (.inr (.inr (some (2, cc_)))), some (.inl a2_), none, some (.inl bs_), some (.inl ls_), some (.inl ln_), some (.inl k_), none, none, none], [.inl k_, .inr (.inr (some (106, 0))), .inr (.inr (some (99, 0))), .inl ln_], S_)) rfl ?_
        refine sm_T_iald (n := 152) rfl rfl (by omega) (by omega) ?_
        have bx10_ : 0 ≤ S_.2.2.1 106 0 k_.toNat ∧ S_.2.2.1 106 0 k_.toNat ≤ 10161 := hI_.2 106 0 _
        refine sm_T_iald (n := 162) rfl rfl (by omega) (by omega) ?_
        have bx11_ : (-2147483648) ≤ S_.2.2.1 99 0 (S_.2.2.1 106 0 k_.toNat).toNat ∧ S_.2.2.1 99 0 (S_.2.2.1 106 0 k_.toNat).toNat ≤ 2147483647 := hI_.2 99 0 _
        refine sm_T_bin (w := (i_add ln_ (S_.2.2.1 99 0 (S_.2.2.1 106 0 k_.toNat).toNat))) rfl rfl ?_ -- pc_ 97
        have bx12_ := i_add_r ln_ (S_.2.2.1 99 0 (S_.2.2.1 106 0 k_.toNat).toNat)
        refine sm_T_go 1 (c1 := (100, [some (.inr (.inr (some (11, 0)))), some (.inr (.inr (some (2, cc_)))), some (.inl a2_), none, some (.inl bs_), some (.inl ls_), some (.inl (i_add ln_ (S_.2.2.1 99 0 (S_.2.2.1 106 0 k_.toNat).toNat))), some (.inl k_), none, none, none], [], S_)) rfl ?_
        refine sm_T_inc (a := 7) (z := 1) (v := k_) (w := k_ + 1) rfl rfl (by omega) (by omega) (by omega) ?_ -- pc_ 100
        refine sm_T_go 1 (c1 := (74, [some (.inr (.inr (some (11, 0)))), some (.inr (.inr (some (2, cc_)))), some (.inl a2_), none, some (.inl bs_), some (.inl ls_), some (.inl (i_add ln_ (S_.2.2.1 99 0 (S_.2.2.1 106 0 k_.toNat).toNat))), some (.inl (k_ + 1)), none, none, none], [], S_)) rfl ?_
        refine ih_.1 bs_ ls_ (i_add ln_ (S_.2.2.1 99 0 (S_.2.2.1 106 0 k_.toNat).toNat)) (k_ + 1) S_ hI_ hF_ ⟨?_, ?_, ?_, ?_, trivial⟩ ?_
        · omega
        · first | exact ht_
        · first | exact hr_
        · first | exact hn_
        · omega
    · rintro bs_ ls_ ln_ g_ S_ hI_ hF_ ⟨h0_, ht_, hr_, hn_, -⟩ hm_
      have z1_ : S_.1 2 cc_ 1 = S0_.1 2 cc_ 1 := hF_.1 2 cc_ 1 rfl
      have z2_ : S_.1 2 cc_ 2 = S0_.1 2 cc_ 2 := hF_.1 2 cc_ 2 rfl
      have cg9_ : 0 ≤ S_.1 2 cc_ 8 ∧ S_.1 2 cc_ 8 ≤ 150 := hI_.1 2 cc_ 8 rfl
      have ci_ : 0 ≤ S_.1 2 cc_ 1 ∧ S_.1 2 cc_ 1 ≤ 12 := hI_.1 2 cc_ 1 rfl
      have cr : 0 ≤ S_.1 2 cc_ 2 ∧ S_.1 2 cc_ 2 ≤ 6 := hI_.1 2 cc_ 2 rfl
      have bx1_ : 0 ≤ S_.1 2 cc_ 8 ∧ S_.1 2 cc_ 8 ≤ 150 := hI_.1 2 cc_ 8 rfl
      refine sm_T_go 3 (c1 := (127, [some (.inr (.inr (some (11, 0)))), some (.inr (.inr (some (2, cc_)))), some (.inl a2_), none, some (.inl bs_), some (.inl ls_), some (.inl ln_), some (.inl g_), none, none, none], [.inl (S_.1 2 cc_ 8), .inl g_], S_)) rfl ?_
      refine sm_T_br (a := 3) (z := 101) rfl (fun cx2_ => ?_) (fun cx2_ => ?_)
      · have cx2_ : (S_.1 2 cc_ 8) ≤ g_ := of_decide_eq_true cx2_
        refine sm_T_go 2 (c1 := (231, [some (.inr (.inr (some (11, 0)))), some (.inr (.inr (some (2, cc_)))), some (.inl a2_), none, some (.inl bs_), some (.inl ls_), some (.inl ln_), some (.inl 0), none, none, none], [], S_)) rfl ?_
        refine ih_.2.2.2 bs_ ls_ ln_ 0 S_ hI_ hF_ ⟨?_, ?_, ?_, ?_, trivial⟩ ?_
        · omega
        · first | exact ht_
        · first | exact hr_
        · first | exact hn_
        · omega
      · have cx2_ : ¬ ((S_.1 2 cc_ 8) ≤ g_) := of_decide_eq_false cx2_
        refine sm_T_go 1 (c1 := (131, [some (.inr (.inr (some (11, 0)))), some (.inr (.inr (some (2, cc_)))), some (.inl a2_), none, some (.inl bs_), some (.inl ls_), some (.inl ln_), some (.inl g_), none, none, none], [.inr (.inr (some (2, cc_)))], S_)) rfl ?_
        refine sm_T_cal (d1 := 0) (Q1 := vq_54 cc_ S_) rfl rfl (by decide) (vc_54 cc_ S_ hI_ ) (fun u_ Sx3_ px6_ => ?_)
        obtain ⟨rfl, vx8_, rfl, px6_⟩ := px6_
        have fg131_ := px6_.2
        refine sm_T_go 1 (c1 := (136, [some (.inr (.inr (some (11, 0)))), some (.inr (.inr (some (2, cc_)))), some (.inl a2_), none, some (.inl bs_), some (.inl ls_), some (.inl ln_), some (.inl g_), none, none, none], [.inl g_, .inl vx8_], S_)) rfl ?_
        refine sm_T_bin (w := vx8_ + g_) rfl (bi_add (by omega) (by omega) (by omega)) ?_ -- pc_ 136
        refine sm_T_go 5 (c1 := (145, [some (.inr (.inr (some (11, 0)))), some (.inr (.inr (some (2, cc_)))), some (.inl a2_), none, some (.inl bs_), some (.inl ls_), some (.inl ln_), some (.inl g_), some (.inl (vx8_ + g_)), some (.inl 0), some (.inl 0)], [], S_)) rfl ?_
        refine ih_.2.2.1 bs_ ls_ ln_ g_ (vx8_ + g_) 0 0 S_ hI_ hF_ ⟨?_, ?_, ?_, ?_, trivial⟩ ?_
        · omega
        · first | exact ht_
        · first | exact hr_
        · first | exact hn_
        · omega
    · rintro bs_ ls_ ln_ g_ nt_ fo_ k_ S_ hI_ hF_ ⟨h0_, ht_, hr_, hn_, -⟩ hm_
      have z1_ : S_.1 2 cc_ 1 = S0_.1 2 cc_ 1 := hF_.1 2 cc_ 1 rfl
      have z2_ : S_.1 2 cc_ 2 = S0_.1 2 cc_ 2 := hF_.1 2 cc_ 2 rfl
      have cg9_ : 0 ≤ S_.1 2 cc_ 8 ∧ S_.1 2 cc_ 8 ≤ 150 := hI_.1 2 cc_ 8 rfl
      have ci_ : 0 ≤ S_.1 2 cc_ 1 ∧ S_.1 2 cc_ 1 ≤ 12 := hI_.1 2 cc_ 1 rfl
      have cr : 0 ≤ S_.1 2 cc_ 2 ∧ S_.1 2 cc_ 2 ≤ 6 := hI_.1 2 cc_ 2 rfl
      refine sm_T_go 3 (c1 := (150, [some (.inr (.inr (some (11, 0)))), some (.inr (.inr (some (2, cc_)))), some (.inl a2_), none, some (.inl bs_), some (.inl ls_), some (.inl ln_), some (.inl g_), some (.inl nt_), some (.inl fo_), some (.inl k_)], [.inl g_, .inr (.inr (some (2, cc_))), .inl k_], S_)) rfl ?_
      refine sm_T_cal (d1 := 0) (Q1 := vq_59 g_ cc_ S_) rfl rfl (by decide) (vc_59 g_ cc_ S_ hI_ (by omega)) (fun u_ Sx1_ px4_ => ?_)
      obtain ⟨rfl, vx6_, rfl, px4_⟩ := px4_
      have gi150_ := px4_.1
      refine sm_T_br (a := 3) (z := 38) rfl (fun cx7_ => ?_) (fun cx7_ => ?_)
      · have cx7_ : vx6_ ≤ k_ := of_decide_eq_true cx7_
        refine sm_T_go 1 (c1 := (193, [some (.inr (.inr (some (11, 0)))), some (.inr (.inr (some (2, cc_)))), some (.inl a2_), none, some (.inl bs_), some (.inl ls_), some (.inl ln_), some (.inl g_), some (.inl nt_), some (.inl fo_), some (.inl k_)], [.inl fo_], S_)) rfl ?_
        refine sm_T_b0 (a := 0) (z := 29) rfl (fun cx8_ => ?_) (fun cx8_ => ?_)
        · have cx8_ : fo_ = 0 := of_decide_eq_true cx8_
          refine sm_T_inc (a := 7) (z := 1) (v := g_) (w := g_ + 1) rfl rfl (by omega) (by omega) (by omega) ?_ -- pc_ 222
          refine sm_T_go 1 (c1 := (121, [some (.inr (.inr (some (11, 0)))), some (.inr (.inr (some (2, cc_)))), some (.inl a2_), none, some (.inl bs_), some (.inl ls_), some (.inl ln_), some (.inl (g_ + 1)), some (.inl nt_), some (.inl fo_), some (.inl k_)], [], S_)) rfl ?_
          refine sm_T_wk [some (.inr (.inr (some (11, 0)))), some (.inr (.inr (some (2, cc_)))), some (.inl a2_), none, some (.inl bs_), some (.inl ls_), some (.inl ln_), some (.inl (g_ + 1)), none, none, none] (by exact ⟨rfl, rfl, rfl, rfl, rfl, rfl, rfl, trivial⟩) ?_
          refine ih_.2.1 bs_ ls_ ln_ (g_ + 1) S_ hI_ hF_ ⟨?_, ?_, ?_, ?_, trivial⟩ ?_
          · omega
          · first | exact ht_ | exact o219_
          · first | exact hr_ | exact r219_
          · first | exact hn_ | (rw [n219_]; exact hn_)
          · omega
        · have cx8_ : ¬ (fo_ = 0) := of_decide_eq_false cx8_
          refine sm_T_go 6 (c1 := (207, [some (.inr (.inr (some (11, 0)))), some (.inr (.inr (some (2, cc_)))), some (.inl a2_), none, some (.inl bs_), some (.inl ls_), some (.inl ln_), some (.inl g_), some (.inl nt_), some (.inl fo_), some (.inl k_)], [.inl nt_, .inr (.inr (some (99, 0))), .inl ln_, .inl nt_, .inr (.inr (some (11, 0)))], S_)) rfl ?_
          refine sm_T_iald (n := 162) rfl rfl (by omega) (by omega) ?_
          have bx9_ : (-2147483648) ≤ S_.2.2.1 99 0 nt_.toNat ∧ S_.2.2.1 99 0 nt_.toNat ≤ 2147483647 := hI_.2 99 0 _
          refine sm_T_bin (w := (i_add ln_ (S_.2.2.1 99 0 nt_.toNat))) rfl rfl ?_ -- pc_ 208
          have bx10_ := i_add_r ln_ (S_.2.2.1 99 0 nt_.toNat)
          refine sm_T_go 4 (c1 := (217, [some (.inr (.inr (some (11, 0)))), some (.inr (.inr (some (2, cc_)))), some (.inl a2_), none, some (.inl bs_), some (.inl ls_), some (.inl ln_), some (.inl g_), some (.inl nt_), some (.inl fo_), some (.inl k_)], [.inl nt_, .inl bs_, .inr (.inr (some (101, 0))), .inl (i_add ln_ (S_.2.2.1 99 0 nt_.toNat)), .inl nt_, .inr (.inr (some (11, 0)))], S_)) rfl ?_
          refine sm_T_bin (w := bs_ + nt_) rfl (bi_add (by omega) (by omega) (by omega)) ?_ -- pc_ 217
          refine sm_T_iald (n := 1944) rfl rfl (by omega) (by omega) ?_
          have bx11_ : (-2147483648) ≤ S_.2.2.1 101 0 (bs_ + nt_).toNat ∧ S_.2.2.1 101 0 (bs_ + nt_).toNat ≤ 2147483647 := hI_.2 101 0 _
          refine sm_T_cal (d1 := 1) (Q1 := vq_203 nt_ (i_add ln_ (S_.2.2.1 99 0 nt_.toNat)) (S_.2.2.1 101 0 (bs_ + nt_).toNat) S_) rfl rfl (by decide) (vc_203 nt_ (i_add ln_ (S_.2.2.1 99 0 nt_.toNat)) (S_.2.2.1 101 0 (bs_ + nt_).toNat) S_ hI_ (by exact ht_) (by exact hr_) (by omega) (by (intro u9_; exfalso; omega))) (fun u_ Sx12_ px15_ => ?_)
          obtain ⟨rfl, hIx13_, hFx14_, px15_⟩ := px15_
          have hFx16_ : ai_fr (sx_W vw_201) S0_ Sx12_ := ai_fr_tr hF_ (fr_le hFx14_ rfl)
          have o219_ := px15_
          have r219_ := ttr_fr hr_ hFx14_
          have n219_ := hFx14_.1 11 0 11 rfl
          refine sm_T_inc (a := 7) (z := 1) (v := g_) (w := g_ + 1) rfl rfl (by omega) (by omega) (by omega) ?_ -- pc_ 222
          refine sm_T_go 1 (c1 := (121, [some (.inr (.inr (some (11, 0)))), some (.inr (.inr (some (2, cc_)))), some (.inl a2_), none, some (.inl bs_), some (.inl ls_), some (.inl ln_), some (.inl (g_ + 1)), some (.inl nt_), some (.inl fo_), some (.inl k_)], [], Sx12_)) rfl ?_
          refine sm_T_wk [some (.inr (.inr (some (11, 0)))), some (.inr (.inr (some (2, cc_)))), some (.inl a2_), none, some (.inl bs_), some (.inl ls_), some (.inl ln_), some (.inl (g_ + 1)), none, none, none] (by exact ⟨rfl, rfl, rfl, rfl, rfl, rfl, rfl, trivial⟩) ?_
          refine ih_.2.1 bs_ ls_ ln_ (g_ + 1) Sx12_ hIx13_ hFx16_ ⟨?_, ?_, ?_, ?_, trivial⟩ ?_
          · omega
          · first | exact ht_ | exact o219_
          · first | exact hr_ | exact r219_
          · first | exact hn_ | (rw [n219_]; exact hn_)
          · omega
      · have cx7_ : ¬ (vx6_ ≤ k_) := of_decide_eq_false cx7_
        refine sm_T_go 1 (c1 := (158, [some (.inr (.inr (some (11, 0)))), some (.inr (.inr (some (2, cc_)))), some (.inl a2_), none, some (.inl bs_), some (.inl ls_), some (.inl ln_), some (.inl g_), some (.inl nt_), some (.inl fo_), some (.inl k_)], [.inl fo_], S_)) rfl ?_
        refine sm_T_b0 (a := 1) (z := 20) rfl (fun cx17_ => ?_) (fun cx17_ => ?_)
        · have cx17_ : fo_ ≠ 0 := of_decide_eq_true cx17_
          refine sm_T_go 3 (c1 := (185, [some (.inr (.inr (some (11, 0)))), some (.inr (.inr (some (2, cc_)))), some (.inl a2_), none, some (.inl bs_), some (.inl ls_), some (.inl ln_), some (.inl g_), some (.inl nt_), some (.inl 1), some (.inl k_)], [], S_)) rfl ?_
          refine sm_T_inc (a := 10) (z := 1) (v := k_) (w := k_ + 1) rfl rfl (by omega) (by omega) (by omega) ?_ -- pc_ 185
          refine sm_T_go 1 (c1 := (145, [some (.inr (.inr (some (11, 0)))), some (.inr (.inr (some (2, cc_)))), some (.inl a2_), none, some (.inl bs_), some (.inl ls_), some (.inl ln_), some (.inl g_), some (.inl nt_), some (.inl 1), some (.inl (k_ + 1))], [], S_)) rfl ?_
          refine ih_.2.2.1 bs_ ls_ ln_ g_ nt_ 1 (k_ + 1) S_ hI_ hF_ ⟨?_, ?_, ?_, ?_, trivial⟩ ?_
          · omega
          · first | exact ht_
          · first | exact hr_
          · first | exact hn_
          · omega
        · have cx17_ : ¬ (fo_ ≠ 0) := of_decide_eq_false cx17_
          refine sm_T_go 4 (c1 := (168, [some (.inr (.inr (some (11, 0)))), some (.inr (.inr (some (2, cc_)))), some (.inl a2_), none, some (.inl bs_), some (.inl ls_), some (.inl ln_), some (.inl g_), some (.inl nt_), some (.inl fo_), some (.inl k_)], [.inl g_, .inl 3, .inr (.inr (some (36, (0 + cc_))))], S_)) rfl ?_
          refine sm_T_bin (w := 3 * g_) rfl (bi_mul (by omega) (by omega) (by omega)) ?_ -- pc_ 168
          refine sm_T_go 1 (c1 := (171, [some (.inr (.inr (some (11, 0)))), some (.inr (.inr (some (2, cc_)))), some (.inl a2_), none, some (.inl bs_), some (.inl ls_), some (.inl ln_), some (.inl g_), some (.inl nt_), some (.inl fo_), some (.inl k_)], [.inl k_, .inl (3 * g_), .inr (.inr (some (36, (0 + cc_))))], S_)) rfl ?_
          refine sm_T_bin (w := 3 * g_ + k_) rfl (bi_add (by omega) (by omega) (by omega)) ?_ -- pc_ 171
          refine sm_T_iald (n := 450) rfl rfl (by omega) (by omega) ?_
          have bx18_ : 0 ≤ S_.2.2.1 36 (0 + cc_) (3 * g_ + k_).toNat ∧ S_.2.2.1 36 (0 + cc_) (3 * g_ + k_).toNat ≤ 161 := hI_.2 36 (0 + cc_) _
          refine sm_T_go 1 (c1 := (175, [some (.inr (.inr (some (11, 0)))), some (.inr (.inr (some (2, cc_)))), some (.inl a2_), none, some (.inl bs_), some (.inl ls_), some (.inl ln_), some (.inl g_), some (.inl nt_), some (.inl fo_), some (.inl k_)], [.inl ls_, .inl (S_.2.2.1 36 (0 + cc_) (3 * g_ + k_).toNat)], S_)) rfl ?_
          refine sm_T_br (a := 1) (z := 7) rfl (fun cx19_ => ?_) (fun cx19_ => ?_)
          · have cx19_ : (S_.2.2.1 36 (0 + cc_) (3 * g_ + k_).toNat) ≠ ls_ := of_decide_eq_true cx19_
            refine sm_T_go 2 (c1 := (185, [some (.inr (.inr (some (11, 0)))), some (.inr (.inr (some (2, cc_)))), some (.inl a2_), none, some (.inl bs_), some (.inl ls_), some (.inl ln_), some (.inl g_), some (.inl nt_), some (.inl 0), some (.inl k_)], [], S_)) rfl ?_
            refine sm_T_inc (a := 10) (z := 1) (v := k_) (w := k_ + 1) rfl rfl (by omega) (by omega) (by omega) ?_ -- pc_ 185
            refine sm_T_go 1 (c1 := (145, [some (.inr (.inr (some (11, 0)))), some (.inr (.inr (some (2, cc_)))), some (.inl a2_), none, some (.inl bs_), some (.inl ls_), some (.inl ln_), some (.inl g_), some (.inl nt_), some (.inl 0), some (.inl (k_ + 1))], [], S_)) rfl ?_
            refine ih_.2.2.1 bs_ ls_ ln_ g_ nt_ 0 (k_ + 1) S_ hI_ hF_ ⟨?_, ?_, ?_, ?_, trivial⟩ ?_
            · omega
            · first | exact ht_
            · first | exact hr_
            · first | exact hn_
            · omega
          · have cx19_ : ¬ ((S_.2.2.1 36 (0 + cc_) (3 * g_ + k_).toNat) ≠ ls_) := of_decide_eq_false cx19_
            refine sm_T_go 3 (c1 := (185, [some (.inr (.inr (some (11, 0)))), some (.inr (.inr (some (2, cc_)))), some (.inl a2_), none, some (.inl bs_), some (.inl ls_), some (.inl ln_), some (.inl g_), some (.inl nt_), some (.inl 1), some (.inl k_)], [], S_)) rfl ?_
            refine sm_T_inc (a := 10) (z := 1) (v := k_) (w := k_ + 1) rfl rfl (by omega) (by omega) (by omega) ?_ -- pc_ 185
            refine sm_T_go 1 (c1 := (145, [some (.inr (.inr (some (11, 0)))), some (.inr (.inr (some (2, cc_)))), some (.inl a2_), none, some (.inl bs_), some (.inl ls_), some (.inl ln_), some (.inl g_), some (.inl nt_), some (.inl 1), some (.inl (k_ + 1))], [], S_)) rfl ?_
            refine ih_.2.2.1 bs_ ls_ ln_ g_ nt_ 1 (k_ + 1) S_ hI_ hF_ ⟨?_, ?_, ?_, ?_, trivial⟩ ?_
            · omega
            · first | exact ht_
            · first | exact hr_
            · first | exact hn_
            · omega
    · rintro bs_ ls_ ln_ e_ S_ hI_ hF_ ⟨h0_, ht_, hr_, hn_, -⟩ hm_
      have z1_ : S_.1 2 cc_ 1 = S0_.1 2 cc_ 1 := hF_.1 2 cc_ 1 rfl
      have z2_ : S_.1 2 cc_ 2 = S0_.1 2 cc_ 2 := hF_.1 2 cc_ 2 rfl
      have cg9_ : 0 ≤ S_.1 2 cc_ 8 ∧ S_.1 2 cc_ 8 ≤ 150 := hI_.1 2 cc_ 8 rfl
      have ci_ : 0 ≤ S_.1 2 cc_ 1 ∧ S_.1 2 cc_ 1 ≤ 12 := hI_.1 2 cc_ 1 rfl
      have cr : 0 ≤ S_.1 2 cc_ 2 ∧ S_.1 2 cc_ 2 ≤ 6 := hI_.1 2 cc_ 2 rfl
      have co_ : 0 ≤ S_.1 2 cc_ 3 ∧ S_.1 2 cc_ 3 ≤ 16 := hI_.1 2 cc_ 3 rfl
      refine sm_T_go 2 (c1 := (234, [some (.inr (.inr (some (11, 0)))), some (.inr (.inr (some (2, cc_)))), some (.inl a2_), none, some (.inl bs_), some (.inl ls_), some (.inl ln_), some (.inl e_), none, none, none], [.inr (.inr (some (2, cc_))), .inl e_], S_)) rfl ?_
      refine sm_T_cal (d1 := 0) (Q1 := vq_57 cc_ S_) rfl rfl (by decide) (vc_57 cc_ S_ hI_ ) (fun u_ Sx1_ px4_ => ?_)
      obtain ⟨rfl, vx6_, rfl, px4_⟩ := px4_
      have nt234_ := px4_.2
      refine sm_T_br (a := 3) (z := 65) rfl (fun cx7_ => ?_) (fun cx7_ => ?_)
      · have cx7_ : vx6_ ≤ e_ := of_decide_eq_true cx7_
        refine sm_T_rv rfl ⟨_, _, rfl, rfl, hI_, hF_, ?_⟩
        exact ht_
      · have cx7_ : ¬ (vx6_ ≤ e_) := of_decide_eq_false cx7_
        refine sm_T_go 2 (c1 := (243, [some (.inr (.inr (some (11, 0)))), some (.inr (.inr (some (2, cc_)))), some (.inl a2_), none, some (.inl bs_), some (.inl ls_), some (.inl ln_), some (.inl e_), none, none, none], [.inl e_, .inr (.inr (some (2, cc_)))], S_)) rfl ?_
        refine sm_T_cal (d1 := 0) (Q1 := vq_58 e_ cc_ S_) rfl rfl (by decide) (vc_58 e_ cc_ S_ hI_ (by omega)) (fun u_ Sx8_ px11_ => ?_)
        obtain ⟨rfl, vx13_, rfl, px11_⟩ := px11_
        have en243_ := px11_
        refine sm_T_go 1 (c1 := (248, [some (.inr (.inr (some (11, 0)))), some (.inr (.inr (some (2, cc_)))), some (.inl a2_), none, some (.inl bs_), some (.inl ls_), some (.inl ln_), some (.inl e_), none, none, none], [.inl ls_, .inl vx13_], S_)) rfl ?_
        refine sm_T_br (a := 1) (z := 48) rfl (fun cx14_ => ?_) (fun cx14_ => ?_)
        · have cx14_ : vx13_ ≠ ls_ := of_decide_eq_true cx14_
          refine sm_T_inc (a := 7) (z := 1) (v := e_) (w := e_ + 1) rfl rfl (by omega) (by omega) (by omega) ?_ -- pc_ 296
          refine sm_T_go 1 (c1 := (231, [some (.inr (.inr (some (11, 0)))), some (.inr (.inr (some (2, cc_)))), some (.inl a2_), none, some (.inl bs_), some (.inl ls_), some (.inl ln_), some (.inl (e_ + 1)), none, none, none], [], S_)) rfl ?_
          refine ih_.2.2.2 bs_ ls_ ln_ (e_ + 1) S_ hI_ hF_ ⟨?_, ?_, ?_, ?_, trivial⟩ ?_
          · omega
          · first | exact ht_ | exact o293_
          · first | exact hr_ | exact r293_
          · first | exact hn_ | (rw [n293_]; exact hn_)
          · omega
        · have cx14_ : ¬ (vx13_ ≠ ls_) := of_decide_eq_false cx14_
          have f9_ : S_.2.2.1 106 0 (0 : Int).toNat < 12 := hr_.2 (by omega)
          refine sm_T_go 5 (c1 := (260, [some (.inr (.inr (some (11, 0)))), some (.inr (.inr (some (2, cc_)))), some (.inl a2_), none, some (.inl bs_), some (.inl ls_), some (.inl ln_), some (.inl e_), none, none, none], [.inl 0, .inr (.inr (some (106, 0))), .inr (.inr (some (39, (0 + cc_))))], S_)) rfl ?_
          refine sm_T_iald (n := 152) rfl rfl (by omega) (by omega) ?_
          have bx15_ : 0 ≤ S_.2.2.1 106 0 (0 : Int).toNat ∧ S_.2.2.1 106 0 (0 : Int).toNat ≤ 10161 := hI_.2 106 0 _
          refine sm_T_iald (n := 12) rfl rfl (by omega) (by omega) ?_
          have bx16_ : 0 ≤ S_.2.2.1 39 (0 + cc_) (S_.2.2.1 106 0 (0 : Int).toNat).toNat ∧ S_.2.2.1 39 (0 + cc_) (S_.2.2.1 106 0 (0 : Int).toNat).toNat ≤ 4194303 := hI_.2 39 (0 + cc_) _
          refine sm_T_go 1 (c1 := (264, [some (.inr (.inr (some (11, 0)))), some (.inr (.inr (some (2, cc_)))), some (.inl a2_), none, some (.inl bs_), some (.inl ls_), some (.inl ln_), some (.inl e_), none, none, none], [.inl e_, .inl (S_.2.2.1 39 (0 + cc_) (S_.2.2.1 106 0 (0 : Int).toNat).toNat)], S_)) rfl ?_
          refine sm_T_bin (w := (i_shr (S_.2.2.1 39 (0 + cc_) (S_.2.2.1 106 0 (0 : Int).toNat).toNat) e_)) rfl rfl ?_ -- pc_ 264
          first | have bx17_ := i_shr_p (x_ := (S_.2.2.1 39 (0 + cc_) (S_.2.2.1 106 0 (0 : Int).toNat).toNat)) (e_ := e_) (by omega) (by omega) (by omega) | have bx17_ := i_shr_n (S_.2.2.1 39 (0 + cc_) (S_.2.2.1 106 0 (0 : Int).toNat).toNat) e_
          refine sm_T_go 1 (c1 := (266, [some (.inr (.inr (some (11, 0)))), some (.inr (.inr (some (2, cc_)))), some (.inl a2_), none, some (.inl bs_), some (.inl ls_), some (.inl ln_), some (.inl e_), none, none, none], [.inl 1, .inl (i_shr (S_.2.2.1 39 (0 + cc_) (S_.2.2.1 106 0 (0 : Int).toNat).toNat) e_)], S_)) rfl ?_
          refine sm_T_bin (w := ((i_shr (S_.2.2.1 39 (0 + cc_) (S_.2.2.1 106 0 (0 : Int).toNat).toNat) e_) % 2)) rfl (bi_msk (k := 1) (by decide)) ?_ -- pc_ 266
          refine sm_T_b0 (a := 1) (z := 29) rfl (fun cx18_ => ?_) (fun cx18_ => ?_)
          · have cx18_ : ((i_shr (S_.2.2.1 39 (0 + cc_) (S_.2.2.1 106 0 (0 : Int).toNat).toNat) e_) % 2) ≠ 0 := of_decide_eq_true cx18_
            refine sm_T_inc (a := 7) (z := 1) (v := e_) (w := e_ + 1) rfl rfl (by omega) (by omega) (by omega) ?_ -- pc_ 296
            refine sm_T_go 1 (c1 := (231, [some (.inr (.inr (some (11, 0)))), some (.inr (.inr (some (2, cc_)))), some (.inl a2_), none, some (.inl bs_), some (.inl ls_), some (.inl ln_), some (.inl (e_ + 1)), none, none, none], [], S_)) rfl ?_
            refine ih_.2.2.2 bs_ ls_ ln_ (e_ + 1) S_ hI_ hF_ ⟨?_, ?_, ?_, ?_, trivial⟩ ?_
            · omega
            · first | exact ht_ | exact o293_
            · first | exact hr_ | exact r293_
            · first | exact hn_ | (rw [n293_]; exact hn_)
            · omega
          · have cx18_ : ¬ (((i_shr (S_.2.2.1 39 (0 + cc_) (S_.2.2.1 106 0 (0 : Int).toNat).toNat) e_) % 2) ≠ 0) := of_decide_eq_false cx18_
            refine sm_T_go 3 (c1 := (276, [some (.inr (.inr (some (11, 0)))), some (.inr (.inr (some (2, cc_)))), some (.inl a2_), none, some (.inl bs_), some (.inl ls_), some (.inl ln_), some (.inl e_), none, none, none], [.inl e_, .inl 10000, .inr (.inr (some (11, 0)))], S_)) rfl ?_
            refine sm_T_bin (w := e_ + 10000) rfl (bi_add (by omega) (by omega) (by omega)) ?_ -- pc_ 276
            have bx19_ : 0 ≤ S_.1 2 cc_ 3 ∧ S_.1 2 cc_ 3 ≤ 16 := hI_.1 2 cc_ 3 rfl
            refine sm_T_go 4 (c1 := (285, [some (.inr (.inr (some (11, 0)))), some (.inr (.inr (some (2, cc_)))), some (.inl a2_), none, some (.inl bs_), some (.inl ls_), some (.inl ln_), some (.inl e_), none, none, none], [.inl (S_.1 2 cc_ 3), .inl e_, .inl ln_, .inl (e_ + 10000), .inr (.inr (some (11, 0)))], S_)) rfl ?_
            refine sm_T_br (a := 3) (z := 7) rfl (fun cx20_ => ?_) (fun cx20_ => ?_)
            · have cx20_ : (S_.1 2 cc_ 3) ≤ e_ := of_decide_eq_true cx20_
              refine sm_T_go 1 (c1 := (293, [some (.inr (.inr (some (11, 0)))), some (.inr (.inr (some (2, cc_)))), some (.inl a2_), none, some (.inl bs_), some (.inl ls_), some (.inl ln_), some (.inl e_), none, none, none], [.inl 2, .inl ln_, .inl (e_ + 10000), .inr (.inr (some (11, 0)))], S_)) rfl ?_
              refine sm_T_cal (d1 := 1) (Q1 := vq_203 (e_ + 10000) ln_ 2 S_) rfl rfl (by decide) (vc_203 (e_ + 10000) ln_ 2 S_ hI_ (by exact ht_) (by exact hr_) (by omega) (by (intro u9_; exfalso; omega))) (fun u_ Sx21_ px24_ => ?_)
              obtain ⟨rfl, hIx22_, hFx23_, px24_⟩ := px24_
              have hFx25_ : ai_fr (sx_W vw_201) S0_ Sx21_ := ai_fr_tr hF_ (fr_le hFx23_ rfl)
              have ex26_ : Sx21_.1 2 cc_ 3 = S_.1 2 cc_ 3 := hFx23_.1 2 cc_ 3 rfl
              have o293_ := px24_
              have r293_ := ttr_fr hr_ hFx23_
              have n293_ := hFx23_.1 11 0 11 rfl
              refine sm_T_inc (a := 7) (z := 1) (v := e_) (w := e_ + 1) rfl rfl (by omega) (by omega) (by omega) ?_ -- pc_ 296
              refine sm_T_go 1 (c1 := (231, [some (.inr (.inr (some (11, 0)))), some (.inr (.inr (some (2, cc_)))), some (.inl a2_), none, some (.inl bs_), some (.inl ls_), some (.inl ln_), some (.inl (e_ + 1)), none, none, none], [], Sx21_)) rfl ?_
              refine ih_.2.2.2 bs_ ls_ ln_ (e_ + 1) Sx21_ hIx22_ hFx25_ ⟨?_, ?_, ?_, ?_, trivial⟩ ?_
              · omega
              · first | exact ht_ | exact o293_
              · first | exact hr_ | exact r293_
              · first | exact hn_ | (rw [n293_]; exact hn_)
              · omega
            · have cx20_ : ¬ ((S_.1 2 cc_ 3) ≤ e_) := of_decide_eq_false cx20_
              refine sm_T_go 2 (c1 := (293, [some (.inr (.inr (some (11, 0)))), some (.inr (.inr (some (2, cc_)))), some (.inl a2_), none, some (.inl bs_), some (.inl ls_), some (.inl ln_), some (.inl e_), none, none, none], [.inl 0, .inl ln_, .inl (e_ + 10000), .inr (.inr (some (11, 0)))], S_)) rfl ?_
              refine sm_T_cal (d1 := 1) (Q1 := vq_203 (e_ + 10000) ln_ 0 S_) rfl rfl (by decide) (vc_203 (e_ + 10000) ln_ 0 S_ hI_ (by exact ht_) (by exact hr_) (by omega) (by (intro u9_; exfalso; omega))) (fun u_ Sx27_ px30_ => ?_)
              obtain ⟨rfl, hIx28_, hFx29_, px30_⟩ := px30_
              have hFx31_ : ai_fr (sx_W vw_201) S0_ Sx27_ := ai_fr_tr hF_ (fr_le hFx29_ rfl)
              have ex32_ : Sx27_.1 2 cc_ 3 = S_.1 2 cc_ 3 := hFx29_.1 2 cc_ 3 rfl
              have o293_ := px30_
              have r293_ := ttr_fr hr_ hFx29_
              have n293_ := hFx29_.1 11 0 11 rfl
              refine sm_T_inc (a := 7) (z := 1) (v := e_) (w := e_ + 1) rfl rfl (by omega) (by omega) (by omega) ?_ -- pc_ 296
              refine sm_T_go 1 (c1 := (231, [some (.inr (.inr (some (11, 0)))), some (.inr (.inr (some (2, cc_)))), some (.inl a2_), none, some (.inl bs_), some (.inl ls_), some (.inl ln_), some (.inl (e_ + 1)), none, none, none], [], Sx27_)) rfl ?_
              refine ih_.2.2.2 bs_ ls_ ln_ (e_ + 1) Sx27_ hIx28_ hFx31_ ⟨?_, ?_, ?_, ?_, trivial⟩ ?_
              · omega
              · first | exact ht_ | exact o293_
              · first | exact hr_ | exact r293_
              · first | exact hn_ | (rw [n293_]; exact hn_)
              · omega
set_option maxHeartbeats 2000000 in
set_option maxRecDepth 20000 in
theorem vc_201 {sc_ : Nat × (Nat → Int)} (a2_ : Int) (cc_ : Nat) (S0_ : sm_S) (hI_ : gi S0_) (hs_ : S0_.1 2 cc_ 1 + S0_.1 2 cc_ 2 ≤ 12) (hp_ : tpo S0_) (h2_ : 0 ≤ a2_ ∧ a2_ < S0_.1 11 0 5) (hl_ : S0_.2.2.1 105 0 (152 * (S0_.2.2.1 102 0 a2_.toNat) + (S0_.2.2.1 104 0 (S0_.2.2.1 102 0 a2_.toNat).toNat) - 1).toNat < 10000) : sm_T (mt_P sc_) 2 201 (0, [some (.inr (.inr (some (11, 0)))), some (.inr (.inr (some (2, cc_)))), some (.inl a2_), none, none, none, none, none, none, none, none], [], S0_) (fun ro9_ => ∃ u_ S1_, ro9_ = (.inl u_, S1_, 0) ∧ vq_201 a2_ cc_ S0_ u_ S1_) := by
  have hF_ : ai_fr (sx_W vw_201) S0_ S0_ := ai_fr_rf
  have p40_ := hp_.1
  have co_ : 0 ≤ S0_.2.2.1 102 0 a2_.toNat ∧ S0_.2.2.1 102 0 a2_.toNat ≤ 40 := hI_.2 102 0 _
  have t9_ := hp_.2 a2_.toNat (by omega) (by omega)
  have t1_ := t9_.1
  have t2_ := t9_.2.1
  have t3_ := t9_.2.2.1
  have t4_ := t9_.2.2.2.1
  have t5_ := t9_.2.2.2.2
  rw [show 152 * (S0_.2.2.1 102 0 a2_.toNat).toNat + ((S0_.2.2.1 104 0 (S0_.2.2.1 102 0 a2_.toNat).toNat) - 1).toNat = (152 * (S0_.2.2.1 102 0 a2_.toNat) + (S0_.2.2.1 104 0 (S0_.2.2.1 102 0 a2_.toNat).toNat) - 1).toNat by omega] at t5_
  refine sm_T_go 3 (c1 := (5, [some (.inr (.inr (some (11, 0)))), some (.inr (.inr (some (2, cc_)))), some (.inl a2_), none, none, none, none, none, none, none, none], [.inl a2_, .inr (.inr (some (102, 0)))], S0_)) rfl ?_
  refine sm_T_iald (n := 41) rfl rfl (by omega) (by omega) ?_
  have bx1_ : 0 ≤ S0_.2.2.1 102 0 a2_.toNat ∧ S0_.2.2.1 102 0 a2_.toNat ≤ 40 := hI_.2 102 0 _
  refine sm_T_go 5 (c1 := (13, [some (.inr (.inr (some (11, 0)))), some (.inr (.inr (some (2, cc_)))), some (.inl a2_), some (.inl (S0_.2.2.1 102 0 a2_.toNat)), none, none, none, none, none, none, none], [.inl (S0_.2.2.1 102 0 a2_.toNat), .inr (.inr (some (104, 0))), .inr (.inr (some (11, 0)))], S0_)) rfl ?_
  refine sm_T_iald (n := 41) rfl rfl (by omega) (by omega) ?_
  have bx2_ : 0 ≤ S0_.2.2.1 104 0 (S0_.2.2.1 102 0 a2_.toNat).toNat ∧ S0_.2.2.1 104 0 (S0_.2.2.1 102 0 a2_.toNat).toNat ≤ 152 := hI_.2 104 0 _
  have hIx3_ : gi (sm_pI S0_ 11 0 11 (S0_.2.2.1 104 0 (S0_.2.2.1 102 0 a2_.toNat).toNat)) := gi_pI hI_ (show 0 ≤ (S0_.2.2.1 104 0 (S0_.2.2.1 102 0 a2_.toNat).toNat) ∧ (S0_.2.2.1 104 0 (S0_.2.2.1 102 0 a2_.toNat).toNat) ≤ 152 from ⟨by omega, by omega⟩)
  have hFx4_ : ai_fr (sx_W vw_201) S0_ (sm_pI S0_ 11 0 11 (S0_.2.2.1 104 0 (S0_.2.2.1 102 0 a2_.toNat).toNat)) := ai_fr_tr hF_ (ai_fr_pI rfl)
  refine sm_T_go 5 (c1 := (25, [some (.inr (.inr (some (11, 0)))), some (.inr (.inr (some (2, cc_)))), some (.inl a2_), some (.inl (S0_.2.2.1 102 0 a2_.toNat)), none, none, none, none, none, none, none], [.inl 152, .inl (S0_.2.2.1 102 0 a2_.toNat), .inr (.inr (some (105, 0)))], sm_pI S0_ 11 0 11 (S0_.2.2.1 104 0 (S0_.2.2.1 102 0 a2_.toNat).toNat))) rfl ?_
  refine sm_T_bin (w := 152 * (S0_.2.2.1 102 0 a2_.toNat)) rfl (bi_mul (by omega) (by omega) (by omega)) ?_ -- pc_ 25
  refine sm_T_go 5 (c1 := (35, [some (.inr (.inr (some (11, 0)))), some (.inr (.inr (some (2, cc_)))), some (.inl a2_), some (.inl (S0_.2.2.1 102 0 a2_.toNat)), none, none, none, none, none, none, none], [.inl (S0_.2.2.1 104 0 (S0_.2.2.1 102 0 a2_.toNat).toNat), .inl 0, .inr (.inr (some (106, 0))), .inl (152 * (S0_.2.2.1 102 0 a2_.toNat)), .inr (.inr (some (105, 0)))], sm_pI S0_ 11 0 11 (S0_.2.2.1 104 0 (S0_.2.2.1 102 0 a2_.toNat).toNat))) rfl ?_
  refine sm_T_nt (u := none) (S1 := sm_acI (sm_pI S0_ 11 0 11 (S0_.2.2.1 104 0 (S0_.2.2.1 102 0 a2_.toNat).toNat)) 105 0 106 0 (152 * (S0_.2.2.1 102 0 a2_.toNat)).toNat (0 : Int).toNat (S0_.2.2.1 104 0 (S0_.2.2.1 102 0 a2_.toNat).toNat).toNat) rfl rfl (nt_acI (sc := sc_) (t := 105) (i := 0) (t' := 106) (i' := 0) (x := 152 * (S0_.2.2.1 102 0 a2_.toNat)) (y := 0) (m := (S0_.2.2.1 104 0 (S0_.2.2.1 102 0 a2_.toNat).toNat)) (n := 6232) (n1 := 152) rfl rfl (by omega) (by omega) (by omega) (by omega) (by omega)) ?_
  have hIx5_ : gi (sm_acI (sm_pI S0_ 11 0 11 (S0_.2.2.1 104 0 (S0_.2.2.1 102 0 a2_.toNat).toNat)) 105 0 106 0 (152 * (S0_.2.2.1 102 0 a2_.toNat)).toNat (0 : Int).toNat (S0_.2.2.1 104 0 (S0_.2.2.1 102 0 a2_.toNat).toNat).toNat) := gi_ac hIx3_ (by decide) (by decide)
  have hFx6_ : ai_fr (sx_W vw_201) S0_ (sm_acI (sm_pI S0_ 11 0 11 (S0_.2.2.1 104 0 (S0_.2.2.1 102 0 a2_.toNat).toNat)) 105 0 106 0 (152 * (S0_.2.2.1 102 0 a2_.toNat)).toNat (0 : Int).toNat (S0_.2.2.1 104 0 (S0_.2.2.1 102 0 a2_.toNat).toNat).toNat) := ai_fr_tr hFx4_ (fr_ac rfl)
  refine sm_T_go 2 (c1 := (40, [some (.inr (.inr (some (11, 0)))), some (.inr (.inr (some (2, cc_)))), some (.inl a2_), some (.inl (S0_.2.2.1 102 0 a2_.toNat)), none, none, none, none, none, none, none], [.inl a2_, .inr (.inr (some (11, 0)))], sm_acI (sm_pI S0_ 11 0 11 (S0_.2.2.1 104 0 (S0_.2.2.1 102 0 a2_.toNat).toNat)) 105 0 106 0 (152 * (S0_.2.2.1 102 0 a2_.toNat)).toNat (0 : Int).toNat (S0_.2.2.1 104 0 (S0_.2.2.1 102 0 a2_.toNat).toNat).toNat)) rfl ?_
  refine sm_T_cal (d1 := 0) (Q1 := vq_202 a2_ (sm_acI (sm_pI S0_ 11 0 11 (S0_.2.2.1 104 0 (S0_.2.2.1 102 0 a2_.toNat).toNat)) 105 0 106 0 (152 * (S0_.2.2.1 102 0 a2_.toNat)).toNat (0 : Int).toNat (S0_.2.2.1 104 0 (S0_.2.2.1 102 0 a2_.toNat).toNat).toNat)) rfl rfl (by decide) (vc_202 a2_ (sm_acI (sm_pI S0_ 11 0 11 (S0_.2.2.1 104 0 (S0_.2.2.1 102 0 a2_.toNat).toNat)) 105 0 106 0 (152 * (S0_.2.2.1 102 0 a2_.toNat)).toNat (0 : Int).toNat (S0_.2.2.1 104 0 (S0_.2.2.1 102 0 a2_.toNat).toNat).toNat) hIx5_ (by (show 0 ≤ a2_ ∧ a2_ < S0_.1 11 0 5; omega)) (by exact hp_)) (fun u_ Sx7_ px10_ => ?_)
  obtain ⟨rfl, hIx8_, hFx9_, px10_⟩ := px10_
  have hFx11_ : ai_fr (sx_W vw_201) S0_ Sx7_ := ai_fr_tr hFx6_ (fr_le hFx9_ rfl)
  have r40_ := px10_
  have s40_ : Sx7_.1 11 0 11 = (S0_.2.2.1 104 0 (S0_.2.2.1 102 0 a2_.toNat).toNat) := hFx9_.1 11 0 11 rfl
  have w40_ := fr_arr (t := 106) (i := 0) hFx9_ rfl
  have v40_ : ∀ j_ : Nat, (j_ : Int) < (S0_.2.2.1 104 0 (S0_.2.2.1 102 0 a2_.toNat).toNat) → Sx7_.2.2.1 106 0 j_ = S0_.2.2.1 105 0 (152 * (S0_.2.2.1 102 0 a2_.toNat).toNat + j_) := fun j_ hj_ => by (rw [w40_, sm_acI_at, cp_at (b_ := (0 : Int).toNat) (Nat.zero_le _) (by show j_ < 0 + Int.toNat _; omega)]; rw [rd_fa]; exact congrArg _ (by show Int.toNat _ + (j_ - 0) = _; omega))
  have T40_ : ttr Sx7_ := ⟨fun j_ hj_ => by (rw [s40_] at hj_; rw [v40_ j_ hj_]; by_cases y9_ : (j_ : Int) < (S0_.2.2.1 104 0 (S0_.2.2.1 102 0 a2_.toNat).toNat) - 1; exact t4_ j_ y9_; (rw [show 152 * (S0_.2.2.1 102 0 a2_.toNat).toNat + j_ = (152 * (S0_.2.2.1 102 0 a2_.toNat) + (S0_.2.2.1 104 0 (S0_.2.2.1 102 0 a2_.toNat).toNat) - 1).toNat by omega]; omega)), fun _ => by (rw [v40_ 0 (by omega), Nat.add_zero]; exact t3_)⟩
  have a40_ : Sx7_.2.2.1 106 0 (0 : Int).toNat < 12 := T40_.2 (by omega)
  have b40_ := T40_.1 ((S0_.2.2.1 104 0 (S0_.2.2.1 102 0 a2_.toNat).toNat) - 1).toNat (by omega)
  rw [show ((S0_.2.2.1 104 0 (S0_.2.2.1 102 0 a2_.toNat).toNat) - 1).toNat = (Sx7_.1 11 0 11 - 1).toNat by omega] at b40_
  have c40_ : 0 ≤ Sx7_.2.2.1 106 0 0 ∧ Sx7_.2.2.1 106 0 0 ≤ 10161 := hIx8_.2 106 0 _
  refine sm_T_go 3 (c1 := (48, [some (.inr (.inr (some (11, 0)))), some (.inr (.inr (some (2, cc_)))), some (.inl a2_), some (.inl (S0_.2.2.1 102 0 a2_.toNat)), none, none, none, none, none, none, none], [.inl 0, .inr (.inr (some (106, 0)))], Sx7_)) rfl ?_
  refine sm_T_iald (n := 152) rfl rfl (by omega) (by omega) ?_
  have bx12_ : 0 ≤ Sx7_.2.2.1 106 0 (0 : Int).toNat ∧ Sx7_.2.2.1 106 0 (0 : Int).toNat ≤ 10161 := hIx8_.2 106 0 _
  refine sm_T_go 1 (c1 := (52, [some (.inr (.inr (some (11, 0)))), some (.inr (.inr (some (2, cc_)))), some (.inl a2_), some (.inl (S0_.2.2.1 102 0 a2_.toNat)), none, none, none, none, none, none, none], [.inl 162, .inl (Sx7_.2.2.1 106 0 (0 : Int).toNat)], Sx7_)) rfl ?_
  refine sm_T_bin (w := 162 * (Sx7_.2.2.1 106 0 (0 : Int).toNat)) rfl (bi_mul (by omega) (by omega) (by omega)) ?_ -- pc_ 52
  have bx13_ : 0 ≤ Sx7_.1 11 0 11 ∧ Sx7_.1 11 0 11 ≤ 152 := hIx8_.1 11 0 11 rfl
  refine sm_T_go 6 (c1 := (64, [some (.inr (.inr (some (11, 0)))), some (.inr (.inr (some (2, cc_)))), some (.inl a2_), some (.inl (S0_.2.2.1 102 0 a2_.toNat)), some (.inl (162 * (Sx7_.2.2.1 106 0 (0 : Int).toNat))), none, none, none, none, none, none], [.inl 1, .inl (Sx7_.1 11 0 11), .inr (.inr (some (106, 0)))], Sx7_)) rfl ?_
  refine sm_T_bin (w := (Sx7_.1 11 0 11) - 1) rfl (bi_sub (by omega) (by omega) (by omega)) ?_ -- pc_ 64
  refine sm_T_iald (n := 152) rfl rfl (by omega) (by omega) ?_
  have bx14_ : 0 ≤ Sx7_.2.2.1 106 0 ((Sx7_.1 11 0 11) - 1).toNat ∧ Sx7_.2.2.1 106 0 ((Sx7_.1 11 0 11) - 1).toNat ≤ 10161 := hIx8_.2 106 0 _
  refine sm_T_go 5 (c1 := (74, [some (.inr (.inr (some (11, 0)))), some (.inr (.inr (some (2, cc_)))), some (.inl a2_), some (.inl (S0_.2.2.1 102 0 a2_.toNat)), some (.inl (162 * (Sx7_.2.2.1 106 0 (0 : Int).toNat))), some (.inl (Sx7_.2.2.1 106 0 ((Sx7_.1 11 0 11) - 1).toNat)), some (.inl 0), some (.inl 0), none, none, none], [], Sx7_)) rfl ?_
  refine sm_T_wk [some (.inr (.inr (some (11, 0)))), some (.inr (.inr (some (2, cc_)))), some (.inl a2_), none, some (.inl (162 * (Sx7_.2.2.1 106 0 (0 : Int).toNat))), some (.inl (Sx7_.2.2.1 106 0 ((Sx7_.1 11 0 11) - 1).toNat)), some (.inl 0), some (.inl 0), none, none, none] (by exact ⟨rfl, rfl, rfl, rfl, rfl, rfl, rfl, trivial⟩) ?_
  refine (vl_201 a2_ cc_ S0_ hs_ hp_ h2_ hl_ _).1 (162 * (Sx7_.2.2.1 106 0 (0 : Int).toNat)) (Sx7_.2.2.1 106 0 ((Sx7_.1 11 0 11) - 1).toNat) 0 0 Sx7_ hIx8_ hFx11_ ⟨?_, ?_, ?_, ?_, trivial⟩ (Nat.lt_succ_self _)
  · omega
  · exact r40_
  · exact T40_
  · (rw [s40_]; exact ⟨t1_, t2_⟩)
end
/-! 99.zm3b -/
section
/-! Times.findPaths -/
def vw_199 : sx_Wl := ([(11, 4), (11, 5), (11, 11)], [99, 101, 102, 103, 104, 105, 106], [(11, 3)])
def vq_199 (cc_ : Nat) (S0_ : sm_S) (u_ : Option sm_V) (S1_ : sm_S) : Prop := u_ = none ∧ gi S1_ ∧ ai_fr (sx_W vw_199) S0_ S1_ ∧ (tpo S1_)
set_option maxHeartbeats 2000000 in
set_option maxRecDepth 20000 in
theorem vl_199 {sc_ : Nat × (Nat → Int)} (cc_ : Nat) (S0_ : sm_S) (hs_ : S0_.1 2 cc_ 1 + S0_.1 2 cc_ 2 ≤ 12) (hp_ : tpo S0_) : ∀ nn_ : Nat, (∀ (k_ : Int) (S_ : sm_S), gi S_ → ai_fr (sx_W vw_199) S0_ S_ → ((0 ≤ k_ ∧ k_ ≤ 41 ∧ S_.1 11 0 5 = 0) ∧ True) → ((9000000 - k_).toNat) < nn_ → sm_T (mt_P sc_) 3 199 (56, [some (.inr (.inr (some (11, 0)))), some (.inr (.inr (some (2, cc_)))), some (.inl k_), none, none], [], S_) (fun ro9_ => ∃ u_ S1_, ro9_ = (.inl u_, S1_, 0) ∧ vq_199 cc_ S0_ u_ S1_)) ∧ (∀ (n_ : Int) (S_ : sm_S), gi S_ → ai_fr (sx_W vw_199) S0_ S_ → ((0 ≤ n_ ∧ n_ ≤ 12) ∧ (tpo S_) ∧ True) → ((5000000 - n_).toNat) < nn_ → sm_T (mt_P sc_) 3 199 (77, [some (.inr (.inr (some (11, 0)))), some (.inr (.inr (some (2, cc_)))), some (.inl n_), none, none], [], S_) (fun ro9_ => ∃ u_ S1_, ro9_ = (.inl u_, S1_, 0) ∧ vq_199 cc_ S0_ u_ S1_)) ∧ (∀ (dn_ : Int) (gd_ : Int) (S_ : sm_S), gi S_ → ai_fr (sx_W vw_199) S0_ S_ → ((0 ≤ dn_ ∧ dn_ ≤ 41 ∧ 0 ≤ gd_ ∧ gd_ ≤ 1000000) ∧ (tpo S_) ∧ True) → ((2000000 - gd_).toNat) < nn_ → sm_T (mt_P sc_) 3 199 (123, [some (.inr (.inr (some (11, 0)))), some (.inr (.inr (some (2, cc_)))), some (.inl dn_), some (.inl gd_), none], [], S_) (fun ro9_ => ∃ u_ S1_, ro9_ = (.inl u_, S1_, 0) ∧ vq_199 cc_ S0_ u_ S1_)) := by
  intro nn_
  induction nn_ with
  | zero => exact ⟨fun _ _ _ _ _ h_ => absurd h_ (Nat.not_lt_zero _), fun _ _ _ _ _ h_ => absurd h_ (Nat.not_lt_zero _), fun _ _ _ _ _ _ h_ => absurd h_ (Nat.not_lt_zero _)⟩
  | succ nn_ ih_ =>
    refine ⟨?_, ?_, ?_⟩
    · rintro k_ S_ hI_ hF_ ⟨h0_, -⟩ hm_
      have z1_ : S_.1 2 cc_ 1 = S0_.1 2 cc_ 1 := hF_.1 2 cc_ 1 rfl
      have z2_ : S_.1 2 cc_ 2 = S0_.1 2 cc_ 2 := hF_.1 2 cc_ 2 rfl
      have cg9_ : 0 ≤ S_.1 2 cc_ 8 ∧ S_.1 2 cc_ 8 ≤ 150 := hI_.1 2 cc_ 8 rfl
      have ci_ : 0 ≤ S_.1 2 cc_ 1 ∧ S_.1 2 cc_ 1 ≤ 12 := hI_.1 2 cc_ 1 rfl
      have cr : 0 ≤ S_.1 2 cc_ 2 ∧ S_.1 2 cc_ 2 ≤ 6 := hI_.1 2 cc_ 2 rfl
      refine sm_T_go 2 (c1 := (59, [some (.inr (.inr (some (11, 0)))), some (.inr (.inr (some (2, cc_)))), some (.inl k_), none, none], [.inl 40, .inl k_], S_)) rfl ?_
      refine sm_T_br (a := 4) (z := 16) rfl (fun cx1_ => ?_) (fun cx1_ => ?_)
      · have cx1_ : 40 < k_ := of_decide_eq_true cx1_
        refine sm_T_go 2 (c1 := (77, [some (.inr (.inr (some (11, 0)))), some (.inr (.inr (some (2, cc_)))), some (.inl 0), none, none], [], S_)) rfl ?_
        refine ih_.2.1 0 S_ hI_ hF_ ⟨?_, ?_, trivial⟩ ?_
        · omega
        · (refine ⟨by omega, fun i_ hi_ hn_ => ?_⟩; exfalso; omega)
        · omega
      · have cx1_ : ¬ (40 < k_) := of_decide_eq_false cx1_
        refine sm_T_go 4 (c1 := (68, [some (.inr (.inr (some (11, 0)))), some (.inr (.inr (some (2, cc_)))), some (.inl k_), none, none], [.inl k_, .inl k_, .inr (.inr (some (102, 0)))], S_)) rfl ?_
        refine sm_T_iast (n := 41) rfl rfl (by omega) (by omega) ?_
        have hIx2_ : gi (sm_aI S_ 102 0 k_.toNat k_) := gi_aI hI_ (show 0 ≤ k_ ∧ k_ ≤ 40 from ⟨by omega, by omega⟩)
        have hFx3_ : ai_fr (sx_W vw_199) S0_ (sm_aI S_ 102 0 k_.toNat k_) := ai_fr_tr hF_ (ai_fr_aI rfl)
        refine sm_T_inc (a := 2) (z := 1) (v := k_) (w := k_ + 1) rfl rfl (by omega) (by omega) (by omega) ?_ -- pc_ 69
        refine sm_T_go 1 (c1 := (56, [some (.inr (.inr (some (11, 0)))), some (.inr (.inr (some (2, cc_)))), some (.inl (k_ + 1)), none, none], [], sm_aI S_ 102 0 k_.toNat k_)) rfl ?_
        refine ih_.1 (k_ + 1) (sm_aI S_ 102 0 k_.toNat k_) hIx2_ hFx3_ ⟨?_, trivial⟩ ?_
        · (refine ⟨by omega, by omega, ?_⟩; show S_.1 11 0 5 = 0; omega)
        · omega
    · rintro n_ S_ hI_ hF_ ⟨h0_, ht_, -⟩ hm_
      have z1_ : S_.1 2 cc_ 1 = S0_.1 2 cc_ 1 := hF_.1 2 cc_ 1 rfl
      have z2_ : S_.1 2 cc_ 2 = S0_.1 2 cc_ 2 := hF_.1 2 cc_ 2 rfl
      have cg9_ : 0 ≤ S_.1 2 cc_ 8 ∧ S_.1 2 cc_ 8 ≤ 150 := hI_.1 2 cc_ 8 rfl
      have ci_ : 0 ≤ S_.1 2 cc_ 1 ∧ S_.1 2 cc_ 1 ≤ 12 := hI_.1 2 cc_ 1 rfl
      have cr : 0 ≤ S_.1 2 cc_ 2 ∧ S_.1 2 cc_ 2 ≤ 6 := hI_.1 2 cc_ 2 rfl
      refine sm_T_go 2 (c1 := (79, [some (.inr (.inr (some (11, 0)))), some (.inr (.inr (some (2, cc_)))), some (.inl n_), none, none], [.inr (.inr (some (2, cc_))), .inl n_], S_)) rfl ?_
      refine sm_T_cal (d1 := 0) (Q1 := vq_54 cc_ S_) rfl rfl (by decide) (vc_54 cc_ S_ hI_ ) (fun u_ Sx1_ px4_ => ?_)
      obtain ⟨rfl, vx6_, rfl, px4_⟩ := px4_
      have fg79_ := px4_.2
      refine sm_T_br (a := 3) (z := 37) rfl (fun cx7_ => ?_) (fun cx7_ => ?_)
      · have cx7_ : vx6_ ≤ n_ := of_decide_eq_true cx7_
        refine sm_T_go 4 (c1 := (123, [some (.inr (.inr (some (11, 0)))), some (.inr (.inr (some (2, cc_)))), some (.inl 0), some (.inl 0), none], [], S_)) rfl ?_
        refine ih_.2.2 0 0 S_ hI_ hF_ ⟨?_, ?_, trivial⟩ ?_
        · omega
        · exact ht_
        · omega
      · have cx7_ : ¬ (vx6_ ≤ n_) := of_decide_eq_false cx7_
        have hIx8_ : gi (sm_pI S_ 11 0 11 0) := gi_pI hI_ (show 0 ≤ 0 ∧ 0 ≤ 152 from ⟨by omega, by omega⟩)
        have hFx9_ : ai_fr (sx_W vw_199) S0_ (sm_pI S_ 11 0 11 0) := ai_fr_tr hF_ (ai_fr_pI rfl)
        refine sm_T_go 8 (c1 := (97, [some (.inr (.inr (some (11, 0)))), some (.inr (.inr (some (2, cc_)))), some (.inl n_), none, none], [.inl n_, .inr (.inr (some (99, 0))), .inl n_, .inr (.inr (some (11, 0)))], sm_pI S_ 11 0 11 0)) rfl ?_
        refine sm_T_iald (n := 162) rfl rfl (by omega) (by omega) ?_
        have bx10_ : (-2147483648) ≤ S_.2.2.1 99 0 n_.toNat ∧ S_.2.2.1 99 0 n_.toNat ≤ 2147483647 := hI_.2 99 0 _
        refine sm_T_go 4 (c1 := (106, [some (.inr (.inr (some (11, 0)))), some (.inr (.inr (some (2, cc_)))), some (.inl n_), none, none], [.inl 162, .inl n_, .inr (.inr (some (101, 0))), .inl (S_.2.2.1 99 0 n_.toNat), .inl n_, .inr (.inr (some (11, 0)))], sm_pI S_ 11 0 11 0)) rfl ?_
        refine sm_T_bin (w := 162 * n_) rfl (bi_mul (by omega) (by omega) (by omega)) ?_ -- pc_ 106
        refine sm_T_go 1 (c1 := (108, [some (.inr (.inr (some (11, 0)))), some (.inr (.inr (some (2, cc_)))), some (.inl n_), none, none], [.inl n_, .inl (162 * n_), .inr (.inr (some (101, 0))), .inl (S_.2.2.1 99 0 n_.toNat), .inl n_, .inr (.inr (some (11, 0)))], sm_pI S_ 11 0 11 0)) rfl ?_
        refine sm_T_bin (w := 163 * n_) rfl (bi_add (by omega) (by omega) (by omega)) ?_ -- pc_ 108
        refine sm_T_iald (n := 1944) rfl rfl (by omega) (by omega) ?_
        have bx11_ : (-2147483648) ≤ S_.2.2.1 101 0 (163 * n_).toNat ∧ S_.2.2.1 101 0 (163 * n_).toNat ≤ 2147483647 := hI_.2 101 0 _
        refine sm_T_go 0 (c1 := (110, [some (.inr (.inr (some (11, 0)))), some (.inr (.inr (some (2, cc_)))), some (.inl n_), none, none], [.inl (S_.2.2.1 101 0 (163 * n_).toNat), .inl (S_.2.2.1 99 0 n_.toNat), .inl n_, .inr (.inr (some (11, 0)))], sm_pI S_ 11 0 11 0)) rfl ?_
        refine sm_T_cal (d1 := 1) (Q1 := vq_203 n_ (S_.2.2.1 99 0 n_.toNat) (S_.2.2.1 101 0 (163 * n_).toNat) (sm_pI S_ 11 0 11 0)) rfl rfl (by decide) (vc_203 n_ (S_.2.2.1 99 0 n_.toNat) (S_.2.2.1 101 0 (163 * n_).toNat) (sm_pI S_ 11 0 11 0) hIx8_ (by exact ht_) (by exact ⟨fun j_ hj_ => absurd hj_ (by show ¬ ((j_ : Int) < 0); omega), fun hj_ => absurd hj_ (by show ¬ ((0 : Int) < 0); omega)⟩) (by omega) (by (intro _; omega))) (fun u_ Sx12_ px15_ => ?_)
        obtain ⟨rfl, hIx13_, hFx14_, px15_⟩ := px15_
        have hFx16_ : ai_fr (sx_W vw_199) S0_ Sx12_ := ai_fr_tr hFx9_ (fr_le hFx14_ rfl)
        have o110_ := px15_
        refine sm_T_inc (a := 2) (z := 1) (v := n_) (w := n_ + 1) rfl rfl (by omega) (by omega) (by omega) ?_ -- pc_ 113
        refine sm_T_go 1 (c1 := (77, [some (.inr (.inr (some (11, 0)))), some (.inr (.inr (some (2, cc_)))), some (.inl (n_ + 1)), none, none], [], Sx12_)) rfl ?_
        refine ih_.2.1 (n_ + 1) Sx12_ hIx13_ hFx16_ ⟨?_, ?_, trivial⟩ ?_
        · omega
        · exact o110_
        · omega
    · rintro dn_ gd_ S_ hI_ hF_ ⟨h0_, ht_, -⟩ hm_
      have z1_ : S_.1 2 cc_ 1 = S0_.1 2 cc_ 1 := hF_.1 2 cc_ 1 rfl
      have z2_ : S_.1 2 cc_ 2 = S0_.1 2 cc_ 2 := hF_.1 2 cc_ 2 rfl
      have cg9_ : 0 ≤ S_.1 2 cc_ 8 ∧ S_.1 2 cc_ 8 ≤ 150 := hI_.1 2 cc_ 8 rfl
      have ci_ : 0 ≤ S_.1 2 cc_ 1 ∧ S_.1 2 cc_ 1 ≤ 12 := hI_.1 2 cc_ 1 rfl
      have cr : 0 ≤ S_.1 2 cc_ 2 ∧ S_.1 2 cc_ 2 ≤ 6 := hI_.1 2 cc_ 2 rfl
      have cp_ : 0 ≤ S_.1 11 0 5 ∧ S_.1 11 0 5 ≤ 41 := hI_.1 11 0 5 rfl
      refine sm_T_go 1 (c1 := (124, [some (.inr (.inr (some (11, 0)))), some (.inr (.inr (some (2, cc_)))), some (.inl dn_), some (.inl gd_), none], [.inl gd_], S_)) rfl ?_
      refine sm_T_nt (u := some (.inl 1000000)) (S1 := S_) rfl rfl rfl ?_
      refine sm_T_br (a := 3) (z := 64) rfl (fun cx1_ => ?_) (fun cx1_ => ?_)
      · have cx1_ : 1000000 ≤ gd_ := of_decide_eq_true cx1_
        refine sm_T_rv rfl ⟨_, _, rfl, rfl, hI_, hF_, ?_⟩
        exact ht_
      · have cx1_ : ¬ (1000000 ≤ gd_) := of_decide_eq_false cx1_
        have bx2_ : 0 ≤ S_.1 11 0 5 ∧ S_.1 11 0 5 ≤ 41 := hI_.1 11 0 5 rfl
        refine sm_T_go 3 (c1 := (134, [some (.inr (.inr (some (11, 0)))), some (.inr (.inr (some (2, cc_)))), some (.inl dn_), some (.inl gd_), none], [.inl (S_.1 11 0 5), .inl dn_], S_)) rfl ?_
        refine sm_T_br (a := 3) (z := 56) rfl (fun cx3_ => ?_) (fun cx3_ => ?_)
        · have cx3_ : (S_.1 11 0 5) ≤ dn_ := of_decide_eq_true cx3_
          refine sm_T_rv rfl ⟨_, _, rfl, rfl, hI_, hF_, ?_⟩
          exact ht_
        · have cx3_ : ¬ ((S_.1 11 0 5) ≤ dn_) := of_decide_eq_false cx3_
          have t9_ := ht_.2 dn_.toNat (by omega) (by omega)
          have t1_ := t9_.1
          have t2_ := t9_.2.1
          have c9_ : 0 ≤ S_.2.2.1 102 0 dn_.toNat ∧ S_.2.2.1 102 0 dn_.toNat ≤ 40 := hI_.2 102 0 _
          refine sm_T_go 3 (c1 := (142, [some (.inr (.inr (some (11, 0)))), some (.inr (.inr (some (2, cc_)))), some (.inl dn_), some (.inl gd_), none], [.inl dn_, .inr (.inr (some (102, 0)))], S_)) rfl ?_
          refine sm_T_iald (n := 41) rfl rfl (by omega) (by omega) ?_
          have bx4_ : 0 ≤ S_.2.2.1 102 0 dn_.toNat ∧ S_.2.2.1 102 0 dn_.toNat ≤ 40 := hI_.2 102 0 _
          refine sm_T_go 5 (c1 := (154, [some (.inr (.inr (some (11, 0)))), some (.inr (.inr (some (2, cc_)))), some (.inl dn_), some (.inl gd_), some (.inl (S_.2.2.1 102 0 dn_.toNat))], [.inl 152, .inl (S_.2.2.1 102 0 dn_.toNat), .inr (.inr (some (105, 0)))], S_)) rfl ?_
          refine sm_T_bin (w := 152 * (S_.2.2.1 102 0 dn_.toNat)) rfl (bi_mul (by omega) (by omega) (by omega)) ?_ -- pc_ 154
          refine sm_T_go 3 (c1 := (161, [some (.inr (.inr (some (11, 0)))), some (.inr (.inr (some (2, cc_)))), some (.inl dn_), some (.inl gd_), some (.inl (S_.2.2.1 102 0 dn_.toNat))], [.inl (S_.2.2.1 102 0 dn_.toNat), .inr (.inr (some (104, 0))), .inl (152 * (S_.2.2.1 102 0 dn_.toNat)), .inr (.inr (some (105, 0)))], S_)) rfl ?_
          refine sm_T_iald (n := 41) rfl rfl (by omega) (by omega) ?_
          have bx5_ : 0 ≤ S_.2.2.1 104 0 (S_.2.2.1 102 0 dn_.toNat).toNat ∧ S_.2.2.1 104 0 (S_.2.2.1 102 0 dn_.toNat).toNat ≤ 152 := hI_.2 104 0 _
          refine sm_T_bin (w := 152 * (S_.2.2.1 102 0 dn_.toNat) + (S_.2.2.1 104 0 (S_.2.2.1 102 0 dn_.toNat).toNat)) rfl (bi_add (by omega) (by omega) (by omega)) ?_ -- pc_ 162
          refine sm_T_go 1 (c1 := (164, [some (.inr (.inr (some (11, 0)))), some (.inr (.inr (some (2, cc_)))), some (.inl dn_), some (.inl gd_), some (.inl (S_.2.2.1 102 0 dn_.toNat))], [.inl 1, .inl (152 * (S_.2.2.1 102 0 dn_.toNat) + (S_.2.2.1 104 0 (S_.2.2.1 102 0 dn_.toNat).toNat)), .inr (.inr (some (105, 0)))], S_)) rfl ?_
          refine sm_T_bin (w := 152 * (S_.2.2.1 102 0 dn_.toNat) + (S_.2.2.1 104 0 (S_.2.2.1 102 0 dn_.toNat).toNat) - 1) rfl (bi_sub (by omega) (by omega) (by omega)) ?_ -- pc_ 164
          refine sm_T_iald (n := 6232) rfl rfl (by omega) (by omega) ?_
          have bx6_ : 0 ≤ S_.2.2.1 105 0 (152 * (S_.2.2.1 102 0 dn_.toNat) + (S_.2.2.1 104 0 (S_.2.2.1 102 0 dn_.toNat).toNat) - 1).toNat ∧ S_.2.2.1 105 0 (152 * (S_.2.2.1 102 0 dn_.toNat) + (S_.2.2.1 104 0 (S_.2.2.1 102 0 dn_.toNat).toNat) - 1).toNat ≤ 10161 := hI_.2 105 0 _
          refine sm_T_go 1 (c1 := (169, [some (.inr (.inr (some (11, 0)))), some (.inr (.inr (some (2, cc_)))), some (.inl dn_), some (.inl gd_), some (.inl (S_.2.2.1 102 0 dn_.toNat))], [.inl 10000, .inl (S_.2.2.1 105 0 (152 * (S_.2.2.1 102 0 dn_.toNat) + (S_.2.2.1 104 0 (S_.2.2.1 102 0 dn_.toNat).toNat) - 1).toNat)], S_)) rfl ?_
          refine sm_T_br (a := 2) (z := 9) rfl (fun cx7_ => ?_) (fun cx7_ => ?_)
          · have cx7_ : (S_.2.2.1 105 0 (152 * (S_.2.2.1 102 0 dn_.toNat) + (S_.2.2.1 104 0 (S_.2.2.1 102 0 dn_.toNat).toNat) - 1).toNat) < 10000 := of_decide_eq_true cx7_
            refine sm_T_go 3 (c1 := (181, [some (.inr (.inr (some (11, 0)))), some (.inr (.inr (some (2, cc_)))), some (.inl dn_), some (.inl gd_), some (.inl (S_.2.2.1 102 0 dn_.toNat))], [.inl dn_, .inr (.inr (some (2, cc_))), .inr (.inr (some (11, 0)))], S_)) rfl ?_
            refine sm_T_cal (d1 := 2) (Q1 := vq_201 dn_ cc_ S_) rfl rfl (by decide) (vc_201 dn_ cc_ S_ hI_ (by omega) (by exact ht_) (by omega) (by omega)) (fun u_ Sx8_ px11_ => ?_)
            obtain ⟨rfl, hIx9_, hFx10_, px11_⟩ := px11_
            have hFx12_ : ai_fr (sx_W vw_199) S0_ Sx8_ := ai_fr_tr hF_ (fr_le hFx10_ rfl)
            have o181_ := px11_
            refine sm_T_inc (a := 3) (z := 1) (v := gd_) (w := gd_ + 1) rfl rfl (by omega) (by omega) (by omega) ?_ -- pc_ 184
            refine sm_T_go 1 (c1 := (123, [some (.inr (.inr (some (11, 0)))), some (.inr (.inr (some (2, cc_)))), some (.inl dn_), some (.inl (gd_ + 1)), some (.inl (S_.2.2.1 102 0 dn_.toNat))], [], Sx8_)) rfl ?_
            refine sm_T_wk [some (.inr (.inr (some (11, 0)))), some (.inr (.inr (some (2, cc_)))), some (.inl dn_), some (.inl (gd_ + 1)), none] (by exact ⟨rfl, rfl, rfl, rfl, trivial⟩) ?_
            refine ih_.2.2 dn_ (gd_ + 1) Sx8_ hIx9_ hFx12_ ⟨?_, ?_, trivial⟩ ?_
            · omega
            · first | exact ht_ | exact o181_
            · omega
          · have cx7_ : ¬ ((S_.2.2.1 105 0 (152 * (S_.2.2.1 102 0 dn_.toNat) + (S_.2.2.1 104 0 (S_.2.2.1 102 0 dn_.toNat).toNat) - 1).toNat) < 10000) := of_decide_eq_false cx7_
            refine sm_T_inc (a := 2) (z := 1) (v := dn_) (w := dn_ + 1) rfl rfl (by omega) (by omega) (by omega) ?_ -- pc_ 172
            refine sm_T_go 1 (c1 := (184, [some (.inr (.inr (some (11, 0)))), some (.inr (.inr (some (2, cc_)))), some (.inl (dn_ + 1)), some (.inl gd_), some (.inl (S_.2.2.1 102 0 dn_.toNat))], [], S_)) rfl ?_
            refine sm_T_inc (a := 3) (z := 1) (v := gd_) (w := gd_ + 1) rfl rfl (by omega) (by omega) (by omega) ?_ -- pc_ 184
            refine sm_T_go 1 (c1 := (123, [some (.inr (.inr (some (11, 0)))), some (.inr (.inr (some (2, cc_)))), some (.inl (dn_ + 1)), some (.inl (gd_ + 1)), some (.inl (S_.2.2.1 102 0 dn_.toNat))], [], S_)) rfl ?_
            refine sm_T_wk [some (.inr (.inr (some (11, 0)))), some (.inr (.inr (some (2, cc_)))), some (.inl (dn_ + 1)), some (.inl (gd_ + 1)), none] (by exact ⟨rfl, rfl, rfl, rfl, trivial⟩) ?_
            refine ih_.2.2 (dn_ + 1) (gd_ + 1) S_ hI_ hF_ ⟨?_, ?_, trivial⟩ ?_
            · omega
            · first | exact ht_ | exact o181_
            · omega
set_option maxHeartbeats 2000000 in
set_option maxRecDepth 20000 in
theorem vc_199 {sc_ : Nat × (Nat → Int)} (cc_ : Nat) (S0_ : sm_S) (hI_ : gi S0_) (hs_ : S0_.1 2 cc_ 1 + S0_.1 2 cc_ 2 ≤ 12) (hp_ : tpo S0_) : sm_T (mt_P sc_) 3 199 (0, [some (.inr (.inr (some (11, 0)))), some (.inr (.inr (some (2, cc_)))), none, none, none], [], S0_) (fun ro9_ => ∃ u_ S1_, ro9_ = (.inl u_, S1_, 0) ∧ vq_199 cc_ S0_ u_ S1_) := by
  have hF_ : ai_fr (sx_W vw_199) S0_ S0_ := ai_fr_rf
  refine sm_T_go 1 (c1 := (1, [some (.inr (.inr (some (11, 0)))), some (.inr (.inr (some (2, cc_)))), none, none, none], [.inr (.inr (some (11, 0)))], S0_)) rfl ?_
  cases qx1_ : S0_.2.1 11 0 3 with
  | none =>
    refine sm_T_gr rfl rfl qx1_ ?_
    refine sm_T_go 1 (c1 := (5, [some (.inr (.inr (some (11, 0)))), some (.inr (.inr (some (2, cc_)))), none, none, none], [.inr (.inr (some (2, cc_))), .inr (.inr none)], S0_)) rfl ?_
    refine sm_T_acn (x_ := none) (y_ := some (2, cc_)) rfl rfl (fun cx3_ => ?_) (fun cx3_ => ?_)
    · cases cx3_
    · skip
      have hIx4_ : gi (sm_pR S0_ 11 0 3 (some cc_)) := gi_pR hI_
      have hFx5_ : ai_fr (sx_W vw_199) S0_ (sm_pR S0_ 11 0 3 (some cc_)) := ai_fr_tr hF_ (ai_fr_pR rfl)
      have bx6_ : (-2147483648) ≤ S0_.1 0 (0 + cc_) 16 ∧ S0_.1 0 (0 + cc_) 16 ≤ 2147483647 := hI_.1 0 (0 + cc_) 16 rfl
      have hIx7_ : gi (sm_pI (sm_pR S0_ 11 0 3 (some cc_)) 11 0 4 (S0_.1 0 (0 + cc_) 16)) := gi_pI hIx4_ (show (-2147483648) ≤ (S0_.1 0 (0 + cc_) 16) ∧ (S0_.1 0 (0 + cc_) 16) ≤ 2147483647 from ⟨by omega, by omega⟩)
      have hFx8_ : ai_fr (sx_W vw_199) S0_ (sm_pI (sm_pR S0_ 11 0 3 (some cc_)) 11 0 4 (S0_.1 0 (0 + cc_) 16)) := ai_fr_tr hFx5_ (ai_fr_pI rfl)
      refine sm_T_go 10 (c1 := (41, [some (.inr (.inr (some (11, 0)))), some (.inr (.inr (some (2, cc_)))), none, none, none], [.inr (.inr (some (2, cc_))), .inr (.inr (some (11, 0)))], sm_pI (sm_pR S0_ 11 0 3 (some cc_)) 11 0 4 (S0_.1 0 (0 + cc_) 16))) rfl ?_
      refine sm_T_cal (d1 := 1) (Q1 := vq_196 cc_ (sm_pI (sm_pR S0_ 11 0 3 (some cc_)) 11 0 4 (S0_.1 0 (0 + cc_) 16))) rfl rfl (by decide) (vc_196 cc_ (sm_pI (sm_pR S0_ 11 0 3 (some cc_)) 11 0 4 (S0_.1 0 (0 + cc_) 16)) hIx7_ (by exact hs_)) (fun u_ Sx9_ px12_ => ?_)
      obtain ⟨rfl, hIx10_, hFx11_, px12_⟩ := px12_
      have hFx13_ : ai_fr (sx_W vw_199) S0_ Sx9_ := ai_fr_tr hFx8_ (fr_le hFx11_ rfl)
      refine sm_T_go 2 (c1 := (46, [some (.inr (.inr (some (11, 0)))), some (.inr (.inr (some (2, cc_)))), none, none, none], [.inr (.inr (some (2, cc_))), .inr (.inr (some (11, 0)))], Sx9_)) rfl ?_
      refine sm_T_cal (d1 := 1) (Q1 := vq_200 cc_ Sx9_) rfl rfl (by decide) (vc_200 cc_ Sx9_ hIx10_ (by (have q1_ := hFx13_.1 2 cc_ 1 rfl; have q2_ := hFx13_.1 2 cc_ 2 rfl; omega))) (fun u_ Sx14_ px17_ => ?_)
      obtain ⟨rfl, hIx15_, hFx16_, px17_⟩ := px17_
      have hFx18_ : ai_fr (sx_W vw_199) S0_ Sx14_ := ai_fr_tr hFx13_ (fr_le hFx16_ rfl)
      have hIx19_ : gi (sm_pI Sx14_ 11 0 5 0) := gi_pI hIx15_ (show 0 ≤ 0 ∧ 0 ≤ 41 from ⟨by omega, by omega⟩)
      have hFx20_ : ai_fr (sx_W vw_199) S0_ (sm_pI Sx14_ 11 0 5 0) := ai_fr_tr hFx18_ (ai_fr_pI rfl)
      refine sm_T_go 5 (c1 := (56, [some (.inr (.inr (some (11, 0)))), some (.inr (.inr (some (2, cc_)))), some (.inl 0), none, none], [], sm_pI Sx14_ 11 0 5 0)) rfl ?_
      refine (vl_199 cc_ S0_ hs_ hp_ _).1 0 (sm_pI Sx14_ 11 0 5 0) hIx19_ hFx20_ ⟨?_, trivial⟩ (Nat.lt_succ_self _)
      · (refine ⟨by omega, by omega, rfl⟩)
  | some jx2_ =>
    refine sm_T_gr rfl rfl qx1_ ?_
    refine sm_T_go 1 (c1 := (5, [some (.inr (.inr (some (11, 0)))), some (.inr (.inr (some (2, cc_)))), none, none, none], [.inr (.inr (some (2, cc_))), .inr (.inr (some (2, jx2_)))], S0_)) rfl ?_
    refine sm_T_acn (x_ := some (2, jx2_)) (y_ := some (2, cc_)) rfl rfl (fun cx21_ => ?_) (fun cx21_ => ?_)
    · have cx21_ : jx2_ = cc_ := congrArg Prod.snd (Option.some.inj cx21_)
      have bx22_ : (-2147483648) ≤ S0_.1 11 0 4 ∧ S0_.1 11 0 4 ≤ 2147483647 := hI_.1 11 0 4 rfl
      have bx23_ : (-2147483648) ≤ S0_.1 0 (0 + cc_) 16 ∧ S0_.1 0 (0 + cc_) 16 ≤ 2147483647 := hI_.1 0 (0 + cc_) 16 rfl
      refine sm_T_go 5 (c1 := (19, [some (.inr (.inr (some (11, 0)))), some (.inr (.inr (some (2, cc_)))), none, none, none], [.inl (S0_.1 0 (0 + cc_) 16), .inl (S0_.1 11 0 4)], S0_)) rfl ?_
      refine sm_T_br (a := 1) (z := 4) rfl (fun cx24_ => ?_) (fun cx24_ => ?_)
      · have cx24_ : (S0_.1 11 0 4) ≠ (S0_.1 0 (0 + cc_) 16) := of_decide_eq_true cx24_
        have hIx25_ : gi (sm_pR S0_ 11 0 3 (some cc_)) := gi_pR hI_
        have hFx26_ : ai_fr (sx_W vw_199) S0_ (sm_pR S0_ 11 0 3 (some cc_)) := ai_fr_tr hF_ (ai_fr_pR rfl)
        have hIx27_ : gi (sm_pI (sm_pR S0_ 11 0 3 (some cc_)) 11 0 4 (S0_.1 0 (0 + cc_) 16)) := gi_pI hIx25_ (show (-2147483648) ≤ (S0_.1 0 (0 + cc_) 16) ∧ (S0_.1 0 (0 + cc_) 16) ≤ 2147483647 from ⟨by omega, by omega⟩)
        have hFx28_ : ai_fr (sx_W vw_199) S0_ (sm_pI (sm_pR S0_ 11 0 3 (some cc_)) 11 0 4 (S0_.1 0 (0 + cc_) 16)) := ai_fr_tr hFx26_ (ai_fr_pI rfl)
        refine sm_T_go 10 (c1 := (41, [some (.inr (.inr (some (11, 0)))), some (.inr (.inr (some (2, cc_)))), none, none, none], [.inr (.inr (some (2, cc_))), .inr (.inr (some (11, 0)))], sm_pI (sm_pR S0_ 11 0 3 (some cc_)) 11 0 4 (S0_.1 0 (0 + cc_) 16))) rfl ?_
        refine sm_T_cal (d1 := 1) (Q1 := vq_196 cc_ (sm_pI (sm_pR S0_ 11 0 3 (some cc_)) 11 0 4 (S0_.1 0 (0 + cc_) 16))) rfl rfl (by decide) (vc_196 cc_ (sm_pI (sm_pR S0_ 11 0 3 (some cc_)) 11 0 4 (S0_.1 0 (0 + cc_) 16)) hIx27_ (by exact hs_)) (fun u_ Sx29_ px32_ => ?_)
        obtain ⟨rfl, hIx30_, hFx31_, px32_⟩ := px32_
        have hFx33_ : ai_fr (sx_W vw_199) S0_ Sx29_ := ai_fr_tr hFx28_ (fr_le hFx31_ rfl)
        refine sm_T_go 2 (c1 := (46, [some (.inr (.inr (some (11, 0)))), some (.inr (.inr (some (2, cc_)))), none, none, none], [.inr (.inr (some (2, cc_))), .inr (.inr (some (11, 0)))], Sx29_)) rfl ?_
        refine sm_T_cal (d1 := 1) (Q1 := vq_200 cc_ Sx29_) rfl rfl (by decide) (vc_200 cc_ Sx29_ hIx30_ (by (have q1_ := hFx33_.1 2 cc_ 1 rfl; have q2_ := hFx33_.1 2 cc_ 2 rfl; omega))) (fun u_ Sx34_ px37_ => ?_)
        obtain ⟨rfl, hIx35_, hFx36_, px37_⟩ := px37_
        have hFx38_ : ai_fr (sx_W vw_199) S0_ Sx34_ := ai_fr_tr hFx33_ (fr_le hFx36_ rfl)
        have hIx39_ : gi (sm_pI Sx34_ 11 0 5 0) := gi_pI hIx35_ (show 0 ≤ 0 ∧ 0 ≤ 41 from ⟨by omega, by omega⟩)
        have hFx40_ : ai_fr (sx_W vw_199) S0_ (sm_pI Sx34_ 11 0 5 0) := ai_fr_tr hFx38_ (ai_fr_pI rfl)
        refine sm_T_go 5 (c1 := (56, [some (.inr (.inr (some (11, 0)))), some (.inr (.inr (some (2, cc_)))), some (.inl 0), none, none], [], sm_pI Sx34_ 11 0 5 0)) rfl ?_
        refine (vl_199 cc_ S0_ hs_ hp_ _).1 0 (sm_pI Sx34_ 11 0 5 0) hIx39_ hFx40_ ⟨?_, trivial⟩ (Nat.lt_succ_self _)
        · (refine ⟨by omega, by omega, rfl⟩)
      · have cx24_ : ¬ ((S0_.1 11 0 4) ≠ (S0_.1 0 (0 + cc_) 16)) := of_decide_eq_false cx24_
        refine sm_T_rv rfl ⟨_, _, rfl, rfl, hI_, hF_, ?_⟩
        exact hp_
    · skip
      have hIx41_ : gi (sm_pR S0_ 11 0 3 (some cc_)) := gi_pR hI_
      have hFx42_ : ai_fr (sx_W vw_199) S0_ (sm_pR S0_ 11 0 3 (some cc_)) := ai_fr_tr hF_ (ai_fr_pR rfl)
      have bx43_ : (-2147483648) ≤ S0_.1 0 (0 + cc_) 16 ∧ S0_.1 0 (0 + cc_) 16 ≤ 2147483647 := hI_.1 0 (0 + cc_) 16 rfl
      have hIx44_ : gi (sm_pI (sm_pR S0_ 11 0 3 (some cc_)) 11 0 4 (S0_.1 0 (0 + cc_) 16)) := gi_pI hIx41_ (show (-2147483648) ≤ (S0_.1 0 (0 + cc_) 16) ∧ (S0_.1 0 (0 + cc_) 16) ≤ 2147483647 from ⟨by omega, by omega⟩)
      have hFx45_ : ai_fr (sx_W vw_199) S0_ (sm_pI (sm_pR S0_ 11 0 3 (some cc_)) 11 0 4 (S0_.1 0 (0 + cc_) 16)) := ai_fr_tr hFx42_ (ai_fr_pI rfl)
      refine sm_T_go 10 (c1 := (41, [some (.inr (.inr (some (11, 0)))), some (.inr (.inr (some (2, cc_)))), none, none, none], [.inr (.inr (some (2, cc_))), .inr (.inr (some (11, 0)))], sm_pI (sm_pR S0_ 11 0 3 (some cc_)) 11 0 4 (S0_.1 0 (0 + cc_) 16))) rfl ?_
      refine sm_T_cal (d1 := 1) (Q1 := vq_196 cc_ (sm_pI (sm_pR S0_ 11 0 3 (some cc_)) 11 0 4 (S0_.1 0 (0 + cc_) 16))) rfl rfl (by decide) (vc_196 cc_ (sm_pI (sm_pR S0_ 11 0 3 (some cc_)) 11 0 4 (S0_.1 0 (0 + cc_) 16)) hIx44_ (by exact hs_)) (fun u_ Sx46_ px49_ => ?_)
      obtain ⟨rfl, hIx47_, hFx48_, px49_⟩ := px49_
      have hFx50_ : ai_fr (sx_W vw_199) S0_ Sx46_ := ai_fr_tr hFx45_ (fr_le hFx48_ rfl)
      refine sm_T_go 2 (c1 := (46, [some (.inr (.inr (some (11, 0)))), some (.inr (.inr (some (2, cc_)))), none, none, none], [.inr (.inr (some (2, cc_))), .inr (.inr (some (11, 0)))], Sx46_)) rfl ?_
      refine sm_T_cal (d1 := 1) (Q1 := vq_200 cc_ Sx46_) rfl rfl (by decide) (vc_200 cc_ Sx46_ hIx47_ (by (have q1_ := hFx50_.1 2 cc_ 1 rfl; have q2_ := hFx50_.1 2 cc_ 2 rfl; omega))) (fun u_ Sx51_ px54_ => ?_)
      obtain ⟨rfl, hIx52_, hFx53_, px54_⟩ := px54_
      have hFx55_ : ai_fr (sx_W vw_199) S0_ Sx51_ := ai_fr_tr hFx50_ (fr_le hFx53_ rfl)
      have hIx56_ : gi (sm_pI Sx51_ 11 0 5 0) := gi_pI hIx52_ (show 0 ≤ 0 ∧ 0 ≤ 41 from ⟨by omega, by omega⟩)
      have hFx57_ : ai_fr (sx_W vw_199) S0_ (sm_pI Sx51_ 11 0 5 0) := ai_fr_tr hFx55_ (ai_fr_pI rfl)
      refine sm_T_go 5 (c1 := (56, [some (.inr (.inr (some (11, 0)))), some (.inr (.inr (some (2, cc_)))), some (.inl 0), none, none], [], sm_pI Sx51_ 11 0 5 0)) rfl ?_
      refine (vl_199 cc_ S0_ hs_ hp_ _).1 0 (sm_pI Sx51_ 11 0 5 0) hIx56_ hFx57_ ⟨?_, trivial⟩ (Nat.lt_succ_self _)
      · (refine ⟨by omega, by omega, rfl⟩)
end
/-! 99.zn1a -/
section
/-! cells over a graph: nodes; written by wip/p55/gen/vg -/

/-! cells over a_ graph -/
theorem swx {x_ b_ : Int} (h_ : 0 ≤ x_ ∧ x_ ≤ 2025) (hb_ : 0 ≤ b_ ∧ b_ ≤ 1) : 0 ≤ i_xor x_ b_ ∧ i_xor x_ b_ ≤ 2025 := by
  have q_ := i_xb (x_ := x_) (b_ := b_) (by omega) hb_
  omega
/-! Mapper.lowNode -/
def vw_92 : sx_Wl := ([], [], [])
def vq_92 (a1_ : Int) (dd_ : Nat) (S0_ : sm_S) (u_ : Option sm_V) (S1_ : sm_S) : Prop := S0_ = S1_ ∧ ∃ v_ : Int, u_ = some (.inl v_) ∧ ((0 ≤ v_ ∧ v_ ≤ 1012) ∧ ∀ F_ : Nat, dgr dd_ F_ S0_ → swp dd_ F_ S0_ → (F_ : Int) ≤ a1_ → a1_ < S0_.1 3 dd_ 4 → v_ = (srp dd_ S0_ (S0_.2.2.1 42 (0 + dd_) a1_.toNat) : Int))
set_option maxHeartbeats 400000 in
theorem vc_92 {sc_ : Nat × (Nat → Int)} (a1_ : Int) (dd_ : Nat) (S0_ : sm_S) (hI_ : gi S0_) (hd_ : S0_.2.1 6 0 0 = some dd_) (h1_ : 0 ≤ a1_ ∧ a1_ ≤ 1012) : sm_T (mt_P sc_) 1 92 (0, [some (.inr (.inr (some (6, 0)))), some (.inl a1_)], [], S0_) (fun ro9_ => ∃ u_ S1_, ro9_ = (.inl u_, S1_, 0) ∧ vq_92 a1_ dd_ S0_ u_ S1_) := by
  have hF_ : ai_fr (sx_W vw_92) S0_ S0_ := ai_fr_rf
  refine sm_T_go 1 (c1 := (1, [some (.inr (.inr (some (6, 0)))), some (.inl a1_)], [.inr (.inr (some (6, 0)))], S0_)) rfl ?_
  refine sm_T_gr rfl rfl ((hF_.2.1 6 0 0 rfl).trans hd_) ?_
  refine sm_T_go 1 (c1 := (5, [some (.inr (.inr (some (6, 0)))), some (.inl a1_)], [.inr (.inr (some (6, 0))), .inr (.inr (some (3, dd_)))], S0_)) rfl ?_
  refine sm_T_gr rfl rfl ((hF_.2.1 6 0 0 rfl).trans hd_) ?_
  refine sm_T_go 2 (c1 := (12, [some (.inr (.inr (some (6, 0)))), some (.inl a1_)], [.inl a1_, .inr (.inr (some (42, (0 + dd_)))), .inr (.inr (some (3, dd_)))], S0_)) rfl ?_
  refine sm_T_iald (n := 1013) rfl rfl (by omega) (by omega) ?_
  have bx1_ : 0 ≤ S0_.2.2.1 42 (0 + dd_) a1_.toNat ∧ S0_.2.2.1 42 (0 + dd_) a1_.toNat ≤ 2025 := hI_.2 42 (0 + dd_) _
  refine sm_T_cal (d1 := 0) (Q1 := vq_64 (S0_.2.2.1 42 (0 + dd_) a1_.toNat) dd_ S0_) rfl rfl (by decide) (vc_64 (S0_.2.2.1 42 (0 + dd_) a1_.toNat) dd_ S0_ hI_ (by omega)) (fun u_ Sx2_ px5_ => ?_)
  obtain ⟨rfl, vx7_, rfl, px5_⟩ := px5_
  have e13_ := px5_
  have c44_ : 0 ≤ S0_.2.2.1 44 (0 + dd_) (S0_.2.2.1 42 (0 + dd_) a1_.toNat / 2).toNat ∧ S0_.2.2.1 44 (0 + dd_) (S0_.2.2.1 42 (0 + dd_) a1_.toNat / 2).toNat ≤ 2025 := hI_.2 44 (0 + dd_) _
  have x13_ := swx c44_ (show 0 ≤ S0_.2.2.1 42 (0 + dd_) a1_.toNat % 2 ∧ S0_.2.2.1 42 (0 + dd_) a1_.toNat % 2 ≤ 1 by omega)
  refine sm_T_go 1 (c1 := (17, [some (.inr (.inr (some (6, 0)))), some (.inl a1_)], [.inl 1, .inl vx7_], S0_)) rfl ?_
  refine sm_T_bin (w := (vx7_ / 2)) rfl (bi_shr (k := 1) (by decide) (by omega) (by omega)) ?_ -- pc_ 17
  refine sm_T_ri rfl ⟨_, _, rfl, rfl, _, rfl, ?_⟩
  refine ⟨by omega, fun F_ hg_ hs_ u_ w_ => ?_⟩
  have n13_ : S0_.1 3 dd_ 4 ≤ 1013 := (hI_.1 3 dd_ 4 rfl).2
  have g9_ := hg_.2.2 a1_.toNat (by omega) (by omega)
  have s9_ := swl_n hs_ (l_ := S0_.2.2.1 42 (0 + dd_) a1_.toNat) (by omega) (by omega) (by omega)
  rw [e13_]
  exact s9_.1
end
/-! 99.zn1b -/
section
/-! Mapper.highNode -/
def vw_93 : sx_Wl := ([], [], [])
def vq_93 (a1_ : Int) (dd_ : Nat) (S0_ : sm_S) (u_ : Option sm_V) (S1_ : sm_S) : Prop := S0_ = S1_ ∧ ∃ v_ : Int, u_ = some (.inl v_) ∧ ((0 ≤ v_ ∧ v_ ≤ 1012) ∧ ∀ F_ : Nat, dgr dd_ F_ S0_ → swp dd_ F_ S0_ → (F_ : Int) ≤ a1_ → a1_ < S0_.1 3 dd_ 4 → v_ = (srp dd_ S0_ (S0_.2.2.1 43 (0 + dd_) a1_.toNat) : Int))
set_option maxHeartbeats 400000 in
theorem vc_93 {sc_ : Nat × (Nat → Int)} (a1_ : Int) (dd_ : Nat) (S0_ : sm_S) (hI_ : gi S0_) (hd_ : S0_.2.1 6 0 0 = some dd_) (h1_ : 0 ≤ a1_ ∧ a1_ ≤ 1012) : sm_T (mt_P sc_) 1 93 (0, [some (.inr (.inr (some (6, 0)))), some (.inl a1_)], [], S0_) (fun ro9_ => ∃ u_ S1_, ro9_ = (.inl u_, S1_, 0) ∧ vq_93 a1_ dd_ S0_ u_ S1_) := by
  have hF_ : ai_fr (sx_W vw_93) S0_ S0_ := ai_fr_rf
  refine sm_T_go 1 (c1 := (1, [some (.inr (.inr (some (6, 0)))), some (.inl a1_)], [.inr (.inr (some (6, 0)))], S0_)) rfl ?_
  refine sm_T_gr rfl rfl ((hF_.2.1 6 0 0 rfl).trans hd_) ?_
  refine sm_T_go 1 (c1 := (5, [some (.inr (.inr (some (6, 0)))), some (.inl a1_)], [.inr (.inr (some (6, 0))), .inr (.inr (some (3, dd_)))], S0_)) rfl ?_
  refine sm_T_gr rfl rfl ((hF_.2.1 6 0 0 rfl).trans hd_) ?_
  refine sm_T_go 2 (c1 := (12, [some (.inr (.inr (some (6, 0)))), some (.inl a1_)], [.inl a1_, .inr (.inr (some (43, (0 + dd_)))), .inr (.inr (some (3, dd_)))], S0_)) rfl ?_
  refine sm_T_iald (n := 1013) rfl rfl (by omega) (by omega) ?_
  have bx1_ : 0 ≤ S0_.2.2.1 43 (0 + dd_) a1_.toNat ∧ S0_.2.2.1 43 (0 + dd_) a1_.toNat ≤ 2025 := hI_.2 43 (0 + dd_) _
  refine sm_T_cal (d1 := 0) (Q1 := vq_64 (S0_.2.2.1 43 (0 + dd_) a1_.toNat) dd_ S0_) rfl rfl (by decide) (vc_64 (S0_.2.2.1 43 (0 + dd_) a1_.toNat) dd_ S0_ hI_ (by omega)) (fun u_ Sx2_ px5_ => ?_)
  obtain ⟨rfl, vx7_, rfl, px5_⟩ := px5_
  have e13_ := px5_
  have c44_ : 0 ≤ S0_.2.2.1 44 (0 + dd_) (S0_.2.2.1 43 (0 + dd_) a1_.toNat / 2).toNat ∧ S0_.2.2.1 44 (0 + dd_) (S0_.2.2.1 43 (0 + dd_) a1_.toNat / 2).toNat ≤ 2025 := hI_.2 44 (0 + dd_) _
  have x13_ := swx c44_ (show 0 ≤ S0_.2.2.1 43 (0 + dd_) a1_.toNat % 2 ∧ S0_.2.2.1 43 (0 + dd_) a1_.toNat % 2 ≤ 1 by omega)
  refine sm_T_go 1 (c1 := (17, [some (.inr (.inr (some (6, 0)))), some (.inl a1_)], [.inl 1, .inl vx7_], S0_)) rfl ?_
  refine sm_T_bin (w := (vx7_ / 2)) rfl (bi_shr (k := 1) (by decide) (by omega) (by omega)) ?_ -- pc_ 17
  refine sm_T_ri rfl ⟨_, _, rfl, rfl, _, rfl, ?_⟩
  refine ⟨by omega, fun F_ hg_ hs_ u_ w_ => ?_⟩
  have n13_ : S0_.1 3 dd_ 4 ≤ 1013 := (hI_.1 3 dd_ 4 rfl).2
  have g9_ := hg_.2.2 a1_.toNat (by omega) (by omega)
  have s9_ := swl_n hs_ (l_ := S0_.2.2.1 43 (0 + dd_) a1_.toNat) (by omega) (by omega) (by omega)
  rw [e13_]
  exact s9_.1
end
/-! 99.zn1c -/
section
/-! Mapper.isLeaf -/
def vw_94 : sx_Wl := ([], [], [])
def vq_94 (a1_ : Int) (dd_ : Nat) (S0_ : sm_S) (u_ : Option sm_V) (S1_ : sm_S) : Prop := S0_ = S1_ ∧ ∃ v_ : Int, u_ = some (.inl v_) ∧ ((v_ = 1 ∧ (a1_ < 1 + S0_.1 3 dd_ 1 + S0_.1 3 dd_ 2 ∨ S0_.2.2.1 60 0 a1_.toNat ≠ 0)) ∨ (v_ = 0 ∧ 1 + S0_.1 3 dd_ 1 + S0_.1 3 dd_ 2 ≤ a1_ ∧ S0_.2.2.1 60 0 a1_.toNat = 0))
set_option maxHeartbeats 400000 in
theorem vc_94 {sc_ : Nat × (Nat → Int)} (a1_ : Int) (dd_ : Nat) (S0_ : sm_S) (hI_ : gi S0_) (hd_ : S0_.2.1 6 0 0 = some dd_) (h1_ : 0 ≤ a1_ ∧ a1_ ≤ 1012) : sm_T (mt_P sc_) 1 94 (0, [some (.inr (.inr (some (6, 0)))), some (.inl a1_)], [], S0_) (fun ro9_ => ∃ u_ S1_, ro9_ = (.inl u_, S1_, 0) ∧ vq_94 a1_ dd_ S0_ u_ S1_) := by
  have hF_ : ai_fr (sx_W vw_94) S0_ S0_ := ai_fr_rf
  have c1_ : 0 ≤ S0_.1 3 dd_ 1 ∧ S0_.1 3 dd_ 1 ≤ 320 := hI_.1 3 dd_ 1 rfl
  have c2_ : 0 ≤ S0_.1 3 dd_ 2 ∧ S0_.1 3 dd_ 2 ≤ 100000 := hI_.1 3 dd_ 2 rfl
  refine sm_T_go 2 (c1 := (2, [some (.inr (.inr (some (6, 0)))), some (.inl a1_)], [.inr (.inr (some (6, 0))), .inl a1_], S0_)) rfl ?_
  refine sm_T_gr rfl rfl ((hF_.2.1 6 0 0 rfl).trans hd_) ?_
  refine sm_T_cal (d1 := 0) (Q1 := vq_63 dd_ S0_) rfl rfl (by decide) (vc_63 dd_ S0_ hI_ (by omega)) (fun u_ Sx1_ px4_ => ?_)
  obtain ⟨rfl, vx6_, rfl, px4_⟩ := px4_
  have f5_ := px4_
  refine sm_T_br (a := 2) (z := 12) rfl (fun cx7_ => ?_) (fun cx7_ => ?_)
  · have cx7_ : a1_ < vx6_ := of_decide_eq_true cx7_
    refine sm_T_go 2 (c1 := (25, [some (.inr (.inr (some (6, 0)))), some (.inl a1_)], [.inl 1], S0_)) rfl ?_
    refine sm_T_rz rfl (by omega) ⟨_, _, rfl, rfl, _, rfl, ?_⟩
    omega
  · have cx7_ : ¬ (a1_ < vx6_) := of_decide_eq_false cx7_
    refine sm_T_go 3 (c1 := (16, [some (.inr (.inr (some (6, 0)))), some (.inl a1_)], [.inl a1_, .inr (.inr (some (60, 0)))], S0_)) rfl ?_
    refine sm_T_iald (n := 1013) rfl rfl (by omega) (by omega) ?_
    have bx8_ : (-2147483648) ≤ S0_.2.2.1 60 0 a1_.toNat ∧ S0_.2.2.1 60 0 a1_.toNat ≤ 2147483647 := hI_.2 60 0 _
    refine sm_T_b0 (a := 0) (z := 7) rfl (fun cx9_ => ?_) (fun cx9_ => ?_)
    · have cx9_ : (S0_.2.2.1 60 0 a1_.toNat) = 0 := of_decide_eq_true cx9_
      refine sm_T_go 1 (c1 := (25, [some (.inr (.inr (some (6, 0)))), some (.inl a1_)], [.inl 0], S0_)) rfl ?_
      refine sm_T_rz rfl (by omega) ⟨_, _, rfl, rfl, _, rfl, ?_⟩
      omega
    · have cx9_ : ¬ ((S0_.2.2.1 60 0 a1_.toNat) = 0) := of_decide_eq_false cx9_
      refine sm_T_go 2 (c1 := (25, [some (.inr (.inr (some (6, 0)))), some (.inl a1_)], [.inl 1], S0_)) rfl ?_
      refine sm_T_rz rfl (by omega) ⟨_, _, rfl, rfl, _, rfl, ?_⟩
      omega
def plo (a_ b_ c_ : Int) : Int := if a_ = 2 then st_at 4 (3 * b_ + c_) else st_at 4 (3 * b_ + c_ + 6)
theorem pl2 {i_ : Int} (h_ : i_ = 0 ∨ i_ = 1 ∨ i_ = 3 ∨ i_ = 4) : 0 ≤ st_at 4 i_ ∧ st_at 4 i_ ≤ 1 := by
  rcases h_ with h_ | h_ | h_ | h_ <;> rw [h_] <;> decide
theorem pl3 {i_ : Int} (h_ : 0 ≤ i_ ∧ i_ ≤ 23) : 0 ≤ st_at 4 i_ ∧ st_at 4 i_ ≤ 2 := by
  have c_ : ∀ k_ : Fin 24, 0 ≤ st_at 4 ((k_.val : Nat) : Int) ∧ st_at 4 ((k_.val : Nat) : Int) ≤ 2 := by decide
  have q_ := c_ ⟨i_.toNat, by omega⟩
  rw [show (((⟨i_.toNat, by omega⟩ : Fin 24).val : Nat) : Int) = i_ from by show ((i_.toNat : Nat) : Int) = i_; omega] at q_
  exact q_
end
/-! 99.zn1d -/
section
/-! Mapper.placeOf -/
def vw_98 : sx_Wl := ([], [], [])
def vq_98 (a0_ : Int) (a1_ : Int) (a2_ : Int) (S0_ : sm_S) (u_ : Option sm_V) (S1_ : sm_S) : Prop := S0_ = S1_ ∧ ∃ v_ : Int, u_ = some (.inl v_) ∧ ((0 ≤ v_ ∧ v_ ≤ a0_ - 1) ∧ v_ = plo a0_ a1_ a2_)
set_option maxHeartbeats 400000 in
theorem vc_98 {sc_ : Nat × (Nat → Int)} (a0_ : Int) (a1_ : Int) (a2_ : Int) (S0_ : sm_S) (hI_ : gi S0_) (h0_ : (a0_ = 2 ∧ 0 ≤ a1_ ∧ a1_ ≤ 1 ∧ 0 ≤ a2_ ∧ a2_ ≤ 1) ∨ (a0_ = 3 ∧ 0 ≤ a1_ ∧ a1_ ≤ 5 ∧ 0 ≤ a2_ ∧ a2_ ≤ 2)) : sm_T (mt_P sc_) 0 98 (0, [some (.inl a0_), some (.inl a1_), some (.inl a2_)], [], S0_) (fun ro9_ => ∃ u_ S1_, ro9_ = (.inl u_, S1_, 0) ∧ vq_98 a0_ a1_ a2_ S0_ u_ S1_) := by
  have hF_ : ai_fr (sx_W vw_98) S0_ S0_ := ai_fr_rf
  refine sm_T_nt (u := some (.inr (.inr (some (300, 0))))) (S1 := S0_) rfl rfl rfl ?_
  refine sm_T_go 3 (c1 := (6, [some (.inl a0_), some (.inl a1_), some (.inl a2_)], [.inl 2, .inl a0_, .inl 3, .inr (.inr (some (300, 0)))], S0_)) rfl ?_
  refine sm_T_br (a := 1) (z := 7) rfl (fun cx1_ => ?_) (fun cx1_ => ?_)
  · have cx1_ : a0_ ≠ 2 := of_decide_eq_true cx1_
    refine sm_T_go 2 (c1 := (15, [some (.inl a0_), some (.inl a1_), some (.inl a2_)], [.inl a1_, .inl 2, .inl 3, .inr (.inr (some (300, 0)))], S0_)) rfl ?_
    refine sm_T_bin (w := a1_ + 2) rfl (bi_add (by omega) (by omega) (by omega)) ?_ -- pc_ 15
    refine sm_T_bin (w := 3 * a1_ + 6) rfl (bi_mul (by omega) (by omega) (by omega)) ?_ -- pc_ 16
    refine sm_T_go 1 (c1 := (18, [some (.inl a0_), some (.inl a1_), some (.inl a2_)], [.inl a2_, .inl (3 * a1_ + 6), .inr (.inr (some (300, 0)))], S0_)) rfl ?_
    refine sm_T_bin (w := 3 * a1_ + a2_ + 6) rfl (bi_add (by omega) (by omega) (by omega)) ?_ -- pc_ 18
    refine sm_T_nt (u := some (.inl (st_at 4 (3 * a1_ + a2_ + 6)))) (S1 := S0_) rfl rfl (nt_st (sc := sc_) (j := 4) (n := 24) (by decide) rfl rfl (by omega) (by omega)) ?_
    refine sm_T_ri rfl ⟨_, _, rfl, rfl, _, rfl, ?_⟩
    first | (have z9_ := pl2 (i_ := 3 * a1_ + a2_) (by omega); exact ⟨by omega, by unfold plo; rw [if_pos (by omega)]⟩) | (have z9_ := pl3 (i_ := 3 * a1_ + a2_ + 6) (by omega); exact ⟨by omega, by unfold plo; rw [if_neg (by omega)]⟩)
  · have cx1_ : ¬ (a0_ ≠ 2) := of_decide_eq_false cx1_
    refine sm_T_go 2 (c1 := (16, [some (.inl a0_), some (.inl a1_), some (.inl a2_)], [.inl a1_, .inl 3, .inr (.inr (some (300, 0)))], S0_)) rfl ?_
    refine sm_T_bin (w := 3 * a1_) rfl (bi_mul (by omega) (by omega) (by omega)) ?_ -- pc_ 16
    refine sm_T_go 1 (c1 := (18, [some (.inl a0_), some (.inl a1_), some (.inl a2_)], [.inl a2_, .inl (3 * a1_), .inr (.inr (some (300, 0)))], S0_)) rfl ?_
    refine sm_T_bin (w := 3 * a1_ + a2_) rfl (bi_add (by omega) (by omega) (by omega)) ?_ -- pc_ 18
    refine sm_T_nt (u := some (.inl (st_at 4 (3 * a1_ + a2_)))) (S1 := S0_) rfl rfl (nt_st (sc := sc_) (j := 4) (n := 24) (by decide) rfl rfl (by omega) (by omega)) ?_
    refine sm_T_ri rfl ⟨_, _, rfl, rfl, _, rfl, ?_⟩
    first | (have z9_ := pl2 (i_ := 3 * a1_ + a2_) (by omega); exact ⟨by omega, by unfold plo; rw [if_pos (by omega)]⟩) | (have z9_ := pl3 (i_ := 3 * a1_ + a2_ + 6) (by omega); exact ⟨by omega, by unfold plo; rw [if_neg (by omega)]⟩)
end
/-! 99.zn1e -/
section
/-! Mapper.placeIn -/
def vw_106 : sx_Wl := ([], [], [])
def vq_106 (a1_ : Int) (a2_ : Int) (S0_ : sm_S) (u_ : Option sm_V) (S1_ : sm_S) : Prop := S0_ = S1_ ∧ ∃ v_ : Int, u_ = some (.inl v_) ∧ (-1 ≤ v_ ∧ v_ ≤ 2)
set_option maxHeartbeats 400000 in
theorem vl_106 {sc_ : Nat × (Nat → Int)} (a1_ : Int) (a2_ : Int) (S0_ : sm_S) (h1_ : 0 ≤ a1_ ∧ a1_ ≤ 1023) : ∀ nn_ : Nat, (∀ (k_ : Int) (S_ : sm_S), gi S_ → ai_fr (sx_W vw_106) S0_ S_ → ((0 ≤ k_ ∧ k_ ≤ 3) ∧ (S_ = S0_) ∧ True) → ((10 - k_).toNat) < nn_ → sm_T (mt_P sc_) 0 106 (2, [some (.inr (.inr (some (6, 0)))), some (.inl a1_), some (.inl a2_), some (.inl k_)], [], S_) (fun ro9_ => ∃ u_ S1_, ro9_ = (.inl u_, S1_, 0) ∧ vq_106 a1_ a2_ S0_ u_ S1_)) := by
  intro nn_
  induction nn_ with
  | zero => exact fun _ _ _ _ _ h_ => absurd h_ (Nat.not_lt_zero _)
  | succ nn_ ih_ =>
    rintro k_ S_ hI_ hF_ ⟨h0_, hS_, -⟩ hm_
    refine sm_T_go 2 (c1 := (4, [some (.inr (.inr (some (6, 0)))), some (.inl a1_), some (.inl a2_), some (.inl k_)], [.inl 3, .inl k_], S_)) rfl ?_
    refine sm_T_br (a := 3) (z := 25) rfl (fun cx1_ => ?_) (fun cx1_ => ?_)
    · have cx1_ : 3 ≤ k_ := of_decide_eq_true cx1_
      refine sm_T_go 1 (c1 := (30, [some (.inr (.inr (some (6, 0)))), some (.inl a1_), some (.inl a2_), some (.inl k_)], [.inl (-1)], S_)) rfl ?_
      refine sm_T_ri rfl ⟨_, _, rfl, (by first | rfl | exact hS_.symm), _, rfl, ?_⟩
      omega
    · have cx1_ : ¬ (3 ≤ k_) := of_decide_eq_false cx1_
      refine sm_T_go 4 (c1 := (13, [some (.inr (.inr (some (6, 0)))), some (.inl a1_), some (.inl a2_), some (.inl k_)], [.inl a1_, .inl 3, .inr (.inr (some (65, 0)))], S_)) rfl ?_
      refine sm_T_bin (w := 3 * a1_) rfl (bi_mul (by omega) (by omega) (by omega)) ?_ -- pc_ 13
      refine sm_T_go 1 (c1 := (15, [some (.inr (.inr (some (6, 0)))), some (.inl a1_), some (.inl a2_), some (.inl k_)], [.inl k_, .inl (3 * a1_), .inr (.inr (some (65, 0)))], S_)) rfl ?_
      refine sm_T_bin (w := 3 * a1_ + k_) rfl (bi_add (by omega) (by omega) (by omega)) ?_ -- pc_ 15
      refine sm_T_iald (n := 3072) rfl rfl (by omega) (by omega) ?_
      have bx2_ : (-1) ≤ S_.2.2.1 65 0 (3 * a1_ + k_).toNat ∧ S_.2.2.1 65 0 (3 * a1_ + k_).toNat ≤ 1012 := hI_.2 65 0 _
      refine sm_T_go 1 (c1 := (18, [some (.inr (.inr (some (6, 0)))), some (.inl a1_), some (.inl a2_), some (.inl k_)], [.inl a2_, .inl (S_.2.2.1 65 0 (3 * a1_ + k_).toNat)], S_)) rfl ?_
      refine sm_T_br (a := 1) (z := 5) rfl (fun cx3_ => ?_) (fun cx3_ => ?_)
      · have cx3_ : (S_.2.2.1 65 0 (3 * a1_ + k_).toNat) ≠ a2_ := of_decide_eq_true cx3_
        refine sm_T_inc (a := 3) (z := 1) (v := k_) (w := k_ + 1) rfl rfl (by omega) (by omega) (by omega) ?_ -- pc_ 23
        refine sm_T_go 1 (c1 := (2, [some (.inr (.inr (some (6, 0)))), some (.inl a1_), some (.inl a2_), some (.inl (k_ + 1))], [], S_)) rfl ?_
        refine ih_ (k_ + 1) S_ hI_ hF_ ⟨?_, ?_, trivial⟩ ?_
        · omega
        · first | rfl | exact hS_
        · omega
      · have cx3_ : ¬ ((S_.2.2.1 65 0 (3 * a1_ + k_).toNat) ≠ a2_) := of_decide_eq_false cx3_
        refine sm_T_go 1 (c1 := (22, [some (.inr (.inr (some (6, 0)))), some (.inl a1_), some (.inl a2_), some (.inl k_)], [.inl k_], S_)) rfl ?_
        refine sm_T_ri rfl ⟨_, _, rfl, (by first | rfl | exact hS_.symm), _, rfl, ?_⟩
        omega
set_option maxHeartbeats 400000 in
theorem vc_106 {sc_ : Nat × (Nat → Int)} (a1_ : Int) (a2_ : Int) (S0_ : sm_S) (hI_ : gi S0_) (h1_ : 0 ≤ a1_ ∧ a1_ ≤ 1023) : sm_T (mt_P sc_) 0 106 (0, [some (.inr (.inr (some (6, 0)))), some (.inl a1_), some (.inl a2_), none], [], S0_) (fun ro9_ => ∃ u_ S1_, ro9_ = (.inl u_, S1_, 0) ∧ vq_106 a1_ a2_ S0_ u_ S1_) := by
  have hF_ : ai_fr (sx_W vw_106) S0_ S0_ := ai_fr_rf
  refine sm_T_go 2 (c1 := (2, [some (.inr (.inr (some (6, 0)))), some (.inl a1_), some (.inl a2_), some (.inl 0)], [], S0_)) rfl ?_
  refine (vl_106 a1_ a2_ S0_ h1_ _) 0 S0_ hI_ hF_ ⟨?_, ?_, trivial⟩ (Nat.lt_succ_self _)
  · omega
  · first | rfl | exact hS_
end
/-! 99.zn1f -/
section
/-! Mapper.isBefore -/
def vw_104 : sx_Wl := ([], [], [])
def vq_104 (a1_ : Int) (a2_ : Int) (S0_ : sm_S) (u_ : Option sm_V) (S1_ : sm_S) : Prop := S0_ = S1_ ∧ ∃ v_ : Int, u_ = some (.inl v_) ∧ (0 ≤ v_ ∧ v_ ≤ 1)
set_option maxHeartbeats 400000 in
theorem vl_104 {sc_ : Nat × (Nat → Int)} (a1_ : Int) (a2_ : Int) (S0_ : sm_S) (h1_ : 0 ≤ a1_ ∧ a1_ ≤ 1023) (h2_ : 0 ≤ a2_ ∧ a2_ ≤ 1023) : ∀ nn_ : Nat, (∀ (k_ : Int) (S_ : sm_S), gi S_ → ai_fr (sx_W vw_104) S0_ S_ → ((0 ≤ k_ ∧ k_ ≤ 3) ∧ (S_ = S0_) ∧ True) → ((10 - k_).toNat) < nn_ → sm_T (mt_P sc_) 0 104 (2, [some (.inr (.inr (some (6, 0)))), some (.inl a1_), some (.inl a2_), some (.inl k_)], [], S_) (fun ro9_ => ∃ u_ S1_, ro9_ = (.inl u_, S1_, 0) ∧ vq_104 a1_ a2_ S0_ u_ S1_)) := by
  intro nn_
  induction nn_ with
  | zero => exact fun _ _ _ _ _ h_ => absurd h_ (Nat.not_lt_zero _)
  | succ nn_ ih_ =>
    rintro k_ S_ hI_ hF_ ⟨h0_, hS_, -⟩ hm_
    refine sm_T_go 2 (c1 := (4, [some (.inr (.inr (some (6, 0)))), some (.inl a1_), some (.inl a2_), some (.inl k_)], [.inl 3, .inl k_], S_)) rfl ?_
    refine sm_T_br (a := 3) (z := 61) rfl (fun cx1_ => ?_) (fun cx1_ => ?_)
    · have cx1_ : 3 ≤ k_ := of_decide_eq_true cx1_
      refine sm_T_go 1 (c1 := (66, [some (.inr (.inr (some (6, 0)))), some (.inl a1_), some (.inl a2_), some (.inl k_)], [.inl 0], S_)) rfl ?_
      refine sm_T_rz rfl (by omega) ⟨_, _, rfl, (by first | rfl | exact hS_.symm), _, rfl, ?_⟩
      omega
    · have cx1_ : ¬ (3 ≤ k_) := of_decide_eq_false cx1_
      refine sm_T_go 4 (c1 := (13, [some (.inr (.inr (some (6, 0)))), some (.inl a1_), some (.inl a2_), some (.inl k_)], [.inl a1_, .inl 3, .inr (.inr (some (65, 0)))], S_)) rfl ?_
      refine sm_T_bin (w := 3 * a1_) rfl (bi_mul (by omega) (by omega) (by omega)) ?_ -- pc_ 13
      refine sm_T_go 1 (c1 := (15, [some (.inr (.inr (some (6, 0)))), some (.inl a1_), some (.inl a2_), some (.inl k_)], [.inl k_, .inl (3 * a1_), .inr (.inr (some (65, 0)))], S_)) rfl ?_
      refine sm_T_bin (w := 3 * a1_ + k_) rfl (bi_add (by omega) (by omega) (by omega)) ?_ -- pc_ 15
      refine sm_T_iald (n := 3072) rfl rfl (by omega) (by omega) ?_
      have bx2_ : (-1) ≤ S_.2.2.1 65 0 (3 * a1_ + k_).toNat ∧ S_.2.2.1 65 0 (3 * a1_ + k_).toNat ≤ 1012 := hI_.2 65 0 _
      refine sm_T_go 4 (c1 := (23, [some (.inr (.inr (some (6, 0)))), some (.inl a1_), some (.inl a2_), some (.inl k_)], [.inl a2_, .inl 3, .inr (.inr (some (65, 0))), .inl (S_.2.2.1 65 0 (3 * a1_ + k_).toNat)], S_)) rfl ?_
      refine sm_T_bin (w := 3 * a2_) rfl (bi_mul (by omega) (by omega) (by omega)) ?_ -- pc_ 23
      refine sm_T_go 1 (c1 := (25, [some (.inr (.inr (some (6, 0)))), some (.inl a1_), some (.inl a2_), some (.inl k_)], [.inl k_, .inl (3 * a2_), .inr (.inr (some (65, 0))), .inl (S_.2.2.1 65 0 (3 * a1_ + k_).toNat)], S_)) rfl ?_
      refine sm_T_bin (w := 3 * a2_ + k_) rfl (bi_add (by omega) (by omega) (by omega)) ?_ -- pc_ 25
      refine sm_T_iald (n := 3072) rfl rfl (by omega) (by omega) ?_
      have bx3_ : (-1) ≤ S_.2.2.1 65 0 (3 * a2_ + k_).toNat ∧ S_.2.2.1 65 0 (3 * a2_ + k_).toNat ≤ 1012 := hI_.2 65 0 _
      refine sm_T_br (a := 0) (z := 32) rfl (fun cx4_ => ?_) (fun cx4_ => ?_)
      · have cx4_ : (S_.2.2.1 65 0 (3 * a1_ + k_).toNat) = (S_.2.2.1 65 0 (3 * a2_ + k_).toNat) := of_decide_eq_true cx4_
        refine sm_T_inc (a := 3) (z := 1) (v := k_) (w := k_ + 1) rfl rfl (by omega) (by omega) (by omega) ?_ -- pc_ 59
        refine sm_T_go 1 (c1 := (2, [some (.inr (.inr (some (6, 0)))), some (.inl a1_), some (.inl a2_), some (.inl (k_ + 1))], [], S_)) rfl ?_
        refine ih_ (k_ + 1) S_ hI_ hF_ ⟨?_, ?_, trivial⟩ ?_
        · omega
        · first | rfl | exact hS_
        · omega
      · have cx4_ : ¬ ((S_.2.2.1 65 0 (3 * a1_ + k_).toNat) = (S_.2.2.1 65 0 (3 * a2_ + k_).toNat)) := of_decide_eq_false cx4_
        refine sm_T_go 4 (c1 := (36, [some (.inr (.inr (some (6, 0)))), some (.inl a1_), some (.inl a2_), some (.inl k_)], [.inl a1_, .inl 3, .inr (.inr (some (65, 0)))], S_)) rfl ?_
        refine sm_T_bin (w := 3 * a1_) rfl (bi_mul (by omega) (by omega) (by omega)) ?_ -- pc_ 36
        refine sm_T_go 1 (c1 := (38, [some (.inr (.inr (some (6, 0)))), some (.inl a1_), some (.inl a2_), some (.inl k_)], [.inl k_, .inl (3 * a1_), .inr (.inr (some (65, 0)))], S_)) rfl ?_
        refine sm_T_bin (w := 3 * a1_ + k_) rfl (bi_add (by omega) (by omega) (by omega)) ?_ -- pc_ 38
        refine sm_T_iald (n := 3072) rfl rfl (by omega) (by omega) ?_
        refine sm_T_go 4 (c1 := (46, [some (.inr (.inr (some (6, 0)))), some (.inl a1_), some (.inl a2_), some (.inl k_)], [.inl a2_, .inl 3, .inr (.inr (some (65, 0))), .inl (S_.2.2.1 65 0 (3 * a1_ + k_).toNat)], S_)) rfl ?_
        refine sm_T_bin (w := 3 * a2_) rfl (bi_mul (by omega) (by omega) (by omega)) ?_ -- pc_ 46
        refine sm_T_go 1 (c1 := (48, [some (.inr (.inr (some (6, 0)))), some (.inl a1_), some (.inl a2_), some (.inl k_)], [.inl k_, .inl (3 * a2_), .inr (.inr (some (65, 0))), .inl (S_.2.2.1 65 0 (3 * a1_ + k_).toNat)], S_)) rfl ?_
        refine sm_T_bin (w := 3 * a2_ + k_) rfl (bi_add (by omega) (by omega) (by omega)) ?_ -- pc_ 48
        refine sm_T_iald (n := 3072) rfl rfl (by omega) (by omega) ?_
        refine sm_T_br (a := 3) (z := 7) rfl (fun cx5_ => ?_) (fun cx5_ => ?_)
        · have cx5_ : (S_.2.2.1 65 0 (3 * a2_ + k_).toNat) ≤ (S_.2.2.1 65 0 (3 * a1_ + k_).toNat) := of_decide_eq_true cx5_
          refine sm_T_go 1 (c1 := (58, [some (.inr (.inr (some (6, 0)))), some (.inl a1_), some (.inl a2_), some (.inl k_)], [.inl 0], S_)) rfl ?_
          refine sm_T_rz rfl (by omega) ⟨_, _, rfl, (by first | rfl | exact hS_.symm), _, rfl, ?_⟩
          omega
        · have cx5_ : ¬ ((S_.2.2.1 65 0 (3 * a2_ + k_).toNat) ≤ (S_.2.2.1 65 0 (3 * a1_ + k_).toNat)) := of_decide_eq_false cx5_
          refine sm_T_go 2 (c1 := (58, [some (.inr (.inr (some (6, 0)))), some (.inl a1_), some (.inl a2_), some (.inl k_)], [.inl 1], S_)) rfl ?_
          refine sm_T_rz rfl (by omega) ⟨_, _, rfl, (by first | rfl | exact hS_.symm), _, rfl, ?_⟩
          omega
set_option maxHeartbeats 400000 in
theorem vc_104 {sc_ : Nat × (Nat → Int)} (a1_ : Int) (a2_ : Int) (S0_ : sm_S) (hI_ : gi S0_) (h1_ : 0 ≤ a1_ ∧ a1_ ≤ 1023) (h2_ : 0 ≤ a2_ ∧ a2_ ≤ 1023) : sm_T (mt_P sc_) 0 104 (0, [some (.inr (.inr (some (6, 0)))), some (.inl a1_), some (.inl a2_), none], [], S0_) (fun ro9_ => ∃ u_ S1_, ro9_ = (.inl u_, S1_, 0) ∧ vq_104 a1_ a2_ S0_ u_ S1_) := by
  have hF_ : ai_fr (sx_W vw_104) S0_ S0_ := ai_fr_rf
  refine sm_T_go 2 (c1 := (2, [some (.inr (.inr (some (6, 0)))), some (.inl a1_), some (.inl a2_), some (.inl 0)], [], S0_)) rfl ?_
  refine (vl_104 a1_ a2_ S0_ h1_ h2_ _) 0 S0_ hI_ hF_ ⟨?_, ?_, trivial⟩ (Nat.lt_succ_self _)
  · omega
  · first | rfl | exact hS_

/-- members and cuts: nodes of_ a_ kind -/
def mms (P_ : Int → Prop) (S_ : sm_S) (k_ h_ : Int) : Prop := ∀ i_ : Nat, (i_ : Int) ≤ k_ → (i_ : Int) ≠ h_ → P_ (S_.2.2.1 68 0 i_)
def mcs (P_ : Int → Prop) (S_ : sm_S) : Prop := ∀ c_ : Nat, (c_ : Int) < S_.1 6 0 11 → P_ (S_.2.2.1 65 0 (3 * c_)) ∧ P_ (S_.2.2.1 65 0 (3 * c_ + 1)) ∧ (S_.2.2.1 65 0 (3 * c_ + 2) = -1 ∨ P_ (S_.2.2.1 65 0 (3 * c_ + 2)))
theorem mms_mv {P_ : Int → Prop} {S_ : sm_S} {k_ h_ : Int} (g_ : mms P_ S_ k_ h_) (h0_ : 1 ≤ h_ ∧ h_ ≤ k_) : mms P_ (sm_aI S_ 68 0 h_.toNat (S_.2.2.1 68 0 (h_ - 1).toNat)) k_ (h_ - 1) := by
  intro i_ hi_ hn_
  rw [rd_eq]
  by_cases y_ : i_ = h_.toNat
  · rw [if_pos y_]; exact g_ (h_ - 1).toNat (by omega) (by omega)
  · rw [if_neg y_]; exact g_ i_ hi_ (by omega)
end
/-! 99.zn1g -/
section
/-! Mapper.addMember -/
def vw_101 : sx_Wl := ([(6, 13)], [68], [])
def vq_101 (a1_ : Int) (P_ : Int → Prop) (S0_ : sm_S) (u_ : Option sm_V) (S1_ : sm_S) : Prop := u_ = none ∧ gi S1_ ∧ ai_fr (sx_W vw_101) S0_ S1_ ∧ (S0_.1 6 0 13 ≤ S1_.1 6 0 13 ∧ S1_.1 6 0 13 ≤ S0_.1 6 0 13 + 1 ∧ mms P_ S1_ (S1_.1 6 0 13) (S1_.1 6 0 13) ∧ imq (a1_ ≠ -1) (1 ≤ S1_.1 6 0 13) ∧ imq (a1_ ≠ -1 ∧ S0_.1 6 0 13 = 0) (S1_.2.2.1 68 0 0 = a1_) ∧ imq (a1_ ≠ -1 ∧ S0_.1 6 0 13 = 1 ∧ S0_.2.2.1 68 0 0 ≠ a1_) (S1_.1 6 0 13 = 2))
set_option maxHeartbeats 400000 in
theorem vl_101 {sc_ : Nat × (Nat → Int)} (a1_ : Int) (P_ : Int → Prop) (S0_ : sm_S) (h1_ : -1 ≤ a1_ ∧ a1_ ≤ 1012) (h3_ : S0_.1 6 0 13 ≤ 3) (hms_ : mms P_ S0_ (S0_.1 6 0 13) (S0_.1 6 0 13)) (hp_ : a1_ ≠ -1 → P_ a1_) : ∀ nn_ : Nat, (∀ (a9_ : Int) (k_ : Int) (S_ : sm_S), gi S_ → ai_fr (sx_W vw_101) S0_ S_ → ((0 ≤ k_ ∧ k_ ≤ S0_.1 6 0 13 ∧ a9_ = S0_.1 6 0 13 ∧ a1_ ≠ -1) ∧ (S_ = S0_) ∧ (∀ j_ : Nat, (j_ : Int) < k_ → S0_.2.2.1 68 0 j_ ≠ a1_) ∧ True) → ((100 - k_).toNat) < nn_ → sm_T (mt_P sc_) 0 101 (13, [some (.inr (.inr (some (6, 0)))), some (.inl a1_), some (.inl a9_), some (.inl k_)], [], S_) (fun ro9_ => ∃ u_ S1_, ro9_ = (.inl u_, S1_, 0) ∧ vq_101 a1_ P_ S0_ u_ S1_)) ∧ (∀ (a9_ : Int) (S_ : sm_S), gi S_ → ai_fr (sx_W vw_101) S0_ S_ → ((0 ≤ a9_ ∧ a9_ ≤ S0_.1 6 0 13 ∧ S_.1 6 0 13 = S0_.1 6 0 13 ∧ a1_ ≠ -1) ∧ (mms P_ S_ (S0_.1 6 0 13) a9_) ∧ True) → ((10 + a9_).toNat) < nn_ → sm_T (mt_P sc_) 0 101 (38, [some (.inr (.inr (some (6, 0)))), some (.inl a1_), some (.inl a9_), none], [], S_) (fun ro9_ => ∃ u_ S1_, ro9_ = (.inl u_, S1_, 0) ∧ vq_101 a1_ P_ S0_ u_ S1_)) := by
  intro nn_
  induction nn_ with
  | zero => exact ⟨fun _ _ _ _ _ _ h_ => absurd h_ (Nat.not_lt_zero _), fun _ _ _ _ _ h_ => absurd h_ (Nat.not_lt_zero _)⟩
  | succ nn_ ih_ =>
    refine ⟨?_, ?_⟩
    · rintro a9_ k_ S_ hI_ hF_ ⟨h0_, hS_, hj0_, -⟩ hm_
      have cm_ : 0 ≤ S_.1 6 0 13 ∧ S_.1 6 0 13 ≤ 4 := hI_.1 6 0 13 rfl
      have es_ : S_.1 6 0 13 = S0_.1 6 0 13 := by rw [hS_]
      have bx1_ : 0 ≤ S_.1 6 0 13 ∧ S_.1 6 0 13 ≤ 4 := hI_.1 6 0 13 rfl
      refine sm_T_go 3 (c1 := (18, [some (.inr (.inr (some (6, 0)))), some (.inl a1_), some (.inl a9_), some (.inl k_)], [.inl (S_.1 6 0 13), .inl k_], S_)) rfl ?_
      refine sm_T_br (a := 3) (z := 20) rfl (fun cx2_ => ?_) (fun cx2_ => ?_)
      · have cx2_ : (S_.1 6 0 13) ≤ k_ := of_decide_eq_true cx2_
        refine sm_T_go 0 (c1 := (38, [some (.inr (.inr (some (6, 0)))), some (.inl a1_), some (.inl a9_), some (.inl k_)], [], S_)) rfl ?_
        refine sm_T_wk [some (.inr (.inr (some (6, 0)))), some (.inl a1_), some (.inl a9_), none] (by exact ⟨rfl, rfl, rfl, trivial⟩) ?_
        refine ih_.2 a9_ S_ hI_ hF_ ⟨?_, ?_, trivial⟩ ?_
        · (rw [hS_]; omega)
        · (rw [hS_]; rw [show a9_ = S0_.1 6 0 13 by omega]; exact hms_)
        · omega
      · have cx2_ : ¬ ((S_.1 6 0 13) ≤ k_) := of_decide_eq_false cx2_
        refine sm_T_go 3 (c1 := (26, [some (.inr (.inr (some (6, 0)))), some (.inl a1_), some (.inl a9_), some (.inl k_)], [.inl k_, .inr (.inr (some (68, 0)))], S_)) rfl ?_
        refine sm_T_iald (n := 4) rfl rfl (by omega) (by omega) ?_
        have bx3_ : 0 ≤ S_.2.2.1 68 0 k_.toNat ∧ S_.2.2.1 68 0 k_.toNat ≤ 1012 := hI_.2 68 0 _
        refine sm_T_go 1 (c1 := (28, [some (.inr (.inr (some (6, 0)))), some (.inl a1_), some (.inl a9_), some (.inl k_)], [.inl a1_, .inl (S_.2.2.1 68 0 k_.toNat)], S_)) rfl ?_
        refine sm_T_br (a := 1) (z := 4) rfl (fun cx4_ => ?_) (fun cx4_ => ?_)
        · have cx4_ : (S_.2.2.1 68 0 k_.toNat) ≠ a1_ := of_decide_eq_true cx4_
          refine sm_T_inc (a := 3) (z := 1) (v := k_) (w := k_ + 1) rfl rfl (by omega) (by omega) (by omega) ?_ -- pc_ 32
          refine sm_T_go 1 (c1 := (13, [some (.inr (.inr (some (6, 0)))), some (.inl a1_), some (.inl a9_), some (.inl (k_ + 1))], [], S_)) rfl ?_
          refine ih_.1 a9_ (k_ + 1) S_ hI_ hF_ ⟨?_, ?_, ?_, trivial⟩ ?_
          · omega
          · exact hS_
          · intro j_ hj_
            by_cases y_ : (j_ : Int) = k_
            · rw [show j_ = k_.toNat by omega, ← hS_]; omega
            · exact hj0_ j_ (by omega)
          · omega
        · have cx4_ : ¬ ((S_.2.2.1 68 0 k_.toNat) ≠ a1_) := of_decide_eq_false cx4_
          refine sm_T_rv rfl ⟨_, _, rfl, rfl, hI_, hF_, ?_⟩
          rw [hS_] at *
          have q9_ : S0_.2.2.1 68 0 k_.toNat = a1_ := by omega
          exact ⟨by omega, by omega, hms_, fun _ => by omega, fun u_ => by (exfalso; omega), fun u_ => by (rw [show k_.toNat = 0 by omega] at q9_; exact absurd q9_ u_.2.2)⟩
    · rintro a9_ S_ hI_ hF_ ⟨h0_, hh_, -⟩ hm_
      have cm_ : 0 ≤ S_.1 6 0 13 ∧ S_.1 6 0 13 ≤ 4 := hI_.1 6 0 13 rfl
      refine sm_T_go 1 (c1 := (39, [some (.inr (.inr (some (6, 0)))), some (.inl a1_), some (.inl a9_), none], [.inl a9_], S_)) rfl ?_
      refine sm_T_b0 (a := 5) (z := 35) rfl (fun cx1_ => ?_) (fun cx1_ => ?_)
      · have cx1_ : a9_ ≤ 0 := of_decide_eq_true cx1_
        refine sm_T_go 4 (c1 := (80, [some (.inr (.inr (some (6, 0)))), some (.inl a1_), some (.inl a9_), none], [.inl a1_, .inl a9_, .inr (.inr (some (68, 0)))], S_)) rfl ?_
        refine sm_T_iast (n := 4) rfl rfl (by omega) (by omega) ?_
        have hIx2_ : gi (sm_aI S_ 68 0 a9_.toNat a1_) := gi_aI hI_ (show 0 ≤ a1_ ∧ a1_ ≤ 1012 from ⟨by omega, by omega⟩)
        have hFx3_ : ai_fr (sx_W vw_101) S0_ (sm_aI S_ 68 0 a9_.toNat a1_) := ai_fr_tr hF_ (ai_fr_aI rfl)
        have bx4_ : 0 ≤ S_.1 6 0 13 ∧ S_.1 6 0 13 ≤ 4 := hI_.1 6 0 13 rfl
        refine sm_T_go 4 (c1 := (87, [some (.inr (.inr (some (6, 0)))), some (.inl a1_), some (.inl a9_), none], [.inl 1, .inl (S_.1 6 0 13), .inr (.inr (some (6, 0)))], sm_aI S_ 68 0 a9_.toNat a1_)) rfl ?_
        refine sm_T_bin (w := (S_.1 6 0 13) + 1) rfl (bi_add (by omega) (by omega) (by omega)) ?_ -- pc_ 87
        have hIx5_ : gi (sm_pI (sm_aI S_ 68 0 a9_.toNat a1_) 6 0 13 ((S_.1 6 0 13) + 1)) := gi_pI hIx2_ (show 0 ≤ (S_.1 6 0 13) + 1 ∧ (S_.1 6 0 13) + 1 ≤ 4 from ⟨by omega, by omega⟩)
        have hFx6_ : ai_fr (sx_W vw_101) S0_ (sm_pI (sm_aI S_ 68 0 a9_.toNat a1_) 6 0 13 ((S_.1 6 0 13) + 1)) := ai_fr_tr hFx3_ (ai_fr_pI rfl)
        refine sm_T_go 1 (c1 := (91, [some (.inr (.inr (some (6, 0)))), some (.inl a1_), some (.inl a9_), none], [], sm_pI (sm_aI S_ 68 0 a9_.toNat a1_) 6 0 13 ((S_.1 6 0 13) + 1))) rfl ?_
        refine sm_T_rv rfl ⟨_, _, rfl, rfl, hIx5_, hFx6_, ?_⟩
        simp only [rf_eq]
        refine ⟨by omega, by omega, fun i_ hi_ hn_ => ?_, fun _ => by omega, fun u_ => ?_, fun u_ => by omega⟩
        · rw [rd_fa, rd_eq]; by_cases y_ : i_ = a9_.toNat; (rw [if_pos y_]; exact hp_ (by omega)); (rw [if_neg y_]; exact hh_ i_ (by omega) (by omega))
        · rw [rd_fa, rd_eq, if_pos (by omega)]
      · have cx1_ : ¬ (a9_ ≤ 0) := of_decide_eq_false cx1_
        refine sm_T_go 4 (c1 := (48, [some (.inr (.inr (some (6, 0)))), some (.inl a1_), some (.inl a9_), none], [.inl 1, .inl a9_, .inr (.inr (some (68, 0)))], S_)) rfl ?_
        refine sm_T_bin (w := a9_ - 1) rfl (bi_sub (by omega) (by omega) (by omega)) ?_ -- pc_ 48
        refine sm_T_iald (n := 4) rfl rfl (by omega) (by omega) ?_
        have bx7_ : 0 ≤ S_.2.2.1 68 0 (a9_ - 1).toNat ∧ S_.2.2.1 68 0 (a9_ - 1).toNat ≤ 1012 := hI_.2 68 0 _
        refine sm_T_go 1 (c1 := (51, [some (.inr (.inr (some (6, 0)))), some (.inl a1_), some (.inl a9_), none], [.inl a1_, .inl (S_.2.2.1 68 0 (a9_ - 1).toNat)], S_)) rfl ?_
        refine sm_T_br (a := 5) (z := 23) rfl (fun cx8_ => ?_) (fun cx8_ => ?_)
        · have cx8_ : (S_.2.2.1 68 0 (a9_ - 1).toNat) ≤ a1_ := of_decide_eq_true cx8_
          refine sm_T_go 4 (c1 := (80, [some (.inr (.inr (some (6, 0)))), some (.inl a1_), some (.inl a9_), none], [.inl a1_, .inl a9_, .inr (.inr (some (68, 0)))], S_)) rfl ?_
          refine sm_T_iast (n := 4) rfl rfl (by omega) (by omega) ?_
          have hIx9_ : gi (sm_aI S_ 68 0 a9_.toNat a1_) := gi_aI hI_ (show 0 ≤ a1_ ∧ a1_ ≤ 1012 from ⟨by omega, by omega⟩)
          have hFx10_ : ai_fr (sx_W vw_101) S0_ (sm_aI S_ 68 0 a9_.toNat a1_) := ai_fr_tr hF_ (ai_fr_aI rfl)
          have bx11_ : 0 ≤ S_.1 6 0 13 ∧ S_.1 6 0 13 ≤ 4 := hI_.1 6 0 13 rfl
          refine sm_T_go 4 (c1 := (87, [some (.inr (.inr (some (6, 0)))), some (.inl a1_), some (.inl a9_), none], [.inl 1, .inl (S_.1 6 0 13), .inr (.inr (some (6, 0)))], sm_aI S_ 68 0 a9_.toNat a1_)) rfl ?_
          refine sm_T_bin (w := (S_.1 6 0 13) + 1) rfl (bi_add (by omega) (by omega) (by omega)) ?_ -- pc_ 87
          have hIx12_ : gi (sm_pI (sm_aI S_ 68 0 a9_.toNat a1_) 6 0 13 ((S_.1 6 0 13) + 1)) := gi_pI hIx9_ (show 0 ≤ (S_.1 6 0 13) + 1 ∧ (S_.1 6 0 13) + 1 ≤ 4 from ⟨by omega, by omega⟩)
          have hFx13_ : ai_fr (sx_W vw_101) S0_ (sm_pI (sm_aI S_ 68 0 a9_.toNat a1_) 6 0 13 ((S_.1 6 0 13) + 1)) := ai_fr_tr hFx10_ (ai_fr_pI rfl)
          refine sm_T_go 1 (c1 := (91, [some (.inr (.inr (some (6, 0)))), some (.inl a1_), some (.inl a9_), none], [], sm_pI (sm_aI S_ 68 0 a9_.toNat a1_) 6 0 13 ((S_.1 6 0 13) + 1))) rfl ?_
          refine sm_T_rv rfl ⟨_, _, rfl, rfl, hIx12_, hFx13_, ?_⟩
          simp only [rf_eq]
          refine ⟨by omega, by omega, fun i_ hi_ hn_ => ?_, fun _ => by omega, fun u_ => ?_, fun u_ => by omega⟩
          · rw [rd_fa, rd_eq]; by_cases y_ : i_ = a9_.toNat; (rw [if_pos y_]; exact hp_ (by omega)); (rw [if_neg y_]; exact hh_ i_ (by omega) (by omega))
          · rw [rd_fa, rd_eq, if_pos (by omega)]
        · have cx8_ : ¬ ((S_.2.2.1 68 0 (a9_ - 1).toNat) ≤ a1_) := of_decide_eq_false cx8_
          refine sm_T_go 7 (c1 := (65, [some (.inr (.inr (some (6, 0)))), some (.inl a1_), some (.inl a9_), none], [.inl 1, .inl a9_, .inr (.inr (some (68, 0))), .inl a9_, .inr (.inr (some (68, 0)))], S_)) rfl ?_
          refine sm_T_bin (w := a9_ - 1) rfl (bi_sub (by omega) (by omega) (by omega)) ?_ -- pc_ 65
          refine sm_T_iald (n := 4) rfl rfl (by omega) (by omega) ?_
          refine sm_T_iast (n := 4) rfl rfl (by omega) (by omega) ?_
          have hIx14_ : gi (sm_aI S_ 68 0 a9_.toNat (S_.2.2.1 68 0 (a9_ - 1).toNat)) := gi_aI hI_ (show 0 ≤ (S_.2.2.1 68 0 (a9_ - 1).toNat) ∧ (S_.2.2.1 68 0 (a9_ - 1).toNat) ≤ 1012 from ⟨by omega, by omega⟩)
          have hFx15_ : ai_fr (sx_W vw_101) S0_ (sm_aI S_ 68 0 a9_.toNat (S_.2.2.1 68 0 (a9_ - 1).toNat)) := ai_fr_tr hF_ (ai_fr_aI rfl)
          refine sm_T_inc (a := 2) (z := (-1)) (v := a9_) (w := a9_ - 1) rfl rfl (by omega) (by omega) (by omega) ?_ -- pc_ 68
          refine sm_T_go 1 (c1 := (38, [some (.inr (.inr (some (6, 0)))), some (.inl a1_), some (.inl (a9_ - 1)), none], [], sm_aI S_ 68 0 a9_.toNat (S_.2.2.1 68 0 (a9_ - 1).toNat))) rfl ?_
          refine ih_.2 (a9_ - 1) (sm_aI S_ 68 0 a9_.toNat (S_.2.2.1 68 0 (a9_ - 1).toNat)) hIx14_ hFx15_ ⟨?_, ?_, trivial⟩ ?_
          · (simp only [rd_af]; omega)
          · exact mms_mv hh_ (by omega)
          · omega
set_option maxHeartbeats 400000 in
theorem vc_101 {sc_ : Nat × (Nat → Int)} (a1_ : Int) (P_ : Int → Prop) (S0_ : sm_S) (hI_ : gi S0_) (h1_ : -1 ≤ a1_ ∧ a1_ ≤ 1012) (h3_ : S0_.1 6 0 13 ≤ 3) (hms_ : mms P_ S0_ (S0_.1 6 0 13) (S0_.1 6 0 13)) (hp_ : a1_ ≠ -1 → P_ a1_) : sm_T (mt_P sc_) 0 101 (0, [some (.inr (.inr (some (6, 0)))), some (.inl a1_), none, none], [], S0_) (fun ro9_ => ∃ u_ S1_, ro9_ = (.inl u_, S1_, 0) ∧ vq_101 a1_ P_ S0_ u_ S1_) := by
  have hF_ : ai_fr (sx_W vw_101) S0_ S0_ := ai_fr_rf
  have cm0_ : 0 ≤ S0_.1 6 0 13 ∧ S0_.1 6 0 13 ≤ 4 := hI_.1 6 0 13 rfl
  refine sm_T_go 2 (c1 := (2, [some (.inr (.inr (some (6, 0)))), some (.inl a1_), none, none], [.inl (-1), .inl a1_], S0_)) rfl ?_
  refine sm_T_br (a := 1) (z := 4) rfl (fun cx1_ => ?_) (fun cx1_ => ?_)
  · have cx1_ : a1_ ≠ (-1) := of_decide_eq_true cx1_
    have bx2_ : 0 ≤ S0_.1 6 0 13 ∧ S0_.1 6 0 13 ≤ 4 := hI_.1 6 0 13 rfl
    refine sm_T_go 5 (c1 := (13, [some (.inr (.inr (some (6, 0)))), some (.inl a1_), some (.inl (S0_.1 6 0 13)), some (.inl 0)], [], S0_)) rfl ?_
    refine (vl_101 a1_ P_ S0_ h1_ h3_ hms_ hp_ _).1 (S0_.1 6 0 13) 0 S0_ hI_ hF_ ⟨?_, ?_, ?_, trivial⟩ (Nat.lt_succ_self _)
    · omega
    · rfl
    · (intro j_ hj_; exfalso; omega)
  · have cx1_ : ¬ (a1_ ≠ (-1)) := of_decide_eq_false cx1_
    refine sm_T_rv rfl ⟨_, _, rfl, rfl, hI_, hF_, ?_⟩
    exact ⟨by omega, by omega, hms_, fun u_ => absurd (by omega) u_, fun u_ => absurd (by omega) u_.1, fun u_ => absurd (by omega) u_.1⟩
end
/-! 99.zn1h -/
section
/-! Mapper.addCut -/
def vw_102 : sx_Wl := ([(6, 11)], [65], [])
def vq_102 (P_ : Int → Prop) (S0_ : sm_S) (u_ : Option sm_V) (S1_ : sm_S) : Prop := u_ = none ∧ gi S1_ ∧ ai_fr (sx_W vw_102) S0_ S1_ ∧ (mcs P_ S1_ ∧ S0_.1 6 0 11 ≤ S1_.1 6 0 11)
set_option maxHeartbeats 400000 in
set_option maxRecDepth 20000 in
theorem vl_102 {sc_ : Nat × (Nat → Int)} (P_ : Int → Prop) (S0_ : sm_S) (h3_ : 2 ≤ S0_.1 6 0 13) (hms_ : mms P_ S0_ (S0_.1 6 0 13) (S0_.1 6 0 13)) (hcs_ : mcs P_ S0_) : ∀ nn_ : Nat, (∀ (th9_ : Int) (k_ : Int) (S_ : sm_S), gi S_ → ai_fr (sx_W vw_102) S0_ S_ → ((0 ≤ k_ ∧ k_ ≤ 1024 ∧ S0_.1 6 0 11 ≤ 1023 ∧ -1 ≤ th9_ ∧ th9_ ≤ 1012 ∧ S0_.1 6 0 13 ≤ 3) ∧ (S_ = S0_) ∧ (th9_ = -1 ∨ P_ th9_) ∧ True) → ((3000 - k_).toNat) < nn_ → sm_T (mt_P sc_) 0 102 (40, [some (.inr (.inr (some (6, 0)))), some (.inl th9_), some (.inl k_)], [], S_) (fun ro9_ => ∃ u_ S1_, ro9_ = (.inl u_, S1_, 0) ∧ vq_102 P_ S0_ u_ S1_)) := by
  intro nn_
  induction nn_ with
  | zero => exact fun _ _ _ _ _ _ h_ => absurd h_ (Nat.not_lt_zero _)
  | succ nn_ ih_ =>
    rintro th9_ k_ S_ hI_ hF_ ⟨h0_, hS_, ht_, -⟩ hm_
    have ck_ : 0 ≤ S_.1 6 0 11 ∧ S_.1 6 0 11 ≤ 1024 := hI_.1 6 0 11 rfl
    have cm_ : 0 ≤ S_.1 6 0 13 ∧ S_.1 6 0 13 ≤ 4 := hI_.1 6 0 13 rfl
    have es_ : S_.1 6 0 11 = S0_.1 6 0 11 := by rw [hS_]
    have bx1_ : 0 ≤ S_.1 6 0 11 ∧ S_.1 6 0 11 ≤ 1024 := hI_.1 6 0 11 rfl
    refine sm_T_go 3 (c1 := (45, [some (.inr (.inr (some (6, 0)))), some (.inl th9_), some (.inl k_)], [.inl (S_.1 6 0 11), .inl k_], S_)) rfl ?_
    refine sm_T_br (a := 3) (z := 60) rfl (fun cx2_ => ?_) (fun cx2_ => ?_)
    · have cx2_ : (S_.1 6 0 11) ≤ k_ := of_decide_eq_true cx2_
      refine sm_T_go 5 (c1 := (114, [some (.inr (.inr (some (6, 0)))), some (.inl th9_), some (.inl k_)], [.inl (S_.1 6 0 11), .inl 3, .inr (.inr (some (65, 0)))], S_)) rfl ?_
      refine sm_T_bin (w := 3 * (S_.1 6 0 11)) rfl (bi_mul (by omega) (by omega) (by omega)) ?_ -- pc_ 114
      refine sm_T_go 3 (c1 := (120, [some (.inr (.inr (some (6, 0)))), some (.inl th9_), some (.inl k_)], [.inl 0, .inr (.inr (some (68, 0))), .inl (3 * (S_.1 6 0 11)), .inr (.inr (some (65, 0)))], S_)) rfl ?_
      refine sm_T_iald (n := 4) rfl rfl (by omega) (by omega) ?_
      have bx3_ : 0 ≤ S_.2.2.1 68 0 (0 : Int).toNat ∧ S_.2.2.1 68 0 (0 : Int).toNat ≤ 1012 := hI_.2 68 0 _
      refine sm_T_iast (n := 3072) rfl rfl (by omega) (by omega) ?_
      have hIx4_ : gi (sm_aI S_ 65 0 (3 * (S_.1 6 0 11)).toNat (S_.2.2.1 68 0 (0 : Int).toNat)) := gi_aI hI_ (show (-1) ≤ (S_.2.2.1 68 0 (0 : Int).toNat) ∧ (S_.2.2.1 68 0 (0 : Int).toNat) ≤ 1012 from ⟨by omega, by omega⟩)
      have hFx5_ : ai_fr (sx_W vw_102) S0_ (sm_aI S_ 65 0 (3 * (S_.1 6 0 11)).toNat (S_.2.2.1 68 0 (0 : Int).toNat)) := ai_fr_tr hF_ (ai_fr_aI rfl)
      refine sm_T_go 5 (c1 := (131, [some (.inr (.inr (some (6, 0)))), some (.inl th9_), some (.inl k_)], [.inl (S_.1 6 0 11), .inl 3, .inr (.inr (some (65, 0)))], sm_aI S_ 65 0 (3 * (S_.1 6 0 11)).toNat (S_.2.2.1 68 0 (0 : Int).toNat))) rfl ?_
      refine sm_T_bin (w := 3 * (S_.1 6 0 11)) rfl (bi_mul (by omega) (by omega) (by omega)) ?_ -- pc_ 131
      refine sm_T_go 1 (c1 := (133, [some (.inr (.inr (some (6, 0)))), some (.inl th9_), some (.inl k_)], [.inl 1, .inl (3 * (S_.1 6 0 11)), .inr (.inr (some (65, 0)))], sm_aI S_ 65 0 (3 * (S_.1 6 0 11)).toNat (S_.2.2.1 68 0 (0 : Int).toNat))) rfl ?_
      refine sm_T_bin (w := 3 * (S_.1 6 0 11) + 1) rfl (bi_add (by omega) (by omega) (by omega)) ?_ -- pc_ 133
      refine sm_T_go 3 (c1 := (139, [some (.inr (.inr (some (6, 0)))), some (.inl th9_), some (.inl k_)], [.inl 1, .inr (.inr (some (68, 0))), .inl (3 * (S_.1 6 0 11) + 1), .inr (.inr (some (65, 0)))], sm_aI S_ 65 0 (3 * (S_.1 6 0 11)).toNat (S_.2.2.1 68 0 (0 : Int).toNat))) rfl ?_
      refine sm_T_iald (n := 4) rfl rfl (by omega) (by omega) ?_
      have bx6_ : 0 ≤ S_.2.2.1 68 0 (1 : Int).toNat ∧ S_.2.2.1 68 0 (1 : Int).toNat ≤ 1012 := hI_.2 68 0 _
      refine sm_T_go 0 (c1 := (140, [some (.inr (.inr (some (6, 0)))), some (.inl th9_), some (.inl k_)], [.inl (S_.2.2.1 68 0 (1 : Int).toNat), .inl (3 * (S_.1 6 0 11) + 1), .inr (.inr (some (65, 0)))], sm_aI S_ 65 0 (3 * (S_.1 6 0 11)).toNat (S_.2.2.1 68 0 (0 : Int).toNat))) rfl ?_
      refine sm_T_iast (n := 3072) rfl rfl (by omega) (by omega) ?_
      have hIx7_ : gi (sm_aI (sm_aI S_ 65 0 (3 * (S_.1 6 0 11)).toNat (S_.2.2.1 68 0 (0 : Int).toNat)) 65 0 (3 * (S_.1 6 0 11) + 1).toNat (S_.2.2.1 68 0 (1 : Int).toNat)) := gi_aI hIx4_ (show (-1) ≤ (S_.2.2.1 68 0 (1 : Int).toNat) ∧ (S_.2.2.1 68 0 (1 : Int).toNat) ≤ 1012 from ⟨by omega, by omega⟩)
      have hFx8_ : ai_fr (sx_W vw_102) S0_ (sm_aI (sm_aI S_ 65 0 (3 * (S_.1 6 0 11)).toNat (S_.2.2.1 68 0 (0 : Int).toNat)) 65 0 (3 * (S_.1 6 0 11) + 1).toNat (S_.2.2.1 68 0 (1 : Int).toNat)) := ai_fr_tr hFx5_ (ai_fr_aI rfl)
      refine sm_T_go 5 (c1 := (150, [some (.inr (.inr (some (6, 0)))), some (.inl th9_), some (.inl k_)], [.inl (S_.1 6 0 11), .inl 3, .inr (.inr (some (65, 0)))], sm_aI (sm_aI S_ 65 0 (3 * (S_.1 6 0 11)).toNat (S_.2.2.1 68 0 (0 : Int).toNat)) 65 0 (3 * (S_.1 6 0 11) + 1).toNat (S_.2.2.1 68 0 (1 : Int).toNat))) rfl ?_
      refine sm_T_bin (w := 3 * (S_.1 6 0 11)) rfl (bi_mul (by omega) (by omega) (by omega)) ?_ -- pc_ 150
      refine sm_T_go 1 (c1 := (152, [some (.inr (.inr (some (6, 0)))), some (.inl th9_), some (.inl k_)], [.inl 2, .inl (3 * (S_.1 6 0 11)), .inr (.inr (some (65, 0)))], sm_aI (sm_aI S_ 65 0 (3 * (S_.1 6 0 11)).toNat (S_.2.2.1 68 0 (0 : Int).toNat)) 65 0 (3 * (S_.1 6 0 11) + 1).toNat (S_.2.2.1 68 0 (1 : Int).toNat))) rfl ?_
      refine sm_T_bin (w := 3 * (S_.1 6 0 11) + 2) rfl (bi_add (by omega) (by omega) (by omega)) ?_ -- pc_ 152
      refine sm_T_go 1 (c1 := (154, [some (.inr (.inr (some (6, 0)))), some (.inl th9_), some (.inl k_)], [.inl th9_, .inl (3 * (S_.1 6 0 11) + 2), .inr (.inr (some (65, 0)))], sm_aI (sm_aI S_ 65 0 (3 * (S_.1 6 0 11)).toNat (S_.2.2.1 68 0 (0 : Int).toNat)) 65 0 (3 * (S_.1 6 0 11) + 1).toNat (S_.2.2.1 68 0 (1 : Int).toNat))) rfl ?_
      refine sm_T_iast (n := 3072) rfl rfl (by omega) (by omega) ?_
      have hIx9_ : gi (sm_aI (sm_aI (sm_aI S_ 65 0 (3 * (S_.1 6 0 11)).toNat (S_.2.2.1 68 0 (0 : Int).toNat)) 65 0 (3 * (S_.1 6 0 11) + 1).toNat (S_.2.2.1 68 0 (1 : Int).toNat)) 65 0 (3 * (S_.1 6 0 11) + 2).toNat th9_) := gi_aI hIx7_ (show (-1) ≤ th9_ ∧ th9_ ≤ 1012 from ⟨by omega, by omega⟩)
      have hFx10_ : ai_fr (sx_W vw_102) S0_ (sm_aI (sm_aI (sm_aI S_ 65 0 (3 * (S_.1 6 0 11)).toNat (S_.2.2.1 68 0 (0 : Int).toNat)) 65 0 (3 * (S_.1 6 0 11) + 1).toNat (S_.2.2.1 68 0 (1 : Int).toNat)) 65 0 (3 * (S_.1 6 0 11) + 2).toNat th9_) := ai_fr_tr hFx8_ (ai_fr_aI rfl)
      refine sm_T_go 4 (c1 := (161, [some (.inr (.inr (some (6, 0)))), some (.inl th9_), some (.inl k_)], [.inl 1, .inl (S_.1 6 0 11), .inr (.inr (some (6, 0)))], sm_aI (sm_aI (sm_aI S_ 65 0 (3 * (S_.1 6 0 11)).toNat (S_.2.2.1 68 0 (0 : Int).toNat)) 65 0 (3 * (S_.1 6 0 11) + 1).toNat (S_.2.2.1 68 0 (1 : Int).toNat)) 65 0 (3 * (S_.1 6 0 11) + 2).toNat th9_)) rfl ?_
      refine sm_T_bin (w := (S_.1 6 0 11) + 1) rfl (bi_add (by omega) (by omega) (by omega)) ?_ -- pc_ 161
      have hIx11_ : gi (sm_pI (sm_aI (sm_aI (sm_aI S_ 65 0 (3 * (S_.1 6 0 11)).toNat (S_.2.2.1 68 0 (0 : Int).toNat)) 65 0 (3 * (S_.1 6 0 11) + 1).toNat (S_.2.2.1 68 0 (1 : Int).toNat)) 65 0 (3 * (S_.1 6 0 11) + 2).toNat th9_) 6 0 11 ((S_.1 6 0 11) + 1)) := gi_pI hIx9_ (show 0 ≤ (S_.1 6 0 11) + 1 ∧ (S_.1 6 0 11) + 1 ≤ 1024 from ⟨by omega, by omega⟩)
      have hFx12_ : ai_fr (sx_W vw_102) S0_ (sm_pI (sm_aI (sm_aI (sm_aI S_ 65 0 (3 * (S_.1 6 0 11)).toNat (S_.2.2.1 68 0 (0 : Int).toNat)) 65 0 (3 * (S_.1 6 0 11) + 1).toNat (S_.2.2.1 68 0 (1 : Int).toNat)) 65 0 (3 * (S_.1 6 0 11) + 2).toNat th9_) 6 0 11 ((S_.1 6 0 11) + 1)) := ai_fr_tr hFx10_ (ai_fr_pI rfl)
      refine sm_T_go 1 (c1 := (165, [some (.inr (.inr (some (6, 0)))), some (.inl th9_), some (.inl k_)], [], sm_pI (sm_aI (sm_aI (sm_aI S_ 65 0 (3 * (S_.1 6 0 11)).toNat (S_.2.2.1 68 0 (0 : Int).toNat)) 65 0 (3 * (S_.1 6 0 11) + 1).toNat (S_.2.2.1 68 0 (1 : Int).toNat)) 65 0 (3 * (S_.1 6 0 11) + 2).toNat th9_) 6 0 11 ((S_.1 6 0 11) + 1))) rfl ?_
      refine sm_T_rv rfl ⟨_, _, rfl, rfl, hIx11_, hFx12_, ?_⟩
      rw [hS_]
      have m0_ := hms_ 0 (by omega) (by omega)
      have m1_ := hms_ 1 (by omega) (by omega)
      have R_ : ∀ i_, (sm_pI (sm_aI (sm_aI (sm_aI S0_ 65 0 (3 * S0_.1 6 0 11).toNat (S0_.2.2.1 68 0 (0 : Int).toNat)) 65 0 (3 * S0_.1 6 0 11 + 1).toNat (S0_.2.2.1 68 0 (1 : Int).toNat)) 65 0 (3 * S0_.1 6 0 11 + 2).toNat th9_) 6 0 11 (S0_.1 6 0 11 + 1)).2.2.1 65 0 i_ = if i_ = (3 * S0_.1 6 0 11 + 2).toNat then th9_ else if i_ = (3 * S0_.1 6 0 11 + 1).toNat then S0_.2.2.1 68 0 1 else if i_ = (3 * S0_.1 6 0 11).toNat then S0_.2.2.1 68 0 0 else S0_.2.2.1 65 0 i_ := fun i_ => by rw [rd_fa, rd_eq, rd_eq, rd_eq]; rfl
      refine ⟨fun c_ hc_ => ?_, by rw [rf_eq]; omega⟩
      rw [rf_eq] at hc_
      rw [R_, R_, R_]
      by_cases y_ : (c_ : Int) = S0_.1 6 0 11
      · rw [if_neg (by omega), if_neg (by omega), if_pos (by omega), if_neg (by omega), if_pos (by omega), if_pos (by omega)]; exact ⟨m0_, m1_, ht_⟩
      · rw [if_neg (by omega), if_neg (by omega), if_neg (by omega), if_neg (by omega), if_neg (by omega), if_neg (by omega), if_neg (by omega), if_neg (by omega), if_neg (by omega)]; exact hcs_ c_ (by omega)
    · have cx2_ : ¬ ((S_.1 6 0 11) ≤ k_) := of_decide_eq_false cx2_
      refine sm_T_go 4 (c1 := (54, [some (.inr (.inr (some (6, 0)))), some (.inl th9_), some (.inl k_)], [.inl k_, .inl 3, .inr (.inr (some (65, 0)))], S_)) rfl ?_
      refine sm_T_bin (w := 3 * k_) rfl (bi_mul (by omega) (by omega) (by omega)) ?_ -- pc_ 54
      refine sm_T_iald (n := 3072) rfl rfl (by omega) (by omega) ?_
      have bx13_ : (-1) ≤ S_.2.2.1 65 0 (3 * k_).toNat ∧ S_.2.2.1 65 0 (3 * k_).toNat ≤ 1012 := hI_.2 65 0 _
      refine sm_T_go 3 (c1 := (61, [some (.inr (.inr (some (6, 0)))), some (.inl th9_), some (.inl k_)], [.inl 0, .inr (.inr (some (68, 0))), .inl (S_.2.2.1 65 0 (3 * k_).toNat)], S_)) rfl ?_
      refine sm_T_iald (n := 4) rfl rfl (by omega) (by omega) ?_
      have bx14_ : 0 ≤ S_.2.2.1 68 0 (0 : Int).toNat ∧ S_.2.2.1 68 0 (0 : Int).toNat ≤ 1012 := hI_.2 68 0 _
      refine sm_T_br (a := 1) (z := 37) rfl (fun cx15_ => ?_) (fun cx15_ => ?_)
      · have cx15_ : (S_.2.2.1 65 0 (3 * k_).toNat) ≠ (S_.2.2.1 68 0 (0 : Int).toNat) := of_decide_eq_true cx15_
        refine sm_T_inc (a := 2) (z := 1) (v := k_) (w := k_ + 1) rfl rfl (by omega) (by omega) (by omega) ?_ -- pc_ 99
        refine sm_T_go 1 (c1 := (40, [some (.inr (.inr (some (6, 0)))), some (.inl th9_), some (.inl (k_ + 1))], [], S_)) rfl ?_
        refine ih_ th9_ (k_ + 1) S_ hI_ hF_ ⟨?_, ?_, ?_, trivial⟩ ?_
        · omega
        · exact hS_
        · exact ht_
        · omega
      · have cx15_ : ¬ ((S_.2.2.1 65 0 (3 * k_).toNat) ≠ (S_.2.2.1 68 0 (0 : Int).toNat)) := of_decide_eq_false cx15_
        refine sm_T_go 4 (c1 := (71, [some (.inr (.inr (some (6, 0)))), some (.inl th9_), some (.inl k_)], [.inl k_, .inl 3, .inr (.inr (some (65, 0)))], S_)) rfl ?_
        refine sm_T_bin (w := 3 * k_) rfl (bi_mul (by omega) (by omega) (by omega)) ?_ -- pc_ 71
        refine sm_T_go 1 (c1 := (73, [some (.inr (.inr (some (6, 0)))), some (.inl th9_), some (.inl k_)], [.inl 1, .inl (3 * k_), .inr (.inr (some (65, 0)))], S_)) rfl ?_
        refine sm_T_bin (w := 3 * k_ + 1) rfl (bi_add (by omega) (by omega) (by omega)) ?_ -- pc_ 73
        refine sm_T_iald (n := 3072) rfl rfl (by omega) (by omega) ?_
        have bx16_ : (-1) ≤ S_.2.2.1 65 0 (3 * k_ + 1).toNat ∧ S_.2.2.1 65 0 (3 * k_ + 1).toNat ≤ 1012 := hI_.2 65 0 _
        refine sm_T_go 3 (c1 := (80, [some (.inr (.inr (some (6, 0)))), some (.inl th9_), some (.inl k_)], [.inl 1, .inr (.inr (some (68, 0))), .inl (S_.2.2.1 65 0 (3 * k_ + 1).toNat)], S_)) rfl ?_
        refine sm_T_iald (n := 4) rfl rfl (by omega) (by omega) ?_
        have bx17_ : 0 ≤ S_.2.2.1 68 0 (1 : Int).toNat ∧ S_.2.2.1 68 0 (1 : Int).toNat ≤ 1012 := hI_.2 68 0 _
        refine sm_T_br (a := 1) (z := 18) rfl (fun cx18_ => ?_) (fun cx18_ => ?_)
        · have cx18_ : (S_.2.2.1 65 0 (3 * k_ + 1).toNat) ≠ (S_.2.2.1 68 0 (1 : Int).toNat) := of_decide_eq_true cx18_
          refine sm_T_inc (a := 2) (z := 1) (v := k_) (w := k_ + 1) rfl rfl (by omega) (by omega) (by omega) ?_ -- pc_ 99
          refine sm_T_go 1 (c1 := (40, [some (.inr (.inr (some (6, 0)))), some (.inl th9_), some (.inl (k_ + 1))], [], S_)) rfl ?_
          refine ih_ th9_ (k_ + 1) S_ hI_ hF_ ⟨?_, ?_, ?_, trivial⟩ ?_
          · omega
          · exact hS_
          · exact ht_
          · omega
        · have cx18_ : ¬ ((S_.2.2.1 65 0 (3 * k_ + 1).toNat) ≠ (S_.2.2.1 68 0 (1 : Int).toNat)) := of_decide_eq_false cx18_
          refine sm_T_go 4 (c1 := (90, [some (.inr (.inr (some (6, 0)))), some (.inl th9_), some (.inl k_)], [.inl k_, .inl 3, .inr (.inr (some (65, 0)))], S_)) rfl ?_
          refine sm_T_bin (w := 3 * k_) rfl (bi_mul (by omega) (by omega) (by omega)) ?_ -- pc_ 90
          refine sm_T_go 1 (c1 := (92, [some (.inr (.inr (some (6, 0)))), some (.inl th9_), some (.inl k_)], [.inl 2, .inl (3 * k_), .inr (.inr (some (65, 0)))], S_)) rfl ?_
          refine sm_T_bin (w := 3 * k_ + 2) rfl (bi_add (by omega) (by omega) (by omega)) ?_ -- pc_ 92
          refine sm_T_iald (n := 3072) rfl rfl (by omega) (by omega) ?_
          have bx19_ : (-1) ≤ S_.2.2.1 65 0 (3 * k_ + 2).toNat ∧ S_.2.2.1 65 0 (3 * k_ + 2).toNat ≤ 1012 := hI_.2 65 0 _
          refine sm_T_go 1 (c1 := (95, [some (.inr (.inr (some (6, 0)))), some (.inl th9_), some (.inl k_)], [.inl th9_, .inl (S_.2.2.1 65 0 (3 * k_ + 2).toNat)], S_)) rfl ?_
          refine sm_T_br (a := 1) (z := 4) rfl (fun cx20_ => ?_) (fun cx20_ => ?_)
          · have cx20_ : (S_.2.2.1 65 0 (3 * k_ + 2).toNat) ≠ th9_ := of_decide_eq_true cx20_
            refine sm_T_inc (a := 2) (z := 1) (v := k_) (w := k_ + 1) rfl rfl (by omega) (by omega) (by omega) ?_ -- pc_ 99
            refine sm_T_go 1 (c1 := (40, [some (.inr (.inr (some (6, 0)))), some (.inl th9_), some (.inl (k_ + 1))], [], S_)) rfl ?_
            refine ih_ th9_ (k_ + 1) S_ hI_ hF_ ⟨?_, ?_, ?_, trivial⟩ ?_
            · omega
            · exact hS_
            · exact ht_
            · omega
          · have cx20_ : ¬ ((S_.2.2.1 65 0 (3 * k_ + 2).toNat) ≠ th9_) := of_decide_eq_false cx20_
            refine sm_T_rv rfl ⟨_, _, rfl, rfl, hI_, hF_, ?_⟩
            rw [hS_]
            exact ⟨hcs_, Int.le_refl _⟩
set_option maxHeartbeats 400000 in
set_option maxRecDepth 20000 in
theorem vc_102 {sc_ : Nat × (Nat → Int)} (P_ : Int → Prop) (S0_ : sm_S) (hI_ : gi S0_) (h3_ : 2 ≤ S0_.1 6 0 13) (hms_ : mms P_ S0_ (S0_.1 6 0 13) (S0_.1 6 0 13)) (hcs_ : mcs P_ S0_) : sm_T (mt_P sc_) 0 102 (0, [some (.inr (.inr (some (6, 0)))), none, none], [], S0_) (fun ro9_ => ∃ u_ S1_, ro9_ = (.inl u_, S1_, 0) ∧ vq_102 P_ S0_ u_ S1_) := by
  have hF_ : ai_fr (sx_W vw_102) S0_ S0_ := ai_fr_rf
  have ck0_ : 0 ≤ S0_.1 6 0 11 ∧ S0_.1 6 0 11 ≤ 1024 := hI_.1 6 0 11 rfl
  have cm0_ : 0 ≤ S0_.1 6 0 13 ∧ S0_.1 6 0 13 ≤ 4 := hI_.1 6 0 13 rfl
  have bx1_ : 0 ≤ S0_.1 6 0 13 ∧ S0_.1 6 0 13 ≤ 4 := hI_.1 6 0 13 rfl
  refine sm_T_go 3 (c1 := (5, [some (.inr (.inr (some (6, 0)))), none, none], [.inl 3, .inl (S0_.1 6 0 13)], S0_)) rfl ?_
  refine sm_T_br (a := 4) (z := 13) rfl (fun cx2_ => ?_) (fun cx2_ => ?_)
  · have cx2_ : 3 < (S0_.1 6 0 13) := of_decide_eq_true cx2_
    refine sm_T_rv rfl ⟨_, _, rfl, rfl, hI_, hF_, ?_⟩
    exact ⟨hcs_, Int.le_refl _⟩
  · have cx2_ : ¬ (3 < (S0_.1 6 0 13)) := of_decide_eq_false cx2_
    have bx3_ : 0 ≤ S0_.1 6 0 11 ∧ S0_.1 6 0 11 ≤ 1024 := hI_.1 6 0 11 rfl
    refine sm_T_go 3 (c1 := (15, [some (.inr (.inr (some (6, 0)))), none, none], [.inl 1024, .inl (S0_.1 6 0 11)], S0_)) rfl ?_
    refine sm_T_br (a := 1) (z := 4) rfl (fun cx4_ => ?_) (fun cx4_ => ?_)
    · have cx4_ : (S0_.1 6 0 11) ≠ 1024 := of_decide_eq_true cx4_
      refine sm_T_go 3 (c1 := (24, [some (.inr (.inr (some (6, 0)))), none, none], [.inl 3, .inl (S0_.1 6 0 13)], S0_)) rfl ?_
      refine sm_T_br (a := 1) (z := 12) rfl (fun cx5_ => ?_) (fun cx5_ => ?_)
      · have cx5_ : (S0_.1 6 0 13) ≠ 3 := of_decide_eq_true cx5_
        refine sm_T_go 4 (c1 := (40, [some (.inr (.inr (some (6, 0)))), some (.inl (-1)), some (.inl 0)], [], S0_)) rfl ?_
        refine (vl_102 P_ S0_ h3_ hms_ hcs_ _) (-1) 0 S0_ hI_ hF_ ⟨?_, ?_, ?_, trivial⟩ (Nat.lt_succ_self _)
        · omega
        · rfl
        · first | (left; rfl) | (right; exact hms_ 2 (by omega) (by omega))
      · have cx5_ : ¬ ((S0_.1 6 0 13) ≠ 3) := of_decide_eq_false cx5_
        refine sm_T_go 3 (c1 := (32, [some (.inr (.inr (some (6, 0)))), none, none], [.inl 2, .inr (.inr (some (68, 0)))], S0_)) rfl ?_
        refine sm_T_iald (n := 4) rfl rfl (by omega) (by omega) ?_
        have bx6_ : 0 ≤ S0_.2.2.1 68 0 (2 : Int).toNat ∧ S0_.2.2.1 68 0 (2 : Int).toNat ≤ 1012 := hI_.2 68 0 _
        refine sm_T_go 4 (c1 := (40, [some (.inr (.inr (some (6, 0)))), some (.inl (S0_.2.2.1 68 0 (2 : Int).toNat)), some (.inl 0)], [], S0_)) rfl ?_
        refine (vl_102 P_ S0_ h3_ hms_ hcs_ _) (S0_.2.2.1 68 0 (2 : Int).toNat) 0 S0_ hI_ hF_ ⟨?_, ?_, ?_, trivial⟩ (Nat.lt_succ_self _)
        · omega
        · rfl
        · first | (left; rfl) | (right; exact hms_ 2 (by omega) (by omega))
    · have cx4_ : ¬ ((S0_.1 6 0 11) ≠ 1024) := of_decide_eq_false cx4_
      refine sm_T_rv rfl ⟨_, _, rfl, rfl, hI_, hF_, ?_⟩
      exact ⟨hcs_, Int.le_refl _⟩
end
/-! 99.zn1i -/
section
/-! Mapper.sortCuts -/
def vw_103 : sx_Wl := ([], [66], [])
def vq_103  (S0_ : sm_S) (u_ : Option sm_V) (S1_ : sm_S) : Prop := u_ = none ∧ gi S1_ ∧ ai_fr (sx_W vw_103) S0_ S1_ ∧ (∀ i_ : Nat, (i_ : Int) < S0_.1 6 0 11 → S1_.2.2.1 66 0 i_ < S0_.1 6 0 11)
set_option maxHeartbeats 400000 in
theorem vl_103 {sc_ : Nat × (Nat → Int)}  (S0_ : sm_S)  : ∀ nn_ : Nat, (∀ (i9_ : Int) (S_ : sm_S), gi S_ → ai_fr (sx_W vw_103) S0_ S_ → ((0 ≤ i9_ ∧ i9_ ≤ 1024 ∧ i9_ ≤ S0_.1 6 0 11) ∧ (∀ i_ : Nat, (i_ : Int) < i9_ → S_.2.2.1 66 0 i_ < i9_) ∧ True) → ((10000 * (2000 - i9_) + 9000).toNat) < nn_ → sm_T (mt_P sc_) 1 103 (2, [some (.inr (.inr (some (6, 0)))), some (.inl i9_), none], [], S_) (fun ro9_ => ∃ u_ S1_, ro9_ = (.inl u_, S1_, 0) ∧ vq_103  S0_ u_ S1_)) ∧ (∀ (i9_ : Int) (a9_ : Int) (S_ : sm_S), gi S_ → ai_fr (sx_W vw_103) S0_ S_ → ((0 ≤ i9_ ∧ i9_ < 1024 ∧ 0 ≤ a9_ ∧ a9_ ≤ i9_ ∧ i9_ < S0_.1 6 0 11) ∧ (∀ i_ : Nat, (i_ : Int) ≤ i9_ → (i_ : Int) ≠ a9_ → S_.2.2.1 66 0 i_ < i9_) ∧ True) → ((10000 * (2000 - i9_) + a9_).toNat) < nn_ → sm_T (mt_P sc_) 1 103 (12, [some (.inr (.inr (some (6, 0)))), some (.inl i9_), some (.inl a9_)], [], S_) (fun ro9_ => ∃ u_ S1_, ro9_ = (.inl u_, S1_, 0) ∧ vq_103  S0_ u_ S1_)) := by
  intro nn_
  induction nn_ with
  | zero => exact ⟨fun _ _ _ _ _ h_ => absurd h_ (Nat.not_lt_zero _), fun _ _ _ _ _ _ h_ => absurd h_ (Nat.not_lt_zero _)⟩
  | succ nn_ ih_ =>
    refine ⟨?_, ?_⟩
    · rintro i9_ S_ hI_ hF_ ⟨h0_, ho_, -⟩ hm_
      have ck_ : 0 ≤ S_.1 6 0 11 ∧ S_.1 6 0 11 ≤ 1024 := hI_.1 6 0 11 rfl
      have cm_ : 0 ≤ S_.1 6 0 13 ∧ S_.1 6 0 13 ≤ 4 := hI_.1 6 0 13 rfl
      have es_ : S_.1 6 0 11 = S0_.1 6 0 11 := hF_.1 6 0 11 rfl
      have bx1_ : 0 ≤ S_.1 6 0 11 ∧ S_.1 6 0 11 ≤ 1024 := hI_.1 6 0 11 rfl
      refine sm_T_go 3 (c1 := (7, [some (.inr (.inr (some (6, 0)))), some (.inl i9_), none], [.inl (S_.1 6 0 11), .inl i9_], S_)) rfl ?_
      refine sm_T_br (a := 3) (z := 58) rfl (fun cx2_ => ?_) (fun cx2_ => ?_)
      · have cx2_ : (S_.1 6 0 11) ≤ i9_ := of_decide_eq_true cx2_
        refine sm_T_rv rfl ⟨_, _, rfl, rfl, hI_, hF_, ?_⟩
        intro i_ hi_
        have w_ := ho_ i_ (by omega)
        omega
      · have cx2_ : ¬ ((S_.1 6 0 11) ≤ i9_) := of_decide_eq_false cx2_
        refine sm_T_go 2 (c1 := (12, [some (.inr (.inr (some (6, 0)))), some (.inl i9_), some (.inl i9_)], [], S_)) rfl ?_
        refine ih_.2 i9_ i9_ S_ hI_ hF_ ⟨?_, ?_, trivial⟩ ?_
        · omega
        · (intro i_ hi_ hn_; exact ho_ i_ (by omega))
        · omega
    · rintro i9_ a9_ S_ hI_ hF_ ⟨h0_, ho_, -⟩ hm_
      have ck_ : 0 ≤ S_.1 6 0 11 ∧ S_.1 6 0 11 ≤ 1024 := hI_.1 6 0 11 rfl
      have cm_ : 0 ≤ S_.1 6 0 13 ∧ S_.1 6 0 13 ≤ 4 := hI_.1 6 0 13 rfl
      refine sm_T_go 1 (c1 := (13, [some (.inr (.inr (some (6, 0)))), some (.inl i9_), some (.inl a9_)], [.inl a9_], S_)) rfl ?_
      refine sm_T_b0 (a := 5) (z := 39) rfl (fun cx1_ => ?_) (fun cx1_ => ?_)
      · have cx1_ : a9_ ≤ 0 := of_decide_eq_true cx1_
        refine sm_T_go 4 (c1 := (58, [some (.inr (.inr (some (6, 0)))), some (.inl i9_), some (.inl a9_)], [.inl i9_, .inl a9_, .inr (.inr (some (66, 0)))], S_)) rfl ?_
        refine sm_T_iast (n := 1024) rfl rfl (by omega) (by omega) ?_
        have hIx2_ : gi (sm_aI S_ 66 0 a9_.toNat i9_) := gi_aI hI_ (show 0 ≤ i9_ ∧ i9_ ≤ 1023 from ⟨by omega, by omega⟩)
        have hFx3_ : ai_fr (sx_W vw_103) S0_ (sm_aI S_ 66 0 a9_.toNat i9_) := ai_fr_tr hF_ (ai_fr_aI rfl)
        refine sm_T_inc (a := 1) (z := 1) (v := i9_) (w := i9_ + 1) rfl rfl (by omega) (by omega) (by omega) ?_ -- pc_ 59
        refine sm_T_go 1 (c1 := (2, [some (.inr (.inr (some (6, 0)))), some (.inl (i9_ + 1)), some (.inl a9_)], [], sm_aI S_ 66 0 a9_.toNat i9_)) rfl ?_
        refine sm_T_wk [some (.inr (.inr (some (6, 0)))), some (.inl (i9_ + 1)), none] (by exact ⟨rfl, rfl, trivial⟩) ?_
        refine ih_.1 (i9_ + 1) (sm_aI S_ 66 0 a9_.toNat i9_) hIx2_ hFx3_ ⟨?_, ?_, trivial⟩ ?_
        · omega
        · intro i_ hi_
          rw [rd_eq]
          by_cases y_ : i_ = a9_.toNat
          · rw [if_pos y_]; omega
          · rw [if_neg y_]; have w_ := ho_ i_ (by omega) (by omega); omega
        · omega
      · have cx1_ : ¬ (a9_ ≤ 0) := of_decide_eq_false cx1_
        refine sm_T_go 6 (c1 := (24, [some (.inr (.inr (some (6, 0)))), some (.inl i9_), some (.inl a9_)], [.inl 1, .inl a9_, .inr (.inr (some (66, 0))), .inl i9_, .inr (.inr (some (6, 0)))], S_)) rfl ?_
        refine sm_T_bin (w := a9_ - 1) rfl (bi_sub (by omega) (by omega) (by omega)) ?_ -- pc_ 24
        refine sm_T_iald (n := 1024) rfl rfl (by omega) (by omega) ?_
        have bx4_ : 0 ≤ S_.2.2.1 66 0 (a9_ - 1).toNat ∧ S_.2.2.1 66 0 (a9_ - 1).toNat ≤ 1023 := hI_.2 66 0 _
        refine sm_T_cal (d1 := 0) (Q1 := vq_104 i9_ (S_.2.2.1 66 0 (a9_ - 1).toNat) S_) rfl rfl (by decide) (vc_104 i9_ (S_.2.2.1 66 0 (a9_ - 1).toNat) S_ hI_ (by omega) (by omega)) (fun u_ Sx5_ px8_ => ?_)
        obtain ⟨rfl, vx10_, rfl, px8_⟩ := px8_
        refine sm_T_b0 (a := 0) (z := 23) rfl (fun cx11_ => ?_) (fun cx11_ => ?_)
        · have cx11_ : vx10_ = 0 := of_decide_eq_true cx11_
          refine sm_T_go 4 (c1 := (58, [some (.inr (.inr (some (6, 0)))), some (.inl i9_), some (.inl a9_)], [.inl i9_, .inl a9_, .inr (.inr (some (66, 0)))], S_)) rfl ?_
          refine sm_T_iast (n := 1024) rfl rfl (by omega) (by omega) ?_
          have hIx12_ : gi (sm_aI S_ 66 0 a9_.toNat i9_) := gi_aI hI_ (show 0 ≤ i9_ ∧ i9_ ≤ 1023 from ⟨by omega, by omega⟩)
          have hFx13_ : ai_fr (sx_W vw_103) S0_ (sm_aI S_ 66 0 a9_.toNat i9_) := ai_fr_tr hF_ (ai_fr_aI rfl)
          refine sm_T_inc (a := 1) (z := 1) (v := i9_) (w := i9_ + 1) rfl rfl (by omega) (by omega) (by omega) ?_ -- pc_ 59
          refine sm_T_go 1 (c1 := (2, [some (.inr (.inr (some (6, 0)))), some (.inl (i9_ + 1)), some (.inl a9_)], [], sm_aI S_ 66 0 a9_.toNat i9_)) rfl ?_
          refine sm_T_wk [some (.inr (.inr (some (6, 0)))), some (.inl (i9_ + 1)), none] (by exact ⟨rfl, rfl, trivial⟩) ?_
          refine ih_.1 (i9_ + 1) (sm_aI S_ 66 0 a9_.toNat i9_) hIx12_ hFx13_ ⟨?_, ?_, trivial⟩ ?_
          · omega
          · intro i_ hi_
            rw [rd_eq]
            by_cases y_ : i_ = a9_.toNat
            · rw [if_pos y_]; omega
            · rw [if_neg y_]; have w_ := ho_ i_ (by omega) (by omega); omega
          · omega
        · have cx11_ : ¬ (vx10_ = 0) := of_decide_eq_false cx11_
          refine sm_T_go 7 (c1 := (43, [some (.inr (.inr (some (6, 0)))), some (.inl i9_), some (.inl a9_)], [.inl 1, .inl a9_, .inr (.inr (some (66, 0))), .inl a9_, .inr (.inr (some (66, 0)))], S_)) rfl ?_
          refine sm_T_bin (w := a9_ - 1) rfl (bi_sub (by omega) (by omega) (by omega)) ?_ -- pc_ 43
          refine sm_T_iald (n := 1024) rfl rfl (by omega) (by omega) ?_
          refine sm_T_iast (n := 1024) rfl rfl (by omega) (by omega) ?_
          have hIx14_ : gi (sm_aI S_ 66 0 a9_.toNat (S_.2.2.1 66 0 (a9_ - 1).toNat)) := gi_aI hI_ (show 0 ≤ (S_.2.2.1 66 0 (a9_ - 1).toNat) ∧ (S_.2.2.1 66 0 (a9_ - 1).toNat) ≤ 1023 from ⟨by omega, by omega⟩)
          have hFx15_ : ai_fr (sx_W vw_103) S0_ (sm_aI S_ 66 0 a9_.toNat (S_.2.2.1 66 0 (a9_ - 1).toNat)) := ai_fr_tr hF_ (ai_fr_aI rfl)
          refine sm_T_inc (a := 2) (z := (-1)) (v := a9_) (w := a9_ - 1) rfl rfl (by omega) (by omega) (by omega) ?_ -- pc_ 46
          refine sm_T_go 1 (c1 := (12, [some (.inr (.inr (some (6, 0)))), some (.inl i9_), some (.inl (a9_ - 1))], [], sm_aI S_ 66 0 a9_.toNat (S_.2.2.1 66 0 (a9_ - 1).toNat))) rfl ?_
          refine ih_.2 i9_ (a9_ - 1) (sm_aI S_ 66 0 a9_.toNat (S_.2.2.1 66 0 (a9_ - 1).toNat)) hIx14_ hFx15_ ⟨?_, ?_, trivial⟩ ?_
          · omega
          · intro i_ hi_ hn_
            rw [rd_eq]
            by_cases y_ : i_ = a9_.toNat
            · rw [if_pos y_]; exact ho_ (a9_ - 1).toNat (by omega) (by omega)
            · rw [if_neg y_]; exact ho_ i_ hi_ (by omega)
          · omega
set_option maxHeartbeats 400000 in
theorem vc_103 {sc_ : Nat × (Nat → Int)}  (S0_ : sm_S) (hI_ : gi S0_)  : sm_T (mt_P sc_) 1 103 (0, [some (.inr (.inr (some (6, 0)))), none, none], [], S0_) (fun ro9_ => ∃ u_ S1_, ro9_ = (.inl u_, S1_, 0) ∧ vq_103  S0_ u_ S1_) := by
  have hF_ : ai_fr (sx_W vw_103) S0_ S0_ := ai_fr_rf
  have ck0_ : 0 ≤ S0_.1 6 0 11 ∧ S0_.1 6 0 11 ≤ 1024 := hI_.1 6 0 11 rfl
  refine sm_T_go 2 (c1 := (2, [some (.inr (.inr (some (6, 0)))), some (.inl 0), none], [], S0_)) rfl ?_
  refine (vl_103 S0_ _).1 0 S0_ hI_ hF_ ⟨?_, ?_, trivial⟩ (Nat.lt_succ_self _)
  · omega
  · (intro i_ hi_; exfalso; omega)
end
/-! 99.zn2a -/
section
/-! what is needed; written by wip/p55/gen/vg -/

/-! what a_ needed node is_ made of_ -/
theorem nd_p {dd_ F_ : Nat} {S_ : sm_S} {u_ : Nat → Int} {x_ : Nat} (hg_ : dgr dd_ F_ S_) (hs_ : swp dd_ F_ S_) (hk_ : mkd dd_ F_ S_ u_) (n13_ : S_.1 3 dd_ 4 ≤ 1013) (h1_ : F_ ≤ x_) (h2_ : (x_ : Int) < S_.1 3 dd_ 4) (h3_ : u_ x_ = 1) :
    (1 ≤ srp dd_ S_ (S_.2.2.1 42 (0 + dd_) x_) ∧ srp dd_ S_ (S_.2.2.1 42 (0 + dd_) x_) < x_ ∧ u_ (srp dd_ S_ (S_.2.2.1 42 (0 + dd_) x_)) = 1) ∧ (1 ≤ srp dd_ S_ (S_.2.2.1 43 (0 + dd_) x_) ∧ srp dd_ S_ (S_.2.2.1 43 (0 + dd_) x_) < x_ ∧ u_ (srp dd_ S_ (S_.2.2.1 43 (0 + dd_) x_)) = 1) ∧ srp dd_ S_ (S_.2.2.1 42 (0 + dd_) x_) ≠ srp dd_ S_ (S_.2.2.1 43 (0 + dd_) x_) := by
  have g_ := hg_.2.2 x_ h1_ h2_
  have a_ := srp_b hs_ (l_ := S_.2.2.1 42 (0 + dd_) x_) (by omega) (by omega)
  have b_ := srp_b hs_ (l_ := S_.2.2.1 43 (0 + dd_) x_) (by omega) (by omega)
  have c_ := hk_.2.2 x_ h1_ h2_ h3_
  have d_ : S_.2.2.1 44 (0 + dd_) x_ = 2 * (x_ : Int) := by
    rcases hk_.1 x_ (by omega) with z_ | z_
    · rw [z_] at h3_; exact absurd h3_ (by decide)
    · exact z_.2.2
  have e_ := (hs_.2 x_ h2_).2.2 h1_ d_
  have e1_ : (srp dd_ S_ (S_.2.2.1 42 (0 + dd_) x_) : Int) = S_.2.2.1 44 (0 + dd_) (S_.2.2.1 42 (0 + dd_) x_ / 2).toNat / 2 := by unfold srp; omega
  have e2_ : (srp dd_ S_ (S_.2.2.1 43 (0 + dd_) x_) : Int) = S_.2.2.1 44 (0 + dd_) (S_.2.2.1 43 (0 + dd_) x_ / 2).toNat / 2 := by unfold srp; omega
  obtain ⟨m1_, m2_, m3⟩ := e_
  exact ⟨⟨by omega, by omega, c_.1⟩, ⟨by omega, by omega, c_.2⟩, by omega⟩
/-- nodes below n_ that are_ needed -/
def npd (n_ : Int) (u_ : Nat → Int) (x_ : Int) : Prop := 1 ≤ x_ ∧ x_ < n_ ∧ u_ x_.toNat = 1
theorem mms_fr {w_ : sx_Wl} {P_ : Int → Prop} {S_ S'_ : sm_S} {k_ h_ : Int} (g_ : mms P_ S_ k_ h_) (f_ : ai_fr (sx_W w_) S_ S'_) (a_ : (sx_W w_).2.1 68 = false := by rfl) : mms P_ S'_ k_ h_ := fun i_ hi_ hn_ => by
  rw [(f_.2.2 68 a_ 0 i_).1]
  exact g_ i_ hi_ hn_
theorem mcs_fr {w_ : sx_Wl} {P_ : Int → Prop} {S_ S'_ : sm_S} (g_ : mcs P_ S_) (f_ : ai_fr (sx_W w_) S_ S'_) (a_ : (sx_W w_).2.1 65 = false := by rfl) (b_ : (sx_W w_).1 6 11 = false := by rfl) : mcs P_ S'_ := fun c_ hc_ => by
  rw [f_.1 6 0 11 b_] at hc_
  rw [(f_.2.2 65 a_ 0 (3 * c_)).1, (f_.2.2 65 a_ 0 (3 * c_ + 1)).1, (f_.2.2 65 a_ 0 (3 * c_ + 2)).1]
  exact g_ c_ hc_
theorem mms_0 {P_ : Int → Prop} {S_ : sm_S} : mms P_ S_ 0 0 := fun i_ hi_ hn_ => by exfalso; omega
theorem mcs_a {P_ : Int → Prop} {S_ : sm_S} (g_ : mcs P_ S_) {i_ k_ : Int} (hi_ : 0 ≤ i_ ∧ i_ < S_.1 6 0 11) (hk_ : 0 ≤ k_ ∧ k_ ≤ 2) (hn_ : S_.2.2.1 65 0 (3 * i_ + k_).toNat ≠ -1) : P_ (S_.2.2.1 65 0 (3 * i_ + k_).toNat) := by
  have q_ := g_ i_.toNat (by omega)
  have c_ : k_ = 0 ∨ k_ = 1 ∨ k_ = 2 := by omega
  rcases c_ with c_ | c_ | c_
  · rw [show (3 * i_ + k_).toNat = 3 * i_.toNat by omega]; exact q_.1
  · rw [show (3 * i_ + k_).toNat = 3 * i_.toNat + 1 by omega]; exact q_.2.1
  · rw [show (3 * i_ + k_).toNat = 3 * i_.toNat + 2 by omega] at hn_ ⊢
    exact q_.2.2.resolve_left hn_
theorem vt3 {k_ : Int} (h_ : 0 ≤ k_ ∧ k_ ≤ 2) : 0 ≤ st_at 3 k_ ∧ st_at 3 k_ ≤ 255 := by
  have c_ : k_ = 0 ∨ k_ = 1 ∨ k_ = 2 := by omega
  rcases c_ with c_ | c_ | c_ <;> rw [c_] <;> decide
/-! java/util/Arrays.fill -/
def vw_2m9 : sx_Wl := ([], [59], [])
def vq_2m9 (v0_ : Int) (S0_ : sm_S) (u_ : Option sm_V) (S1_ : sm_S) : Prop := u_ = none ∧ gi S1_ ∧ ai_fr (sx_W vw_2m9) S0_ S1_ ∧ (∀ j_, j_ < 1013 → S1_.2.2.1 59 0 j_ = v0_)
set_option maxHeartbeats 400000 in
theorem vl_2m9 {sc_ : Nat × (Nat → Int)} (v0_ : Int) (S0_ : sm_S) (hv_ : 0 ≤ v0_ ∧ v0_ ≤ 1) : ∀ nn_ : Nat, (∀ (k_ : Int) (S_ : sm_S), gi S_ → ai_fr (sx_W vw_2m9) S0_ S_ → ((0 ≤ k_ ∧ k_ ≤ 1013) ∧ (∀ j_, j_ < k_.toNat → S_.2.2.1 59 0 j_ = v0_) ∧ True) → ((1013 - k_).toNat) < nn_ → sm_T (mt_P sc_) 0 2 (5, [some (.inr (.inr (some (59, 0)))), some (.inl v0_), some (.inl k_), some (.inl 1013)], [], S_) (fun ro9_ => ∃ u_ S1_, ro9_ = (.inl u_, S1_, 0) ∧ vq_2m9 v0_ S0_ u_ S1_)) := by
  intro nn_
  induction nn_ with
  | zero => exact fun _ _ _ _ _ h_ => absurd h_ (Nat.not_lt_zero _)
  | succ nn_ ih_ =>
    rintro k_ S_ hI_ hF_ ⟨h0_, h1_, -⟩ hm_
    refine sm_T_go 2 (c1 := (7, [some (.inr (.inr (some (59, 0)))), some (.inl v0_), some (.inl k_), some (.inl 1013)], [.inl 1013, .inl k_], S_)) rfl ?_
    refine sm_T_br (a := 3) (z := 13) rfl (fun cx1_ => ?_) (fun cx1_ => ?_)
    · have cx1_ : 1013 ≤ k_ := of_decide_eq_true cx1_
      refine sm_T_rv rfl ⟨_, _, rfl, rfl, hI_, hF_, ?_⟩
      exact fun j_ hj_ => h1_ j_ (by omega)
    · have cx1_ : ¬ (1013 ≤ k_) := of_decide_eq_false cx1_
      refine sm_T_go 3 (c1 := (13, [some (.inr (.inr (some (59, 0)))), some (.inl v0_), some (.inl k_), some (.inl 1013)], [.inl v0_, .inl k_, .inr (.inr (some (59, 0)))], S_)) rfl ?_
      refine sm_T_iast (n := 1013) rfl rfl (by omega) (by omega) ?_
      have hIx2_ : gi (sm_aI S_ 59 0 k_.toNat v0_) := gi_aI hI_ (show 0 ≤ v0_ ∧ v0_ ≤ 1 from ⟨by omega, by omega⟩)
      have hFx3_ : ai_fr (sx_W vw_2m9) S0_ (sm_aI S_ 59 0 k_.toNat v0_) := ai_fr_tr hF_ (ai_fr_aI rfl)
      refine sm_T_inc (a := 2) (z := 1) (v := k_) (w := k_ + 1) rfl rfl (by omega) (by omega) (by omega) ?_ -- pc_ 14
      refine sm_T_go 1 (c1 := (5, [some (.inr (.inr (some (59, 0)))), some (.inl v0_), some (.inl (k_ + 1)), some (.inl 1013)], [], sm_aI S_ 59 0 k_.toNat v0_)) rfl ?_
      refine ih_ (k_ + 1) (sm_aI S_ 59 0 k_.toNat v0_) hIx2_ hFx3_ ⟨?_, ?_, trivial⟩ ?_
      · omega
      · intro j_ hj_
        rw [rd_eq]
        by_cases z_ : j_ = k_.toNat
        · rw [if_pos z_]
        · rw [if_neg z_]; exact h1_ j_ (by omega)
      · omega
set_option maxHeartbeats 400000 in
theorem vc_2m9 {sc_ : Nat × (Nat → Int)} (v0_ : Int) (S0_ : sm_S) (hI_ : gi S0_) (hv_ : 0 ≤ v0_ ∧ v0_ ≤ 1) : sm_T (mt_P sc_) 0 2 (0, [some (.inr (.inr (some (59, 0)))), some (.inl v0_), none, none], [], S0_) (fun ro9_ => ∃ u_ S1_, ro9_ = (.inl u_, S1_, 0) ∧ vq_2m9 v0_ S0_ u_ S1_) := by
  have hF_ : ai_fr (sx_W vw_2m9) S0_ S0_ := ai_fr_rf
  refine sm_T_go 5 (c1 := (5, [some (.inr (.inr (some (59, 0)))), some (.inl v0_), some (.inl 0), some (.inl 1013)], [], S0_)) rfl ?_
  refine (vl_2m9 v0_ S0_ hv_ _) 0 S0_ hI_ hF_ ⟨?_, ?_, trivial⟩ (Nat.lt_succ_self _)
  · omega
  · (intro j_ hj_; exact absurd hj_ (Nat.not_lt_zero _))
end
/-! 99.zn2b -/
section
/-! Design.markNeeded -/
def vw_67m : sx_Wl := ([], [59], [])
def vq_67m (dd_ : Nat) (F_ : Nat) (S0_ : sm_S) (u_ : Option sm_V) (S1_ : sm_S) : Prop := ∃ v_ : Int, u_ = some (.inl v_) ∧ gi S1_ ∧ ai_fr (sx_W vw_67m) S0_ S1_ ∧ ((0 ≤ v_ ∧ v_ ≤ 1000) ∧ mkd dd_ F_ S1_ (S1_.2.2.1 59 0))
set_option maxHeartbeats 2000000 in
theorem vl_67m {sc_ : Nat × (Nat → Int)} (dd_ : Nat) (F_ : Nat) (S0_ : sm_S) (hg_ : dgr dd_ F_ S0_) (hr_ : drt dd_ S0_) (hs_ : swp dd_ F_ S0_) : ∀ nn_ : Nat, (∀ (k_ : Int) (S_ : sm_S), gi S_ → ai_fr (sx_W vw_67m) S0_ S_ → ((0 ≤ k_ ∧ k_ ≤ S0_.1 3 dd_ 3 + S0_.1 3 dd_ 2) ∧ (∀ j9_ : Nat, j9_ < 1013 → S_.2.2.1 59 0 j9_ = 0 ∨ (S_.2.2.1 59 0 j9_ = 1 ∧ (j9_ : Int) < S0_.1 3 dd_ 4 ∧ S0_.2.2.1 44 (0 + dd_) j9_ = 2 * (j9_ : Int))) ∧ (∀ i9_ : Int, 0 ≤ i9_ → i9_ < k_ → S_.2.2.1 59 0 (srp dd_ S0_ (rtv dd_ S0_ i9_)) = 1) ∧ True) → ((5000 + (100 - k_)).toNat) < nn_ → sm_T (mt_P sc_) 1 67 (7, [some (.inr (.inr (some (3, dd_)))), some (.inr (.inr (some (59, 0)))), some (.inl k_), none], [], S_) (fun ro9_ => ∃ u_ S1_, ro9_ = (.inl u_, S1_, 0) ∧ vq_67m dd_ F_ S0_ u_ S1_)) ∧ (∀ (c_ : Int) (n_ : Int) (S_ : sm_S), gi S_ → ai_fr (sx_W vw_67m) S0_ S_ → (((F_ : Int) - 1 ≤ n_ ∧ n_ < S0_.1 3 dd_ 4 ∧ 0 ≤ c_ ∧ c_ ≤ S0_.1 3 dd_ 4 - 1 - n_) ∧ (∀ j9_ : Nat, j9_ < 1013 → S_.2.2.1 59 0 j9_ = 0 ∨ (S_.2.2.1 59 0 j9_ = 1 ∧ (j9_ : Int) < S0_.1 3 dd_ 4 ∧ S0_.2.2.1 44 (0 + dd_) j9_ = 2 * (j9_ : Int))) ∧ (∀ i9_ : Int, 0 ≤ i9_ → i9_ < S0_.1 3 dd_ 3 + S0_.1 3 dd_ 2 → S_.2.2.1 59 0 (srp dd_ S0_ (rtv dd_ S0_ i9_)) = 1) ∧ (∀ j9_ : Nat, n_ < (j9_ : Int) → F_ ≤ j9_ → (j9_ : Int) < S0_.1 3 dd_ 4 → S_.2.2.1 59 0 j9_ = 1 → S_.2.2.1 59 0 (srp dd_ S0_ (S0_.2.2.1 42 (0 + dd_) j9_)) = 1 ∧ S_.2.2.1 59 0 (srp dd_ S0_ (S0_.2.2.1 43 (0 + dd_) j9_)) = 1) ∧ True) → ((n_ + 1).toNat) < nn_ → sm_T (mt_P sc_) 1 67 (44, [some (.inr (.inr (some (3, dd_)))), some (.inr (.inr (some (59, 0)))), some (.inl c_), some (.inl n_)], [], S_) (fun ro9_ => ∃ u_ S1_, ro9_ = (.inl u_, S1_, 0) ∧ vq_67m dd_ F_ S0_ u_ S1_)) := by
  intro nn_
  induction nn_ with
  | zero => exact ⟨fun _ _ _ _ _ h_ => absurd h_ (Nat.not_lt_zero _), fun _ _ _ _ _ _ h_ => absurd h_ (Nat.not_lt_zero _)⟩
  | succ nn_ ih_ =>
    refine ⟨?_, ?_⟩
    · rintro k_ S_ hI_ hF_ ⟨h0_, hz_, hq_, -⟩ hm_
      have g1_ := hg_.1
      have g2_ := hg_.2.1
      have r1_ := hr_.1
      have e2_ : S_.1 3 dd_ 2 = S0_.1 3 dd_ 2 := hF_.1 3 dd_ 2 rfl
      have e1_ : S_.1 3 dd_ 1 = S0_.1 3 dd_ 1 := hF_.1 3 dd_ 1 rfl
      have e3_ : S_.1 3 dd_ 3 = S0_.1 3 dd_ 3 := hF_.1 3 dd_ 3 rfl
      have e4_ : S_.1 3 dd_ 4 = S0_.1 3 dd_ 4 := hF_.1 3 dd_ 4 rfl
      have n13_ : S_.1 3 dd_ 4 ≤ 1013 := (hI_.1 3 dd_ 4 rfl).2
      have f44_ : S_.2.2.1 44 (0 + dd_) = S0_.2.2.1 44 (0 + dd_) := fr_arr hF_ rfl
      have f42_ : S_.2.2.1 42 (0 + dd_) = S0_.2.2.1 42 (0 + dd_) := fr_arr hF_ rfl
      have f43_ : S_.2.2.1 43 (0 + dd_) = S0_.2.2.1 43 (0 + dd_) := fr_arr hF_ rfl
      have f45_ : S_.2.2.1 45 (0 + dd_) = S0_.2.2.1 45 (0 + dd_) := fr_arr hF_ rfl
      have f46_ : S_.2.2.1 46 (0 + dd_) = S0_.2.2.1 46 (0 + dd_) := fr_arr hF_ rfl
      refine sm_T_go 2 (c1 := (9, [some (.inr (.inr (some (3, dd_)))), some (.inr (.inr (some (59, 0)))), some (.inl k_), none], [.inr (.inr (some (3, dd_))), .inl k_], S_)) rfl ?_
      refine sm_T_cal (d1 := 0) (Q1 := vq_66 dd_ S_) rfl rfl (by decide) (vc_66 dd_ S_ hI_ (by omega)) (fun u_ Sx1_ px4_ => ?_)
      obtain ⟨rfl, vx6_, rfl, px4_⟩ := px4_
      have e9_ := px4_
      refine sm_T_br (a := 3) (z := 23) rfl (fun cx7_ => ?_) (fun cx7_ => ?_)
      · have cx7_ : vx6_ ≤ k_ := of_decide_eq_true cx7_
        have bx8_ : 0 ≤ S_.1 3 dd_ 4 ∧ S_.1 3 dd_ 4 ≤ 1013 := hI_.1 3 dd_ 4 rfl
        refine sm_T_go 5 (c1 := (42, [some (.inr (.inr (some (3, dd_)))), some (.inr (.inr (some (59, 0)))), some (.inl 0), none], [.inl 1, .inl (S_.1 3 dd_ 4)], S_)) rfl ?_
        refine sm_T_bin (w := (S_.1 3 dd_ 4) - 1) rfl (bi_sub (by omega) (by omega) (by omega)) ?_ -- pc_ 42
        refine sm_T_go 1 (c1 := (44, [some (.inr (.inr (some (3, dd_)))), some (.inr (.inr (some (59, 0)))), some (.inl 0), some (.inl ((S_.1 3 dd_ 4) - 1))], [], S_)) rfl ?_
        refine ih_.2 0 ((S_.1 3 dd_ 4) - 1) S_ hI_ hF_ ⟨?_, ?_, ?_, ?_, trivial⟩ ?_
        · omega
        · exact hz_
        · (intro i9_ q8_ q9_; exact hq_ i9_ q8_ (by omega))
        · (intro j9_ q7_ q8_ q9_; omega)
        · omega
      · have cx7_ : ¬ (vx6_ ≤ k_) := of_decide_eq_false cx7_
        refine sm_T_go 4 (c1 := (19, [some (.inr (.inr (some (3, dd_)))), some (.inr (.inr (some (59, 0)))), some (.inl k_), none], [.inl k_, .inr (.inr (some (3, dd_))), .inr (.inr (some (3, dd_))), .inr (.inr (some (59, 0)))], S_)) rfl ?_
        refine sm_T_cal (d1 := 0) (Q1 := vq_65 k_ dd_ S_) rfl rfl (by decide) (vc_65 k_ dd_ S_ hI_ (by exact drt_fr hr_ hF_ rfl rfl rfl rfl rfl) (by omega)) (fun u_ Sx9_ px12_ => ?_)
        obtain ⟨rfl, vx14_, rfl, px12_⟩ := px12_
        have e19_ := px12_
        have v19_ : vx14_ = rtv dd_ S0_ k_ := by rw [e19_.1]; unfold rtv; rw [e3_, f45_, f46_]
        refine sm_T_cal (d1 := 0) (Q1 := vq_64 vx14_ dd_ S_) rfl rfl (by decide) (vc_64 vx14_ dd_ S_ hI_ (by omega)) (fun u_ Sx15_ px18_ => ?_)
        obtain ⟨rfl, vx20_, rfl, px18_⟩ := px18_
        have e22_ := px18_
        rw [f44_] at e22_
        have sw9_ := swl_n hs_ (l_ := rtv dd_ S0_ k_) (by omega) (by omega) (by omega)
        rw [v19_] at e22_
        rw [← e22_] at sw9_
        have sb9_ := srp_b hs_ (l_ := rtv dd_ S0_ k_) (by omega) (by omega)
        have tn9_ : (vx20_ / 2).toNat = srp dd_ S0_ (rtv dd_ S0_ k_) := by omega
        refine sm_T_go 1 (c1 := (26, [some (.inr (.inr (some (3, dd_)))), some (.inr (.inr (some (59, 0)))), some (.inl k_), none], [.inl 1, .inl vx20_, .inr (.inr (some (59, 0)))], S_)) rfl ?_
        refine sm_T_bin (w := (vx20_ / 2)) rfl (bi_shr (k := 1) (by decide) (by omega) (by omega)) ?_ -- pc_ 26
        refine sm_T_go 1 (c1 := (28, [some (.inr (.inr (some (3, dd_)))), some (.inr (.inr (some (59, 0)))), some (.inl k_), none], [.inl 1, .inl (vx20_ / 2), .inr (.inr (some (59, 0)))], S_)) rfl ?_
        refine sm_T_iast (n := 1013) rfl rfl (by omega) (by omega) ?_
        have hIx21_ : gi (sm_aI S_ 59 0 (vx20_ / 2).toNat 1) := gi_aI hI_ (show 0 ≤ 1 ∧ 1 ≤ 1 from ⟨by omega, by omega⟩)
        have hFx22_ : ai_fr (sx_W vw_67m) S0_ (sm_aI S_ 59 0 (vx20_ / 2).toNat 1) := ai_fr_tr hF_ (ai_fr_aI rfl)
        refine sm_T_inc (a := 2) (z := 1) (v := k_) (w := k_ + 1) rfl rfl (by omega) (by omega) (by omega) ?_ -- pc_ 29
        refine sm_T_go 1 (c1 := (7, [some (.inr (.inr (some (3, dd_)))), some (.inr (.inr (some (59, 0)))), some (.inl (k_ + 1)), none], [], sm_aI S_ 59 0 (vx20_ / 2).toNat 1)) rfl ?_
        refine ih_.1 (k_ + 1) (sm_aI S_ 59 0 (vx20_ / 2).toNat 1) hIx21_ hFx22_ ⟨?_, ?_, ?_, trivial⟩ ?_
        · omega
        · intro j9_ hj9_
          rw [rd_eq]
          by_cases z9_ : j9_ = srp dd_ S0_ (rtv dd_ S0_ k_)
          · rw [if_pos (by omega)]; right; rw [z9_]; exact ⟨rfl, by omega, sb9_.2.1⟩
          · rw [if_neg (by omega)]; exact hz_ j9_ hj9_
        · intro i9_ q8_ q9_
          rw [rd_eq]
          by_cases z9_ : srp dd_ S0_ (rtv dd_ S0_ i9_) = srp dd_ S0_ (rtv dd_ S0_ k_)
          · rw [if_pos (by omega)]
          · rw [if_neg (by omega)]; exact hq_ i9_ q8_ (by by_cases y9_ : i9_ = k_; (exact absurd (by rw [y9_]) z9_); omega)
        · omega
    · rintro c_ n_ S_ hI_ hF_ ⟨h0_, hz_, hq_, hc_, -⟩ hm_
      have g1_ := hg_.1
      have g2_ := hg_.2.1
      have r1_ := hr_.1
      have e2_ : S_.1 3 dd_ 2 = S0_.1 3 dd_ 2 := hF_.1 3 dd_ 2 rfl
      have e1_ : S_.1 3 dd_ 1 = S0_.1 3 dd_ 1 := hF_.1 3 dd_ 1 rfl
      have e3_ : S_.1 3 dd_ 3 = S0_.1 3 dd_ 3 := hF_.1 3 dd_ 3 rfl
      have e4_ : S_.1 3 dd_ 4 = S0_.1 3 dd_ 4 := hF_.1 3 dd_ 4 rfl
      have n13_ : S_.1 3 dd_ 4 ≤ 1013 := (hI_.1 3 dd_ 4 rfl).2
      have f44_ : S_.2.2.1 44 (0 + dd_) = S0_.2.2.1 44 (0 + dd_) := fr_arr hF_ rfl
      have f42_ : S_.2.2.1 42 (0 + dd_) = S0_.2.2.1 42 (0 + dd_) := fr_arr hF_ rfl
      have f43_ : S_.2.2.1 43 (0 + dd_) = S0_.2.2.1 43 (0 + dd_) := fr_arr hF_ rfl
      have f45_ : S_.2.2.1 45 (0 + dd_) = S0_.2.2.1 45 (0 + dd_) := fr_arr hF_ rfl
      have f46_ : S_.2.2.1 46 (0 + dd_) = S0_.2.2.1 46 (0 + dd_) := fr_arr hF_ rfl
      refine sm_T_go 2 (c1 := (46, [some (.inr (.inr (some (3, dd_)))), some (.inr (.inr (some (59, 0)))), some (.inl c_), some (.inl n_)], [.inr (.inr (some (3, dd_))), .inl n_], S_)) rfl ?_
      refine sm_T_cal (d1 := 0) (Q1 := vq_63 dd_ S_) rfl rfl (by decide) (vc_63 dd_ S_ hI_ (by omega)) (fun u_ Sx1_ px4_ => ?_)
      obtain ⟨rfl, vx6_, rfl, px4_⟩ := px4_
      have e46_ := px4_
      refine sm_T_br (a := 2) (z := 48) rfl (fun cx7_ => ?_) (fun cx7_ => ?_)
      · have cx7_ : n_ < vx6_ := of_decide_eq_true cx7_
        refine sm_T_go 1 (c1 := (98, [some (.inr (.inr (some (3, dd_)))), some (.inr (.inr (some (59, 0)))), some (.inl c_), some (.inl n_)], [.inl c_], S_)) rfl ?_
        refine sm_T_ri rfl ⟨_, _, rfl, _, rfl, hI_, hF_, ?_⟩
        refine ⟨by omega, fun j9_ hj9_ => ?_, fun i9_ q8_ q9_ => ?_, fun j9_ q7_ q8_ q9_ => ?_⟩
        · have q9_ := hz_ j9_ hj9_; rw [e4_, f44_]; exact q9_
        · have q7_ := hq_ i9_ q8_ (by omega); unfold srp rtv; rw [e3_, f44_, f45_, f46_]; exact q7_
        · have q6_ := hc_ j9_ (by omega) q7_ (by omega) q9_; unfold srp; rw [f42_, f43_, f44_]; exact q6_
      · have cx7_ : ¬ (n_ < vx6_) := of_decide_eq_false cx7_
        have gn_ := hg_.2.2 n_.toNat (by omega) (by omega)
        rw [← f42_, ← f43_] at gn_
        refine sm_T_go 2 (c1 := (54, [some (.inr (.inr (some (3, dd_)))), some (.inr (.inr (some (59, 0)))), some (.inl c_), some (.inl n_)], [.inl n_, .inr (.inr (some (59, 0)))], S_)) rfl ?_
        refine sm_T_iald (n := 1013) rfl rfl (by omega) (by omega) ?_
        have bx8_ : 0 ≤ S_.2.2.1 59 0 n_.toNat ∧ S_.2.2.1 59 0 n_.toNat ≤ 1 := hI_.2 59 0 _
        refine sm_T_b0 (a := 0) (z := 36) rfl (fun cx9_ => ?_) (fun cx9_ => ?_)
        · have cx9_ : (S_.2.2.1 59 0 n_.toNat) = 0 := of_decide_eq_true cx9_
          refine sm_T_inc (a := 3) (z := (-1)) (v := n_) (w := n_ - 1) rfl rfl (by omega) (by omega) (by omega) ?_ -- pc_ 91
          refine sm_T_go 1 (c1 := (44, [some (.inr (.inr (some (3, dd_)))), some (.inr (.inr (some (59, 0)))), some (.inl c_), some (.inl (n_ - 1))], [], S_)) rfl ?_
          refine ih_.2 c_ (n_ - 1) S_ hI_ hF_ ⟨?_, ?_, ?_, ?_, trivial⟩ ?_
          · omega
          · exact hz_
          · exact hq_
          · intro j9_ q6_ q7_ q8_ q9_
            by_cases z9_ : (j9_ : Int) = n_
            · exfalso; rw [show j9_ = n_.toNat by omega] at q9_; omega
            · exact hc_ j9_ (by omega) q7_ q8_ q9_
          · omega
        · have cx9_ : ¬ ((S_.2.2.1 59 0 n_.toNat) = 0) := of_decide_eq_false cx9_
          refine sm_T_inc (a := 2) (z := 1) (v := c_) (w := c_ + 1) rfl rfl (by omega) (by omega) (by omega) ?_ -- pc_ 58
          refine sm_T_go 5 (c1 := (68, [some (.inr (.inr (some (3, dd_)))), some (.inr (.inr (some (59, 0)))), some (.inl (c_ + 1)), some (.inl n_)], [.inl n_, .inr (.inr (some (42, (0 + dd_)))), .inr (.inr (some (3, dd_))), .inr (.inr (some (59, 0)))], S_)) rfl ?_
          refine sm_T_iald (n := 1013) rfl rfl (by omega) (by omega) ?_
          have bx10_ : 0 ≤ S_.2.2.1 42 (0 + dd_) n_.toNat ∧ S_.2.2.1 42 (0 + dd_) n_.toNat ≤ 2025 := hI_.2 42 (0 + dd_) _
          refine sm_T_cal (d1 := 0) (Q1 := vq_64 (S_.2.2.1 42 (0 + dd_) n_.toNat) dd_ S_) rfl rfl (by decide) (vc_64 (S_.2.2.1 42 (0 + dd_) n_.toNat) dd_ S_ hI_ (by omega)) (fun u_ Sx11_ px14_ => ?_)
          obtain ⟨rfl, vx16_, rfl, px14_⟩ := px14_
          have e69_ := px14_
          rw [f44_, f42_] at e69_
          rw [f42_, f43_] at gn_
          have sw9_ := swl_n hs_ (l_ := S0_.2.2.1 42 (0 + dd_) n_.toNat) (by omega) (by omega) (by omega)
          rw [← e69_] at sw9_
          have sb9_ := srp_b hs_ (l_ := S0_.2.2.1 42 (0 + dd_) n_.toNat) (by omega) (by omega)
          have tl9_ : (vx16_ / 2).toNat = srp dd_ S0_ (S0_.2.2.1 42 (0 + dd_) n_.toNat) := by omega
          refine sm_T_go 1 (c1 := (73, [some (.inr (.inr (some (3, dd_)))), some (.inr (.inr (some (59, 0)))), some (.inl (c_ + 1)), some (.inl n_)], [.inl 1, .inl vx16_, .inr (.inr (some (59, 0)))], S_)) rfl ?_
          refine sm_T_bin (w := (vx16_ / 2)) rfl (bi_shr (k := 1) (by decide) (by omega) (by omega)) ?_ -- pc_ 73
          refine sm_T_go 1 (c1 := (75, [some (.inr (.inr (some (3, dd_)))), some (.inr (.inr (some (59, 0)))), some (.inl (c_ + 1)), some (.inl n_)], [.inl 1, .inl (vx16_ / 2), .inr (.inr (some (59, 0)))], S_)) rfl ?_
          refine sm_T_iast (n := 1013) rfl rfl (by omega) (by omega) ?_
          have hIx17_ : gi (sm_aI S_ 59 0 (vx16_ / 2).toNat 1) := gi_aI hI_ (show 0 ≤ 1 ∧ 1 ≤ 1 from ⟨by omega, by omega⟩)
          have hFx18_ : ai_fr (sx_W vw_67m) S0_ (sm_aI S_ 59 0 (vx16_ / 2).toNat 1) := ai_fr_tr hF_ (ai_fr_aI rfl)
          refine sm_T_go 5 (c1 := (83, [some (.inr (.inr (some (3, dd_)))), some (.inr (.inr (some (59, 0)))), some (.inl (c_ + 1)), some (.inl n_)], [.inl n_, .inr (.inr (some (43, (0 + dd_)))), .inr (.inr (some (3, dd_))), .inr (.inr (some (59, 0)))], sm_aI S_ 59 0 (vx16_ / 2).toNat 1)) rfl ?_
          refine sm_T_iald (n := 1013) rfl rfl (by omega) (by omega) ?_
          have bx19_ : 0 ≤ S_.2.2.1 43 (0 + dd_) n_.toNat ∧ S_.2.2.1 43 (0 + dd_) n_.toNat ≤ 2025 := hI_.2 43 (0 + dd_) _
          refine sm_T_go 0 (c1 := (84, [some (.inr (.inr (some (3, dd_)))), some (.inr (.inr (some (59, 0)))), some (.inl (c_ + 1)), some (.inl n_)], [.inl (S_.2.2.1 43 (0 + dd_) n_.toNat), .inr (.inr (some (3, dd_))), .inr (.inr (some (59, 0)))], sm_aI S_ 59 0 (vx16_ / 2).toNat 1)) rfl ?_
          refine sm_T_cal (d1 := 0) (Q1 := vq_64 (S_.2.2.1 43 (0 + dd_) n_.toNat) dd_ (sm_aI S_ 59 0 (vx16_ / 2).toNat 1)) rfl rfl (by decide) (vc_64 (S_.2.2.1 43 (0 + dd_) n_.toNat) dd_ (sm_aI S_ 59 0 (vx16_ / 2).toNat 1) hIx17_ (by (rw [f43_]; omega))) (fun u_ Sx20_ px23_ => ?_)
          obtain ⟨rfl, vx25_, rfl, px23_⟩ := px23_
          have e84_ := px23_
          simp only [rd_ne, ne_eq, Nat.reduceEqDiff, not_false_eq_true] at e84_
          rw [f44_, f43_] at e84_
          have sw8_ := swl_n hs_ (l_ := S0_.2.2.1 43 (0 + dd_) n_.toNat) (by omega) (by omega) (by omega)
          rw [← e84_] at sw8_
          have sb8_ := srp_b hs_ (l_ := S0_.2.2.1 43 (0 + dd_) n_.toNat) (by omega) (by omega)
          have th9_ : (vx25_ / 2).toNat = srp dd_ S0_ (S0_.2.2.1 43 (0 + dd_) n_.toNat) := by omega
          refine sm_T_go 1 (c1 := (88, [some (.inr (.inr (some (3, dd_)))), some (.inr (.inr (some (59, 0)))), some (.inl (c_ + 1)), some (.inl n_)], [.inl 1, .inl vx25_, .inr (.inr (some (59, 0)))], sm_aI S_ 59 0 (vx16_ / 2).toNat 1)) rfl ?_
          refine sm_T_bin (w := (vx25_ / 2)) rfl (bi_shr (k := 1) (by decide) (by omega) (by omega)) ?_ -- pc_ 88
          refine sm_T_go 1 (c1 := (90, [some (.inr (.inr (some (3, dd_)))), some (.inr (.inr (some (59, 0)))), some (.inl (c_ + 1)), some (.inl n_)], [.inl 1, .inl (vx25_ / 2), .inr (.inr (some (59, 0)))], sm_aI S_ 59 0 (vx16_ / 2).toNat 1)) rfl ?_
          refine sm_T_iast (n := 1013) rfl rfl (by omega) (by omega) ?_
          have hIx26_ : gi (sm_aI (sm_aI S_ 59 0 (vx16_ / 2).toNat 1) 59 0 (vx25_ / 2).toNat 1) := gi_aI hIx17_ (show 0 ≤ 1 ∧ 1 ≤ 1 from ⟨by omega, by omega⟩)
          have hFx27_ : ai_fr (sx_W vw_67m) S0_ (sm_aI (sm_aI S_ 59 0 (vx16_ / 2).toNat 1) 59 0 (vx25_ / 2).toNat 1) := ai_fr_tr hFx18_ (ai_fr_aI rfl)
          refine sm_T_inc (a := 3) (z := (-1)) (v := n_) (w := n_ - 1) rfl rfl (by omega) (by omega) (by omega) ?_ -- pc_ 91
          refine sm_T_go 1 (c1 := (44, [some (.inr (.inr (some (3, dd_)))), some (.inr (.inr (some (59, 0)))), some (.inl (c_ + 1)), some (.inl (n_ - 1))], [], sm_aI (sm_aI S_ 59 0 (vx16_ / 2).toNat 1) 59 0 (vx25_ / 2).toNat 1)) rfl ?_
          refine ih_.2 (c_ + 1) (n_ - 1) (sm_aI (sm_aI S_ 59 0 (vx16_ / 2).toNat 1) 59 0 (vx25_ / 2).toNat 1) hIx26_ hFx27_ ⟨?_, ?_, ?_, ?_, trivial⟩ ?_
          · omega
          · intro j9_ hj9_
            rw [rd_eq]
            by_cases z9_ : j9_ = srp dd_ S0_ (S0_.2.2.1 43 (0 + dd_) n_.toNat)
            · rw [if_pos (by omega)]; right; rw [z9_]; exact ⟨rfl, by omega, sb8_.2.1⟩
            · rw [if_neg (by omega), rd_eq]
              by_cases y9_ : j9_ = srp dd_ S0_ (S0_.2.2.1 42 (0 + dd_) n_.toNat)
              · rw [if_pos (by omega)]; right; rw [y9_]; exact ⟨rfl, by omega, sb9_.2.1⟩
              · rw [if_neg (by omega)]; exact hz_ j9_ hj9_
          · intro i9_ q8_ q9_
            rw [rd_eq]
            split
            · rfl
            · rw [rd_eq]; split; rfl; exact hq_ i9_ q8_ q9_
          · have mono : ∀ j8_ : Nat, S_.2.2.1 59 0 j8_ = 1 → ((sm_aI (sm_aI S_ 59 0 (vx16_ / 2).toNat 1) 59 0 (vx25_ / 2).toNat 1)).2.2.1 59 0 j8_ = 1 := fun j8_ w8_ => by rw [rd_eq]; split; rfl; (rw [rd_eq]; split; rfl; exact w8_)
            intro j9_ q6_ q7_ q8_ q9_
            by_cases z9_ : (j9_ : Int) = n_
            · rw [show j9_ = n_.toNat by omega]
              refine ⟨?_, ?_⟩
              · rw [rd_eq]; split; rfl; (rw [rd_eq, if_pos (by omega)])
              · rw [rd_eq, if_pos (by omega)]
            · have lt9_ := hg_.2.2 j9_ q7_ q8_
              have q5_ : S_.2.2.1 59 0 j9_ = 1 := by rw [rd_eq, if_neg (by omega), rd_eq, if_neg (by omega)] at q9_; exact q9_
              have w9_ := hc_ j9_ (by omega) q7_ q8_ q5_
              exact ⟨mono _ w9_.1, mono _ w9_.2⟩
          · omega
set_option maxHeartbeats 2000000 in
theorem vc_67m {sc_ : Nat × (Nat → Int)} (dd_ : Nat) (F_ : Nat) (S0_ : sm_S) (hI_ : gi S0_) (hg_ : dgr dd_ F_ S0_) (hr_ : drt dd_ S0_) (hs_ : swp dd_ F_ S0_) : sm_T (mt_P sc_) 1 67 (0, [some (.inr (.inr (some (3, dd_)))), some (.inr (.inr (some (59, 0)))), none, none], [], S0_) (fun ro9_ => ∃ u_ S1_, ro9_ = (.inl u_, S1_, 0) ∧ vq_67m dd_ F_ S0_ u_ S1_) := by
  have hF_ : ai_fr (sx_W vw_67m) S0_ S0_ := ai_fr_rf
  refine sm_T_go 2 (c1 := (2, [some (.inr (.inr (some (3, dd_)))), some (.inr (.inr (some (59, 0)))), none, none], [.inl 0, .inr (.inr (some (59, 0)))], S0_)) rfl ?_
  refine sm_T_cal (d1 := 0) (Q1 := vq_2m9 0 S0_) rfl rfl (by decide) (vc_2m9 0 S0_ hI_ (by decide)) (fun u_ Sx1_ px4_ => ?_)
  obtain ⟨rfl, hIx2_, hFx3_, px4_⟩ := px4_
  have hFx5_ : ai_fr (sx_W vw_67m) S0_ Sx1_ := ai_fr_tr hF_ (fr_le hFx3_ rfl)
  have e0_ := px4_
  refine sm_T_go 2 (c1 := (7, [some (.inr (.inr (some (3, dd_)))), some (.inr (.inr (some (59, 0)))), some (.inl 0), none], [], Sx1_)) rfl ?_
  refine (vl_67m dd_ F_ S0_ hg_ hr_ hs_ _).1 0 Sx1_ hIx2_ hFx5_ ⟨?_, ?_, ?_, trivial⟩ (Nat.lt_succ_self _)
  · (have r1_ := hr_.1; omega)
  · (intro j9_ hj9_; left; exact e0_ j9_ hj9_)
  · (intro i9_ q8_ q9_; omega)
end
/-! 99.zn3a -/
section
/-! cuts; written by wip/p55/gen/vg -/
/-! Mapper.collectCuts -/
def vw_100 : sx_Wl := ([(6, 11), (6, 13)], [65, 68], [])
def vq_100 (a1_ : Int) (dd_ : Nat) (F_ : Nat) (S0_ : sm_S) (u_ : Option sm_V) (S1_ : sm_S) : Prop := u_ = none ∧ gi S1_ ∧ ai_fr (sx_W vw_100) S0_ S1_ ∧ (mcs (npd a1_ (S0_.2.2.1 59 0)) S1_)
set_option maxHeartbeats 3000000 in
theorem vl_100 {sc_ : Nat × (Nat → Int)} (a1_ : Int) (dd_ : Nat) (F_ : Nat) (S0_ : sm_S) (hd_ : S0_.2.1 6 0 0 = some dd_) (hg_ : dgr dd_ F_ S0_) (hs_ : swp dd_ F_ S0_) (hk_ : mkd dd_ F_ S0_ (S0_.2.2.1 59 0)) (h1_ : (F_ : Int) ≤ a1_ ∧ a1_ < S0_.1 3 dd_ 4) (hn_ : S0_.2.2.1 59 0 a1_.toNat = 1) : ∀ nn_ : Nat, (∀ (i9_ : Int) (S_ : sm_S), gi S_ → ai_fr (sx_W vw_100) S0_ S_ → ((0 ≤ i9_ ∧ i9_ ≤ 1024) ∧ (mcs (npd a1_ (S0_.2.2.1 59 0)) S_) ∧ True) → ((10 * (2000 - i9_) + 9).toNat) < nn_ → sm_T (mt_P sc_) 2 100 (34, [some (.inr (.inr (some (6, 0)))), some (.inl a1_), some (.inl i9_), none, none], [], S_) (fun ro9_ => ∃ u_ S1_, ro9_ = (.inl u_, S1_, 0) ∧ vq_100 a1_ dd_ F_ S0_ u_ S1_)) ∧ (∀ (i9_ : Int) (k_ : Int) (S_ : sm_S), gi S_ → ai_fr (sx_W vw_100) S0_ S_ → ((0 ≤ i9_ ∧ i9_ < 1024 ∧ 0 ≤ k_ ∧ k_ ≤ 3 ∧ i9_ < S_.1 6 0 11) ∧ (mcs (npd a1_ (S0_.2.2.1 59 0)) S_) ∧ True) → ((10 * (2000 - i9_) + 8 - k_).toNat) < nn_ → sm_T (mt_P sc_) 2 100 (51, [some (.inr (.inr (some (6, 0)))), some (.inl a1_), some (.inl i9_), some (.inl k_), none], [], S_) (fun ro9_ => ∃ u_ S1_, ro9_ = (.inl u_, S1_, 0) ∧ vq_100 a1_ dd_ F_ S0_ u_ S1_)) := by
  intro nn_
  induction nn_ with
  | zero => exact ⟨fun _ _ _ _ _ h_ => absurd h_ (Nat.not_lt_zero _), fun _ _ _ _ _ _ h_ => absurd h_ (Nat.not_lt_zero _)⟩
  | succ nn_ ih_ =>
    refine ⟨?_, ?_⟩
    · rintro i9_ S_ hI_ hF_ ⟨h0_, hcs_, -⟩ hm_
      have f59_ : S_.2.2.1 59 0 = S0_.2.2.1 59 0 := fr_arr hF_ rfl
      have f42_ : S_.2.2.1 42 (0 + dd_) = S0_.2.2.1 42 (0 + dd_) := fr_arr hF_ rfl
      have f43_ : S_.2.2.1 43 (0 + dd_) = S0_.2.2.1 43 (0 + dd_) := fr_arr hF_ rfl
      have f44_ : S_.2.2.1 44 (0 + dd_) = S0_.2.2.1 44 (0 + dd_) := fr_arr hF_ rfl
      have f4_ : S_.1 3 dd_ 4 = S0_.1 3 dd_ 4 := hF_.1 3 dd_ 4 rfl
      have f1_ : S_.1 3 dd_ 1 = S0_.1 3 dd_ 1 := hF_.1 3 dd_ 1 rfl
      have f2_ : S_.1 3 dd_ 2 = S0_.1 3 dd_ 2 := hF_.1 3 dd_ 2 rfl
      have ck_ : 0 ≤ S_.1 6 0 11 ∧ S_.1 6 0 11 ≤ 1024 := hI_.1 6 0 11 rfl
      have g1_ := hg_.1
      have g2_ := hg_.2.1
      have n13_ : 0 ≤ S_.1 3 dd_ 4 ∧ S_.1 3 dd_ 4 ≤ 1013 := hI_.1 3 dd_ 4 rfl
      have bx1_ : 0 ≤ S_.1 6 0 11 ∧ S_.1 6 0 11 ≤ 1024 := hI_.1 6 0 11 rfl
      refine sm_T_go 3 (c1 := (39, [some (.inr (.inr (some (6, 0)))), some (.inl a1_), some (.inl i9_), none, none], [.inl (S_.1 6 0 11), .inl i9_], S_)) rfl ?_
      refine sm_T_br (a := 3) (z := 121) rfl (fun cx2_ => ?_) (fun cx2_ => ?_)
      · have cx2_ : (S_.1 6 0 11) ≤ i9_ := of_decide_eq_true cx2_
        refine sm_T_rv rfl ⟨_, _, rfl, rfl, hI_, hF_, ?_⟩
        exact hcs_
      · have cx2_ : ¬ ((S_.1 6 0 11) ≤ i9_) := of_decide_eq_false cx2_
        refine sm_T_go 2 (c1 := (46, [some (.inr (.inr (some (6, 0)))), some (.inl a1_), some (.inl i9_), none, none], [.inl 1024, .inl i9_], S_)) rfl ?_
        refine sm_T_br (a := 3) (z := 114) rfl (fun cx3_ => ?_) (fun cx3_ => ?_)
        · have cx3_ : 1024 ≤ i9_ := of_decide_eq_true cx3_
          refine sm_T_rv rfl ⟨_, _, rfl, rfl, hI_, hF_, ?_⟩
          exact hcs_
        · have cx3_ : ¬ (1024 ≤ i9_) := of_decide_eq_false cx3_
          refine sm_T_go 2 (c1 := (51, [some (.inr (.inr (some (6, 0)))), some (.inl a1_), some (.inl i9_), some (.inl 0), none], [], S_)) rfl ?_
          refine ih_.2 i9_ 0 S_ hI_ hF_ ⟨?_, ?_, trivial⟩ ?_
          · omega
          · exact hcs_
          · omega
    · rintro i9_ k_ S_ hI_ hF_ ⟨h0_, hcs_, -⟩ hm_
      have f59_ : S_.2.2.1 59 0 = S0_.2.2.1 59 0 := fr_arr hF_ rfl
      have f42_ : S_.2.2.1 42 (0 + dd_) = S0_.2.2.1 42 (0 + dd_) := fr_arr hF_ rfl
      have f43_ : S_.2.2.1 43 (0 + dd_) = S0_.2.2.1 43 (0 + dd_) := fr_arr hF_ rfl
      have f44_ : S_.2.2.1 44 (0 + dd_) = S0_.2.2.1 44 (0 + dd_) := fr_arr hF_ rfl
      have f4_ : S_.1 3 dd_ 4 = S0_.1 3 dd_ 4 := hF_.1 3 dd_ 4 rfl
      have f1_ : S_.1 3 dd_ 1 = S0_.1 3 dd_ 1 := hF_.1 3 dd_ 1 rfl
      have f2_ : S_.1 3 dd_ 2 = S0_.1 3 dd_ 2 := hF_.1 3 dd_ 2 rfl
      have ck_ : 0 ≤ S_.1 6 0 11 ∧ S_.1 6 0 11 ≤ 1024 := hI_.1 6 0 11 rfl
      have g1_ := hg_.1
      have g2_ := hg_.2.1
      have n13_ : 0 ≤ S_.1 3 dd_ 4 ∧ S_.1 3 dd_ 4 ≤ 1013 := hI_.1 3 dd_ 4 rfl
      refine sm_T_go 2 (c1 := (53, [some (.inr (.inr (some (6, 0)))), some (.inl a1_), some (.inl i9_), some (.inl k_), none], [.inl 3, .inl k_], S_)) rfl ?_
      refine sm_T_br (a := 3) (z := 101) rfl (fun cx1_ => ?_) (fun cx1_ => ?_)
      · have cx1_ : 3 ≤ k_ := of_decide_eq_true cx1_
        refine sm_T_inc (a := 2) (z := 1) (v := i9_) (w := i9_ + 1) rfl rfl (by omega) (by omega) (by omega) ?_ -- pc_ 154
        refine sm_T_go 1 (c1 := (34, [some (.inr (.inr (some (6, 0)))), some (.inl a1_), some (.inl (i9_ + 1)), some (.inl k_), none], [], S_)) rfl ?_
        refine sm_T_wk [some (.inr (.inr (some (6, 0)))), some (.inl a1_), some (.inl (i9_ + 1)), none, none] (by exact ⟨rfl, rfl, rfl, trivial⟩) ?_
        refine ih_.1 (i9_ + 1) S_ hI_ hF_ ⟨?_, ?_, trivial⟩ ?_
        · omega
        · exact hcs_
        · omega
      · have cx1_ : ¬ (3 ≤ k_) := of_decide_eq_false cx1_
        refine sm_T_go 4 (c1 := (62, [some (.inr (.inr (some (6, 0)))), some (.inl a1_), some (.inl i9_), some (.inl k_), none], [.inl i9_, .inl 3, .inr (.inr (some (65, 0)))], S_)) rfl ?_
        refine sm_T_bin (w := 3 * i9_) rfl (bi_mul (by omega) (by omega) (by omega)) ?_ -- pc_ 62
        refine sm_T_go 1 (c1 := (64, [some (.inr (.inr (some (6, 0)))), some (.inl a1_), some (.inl i9_), some (.inl k_), none], [.inl k_, .inl (3 * i9_), .inr (.inr (some (65, 0)))], S_)) rfl ?_
        refine sm_T_bin (w := 3 * i9_ + k_) rfl (bi_add (by omega) (by omega) (by omega)) ?_ -- pc_ 64
        refine sm_T_iald (n := 3072) rfl rfl (by omega) (by omega) ?_
        have bx2_ : (-1) ≤ S_.2.2.1 65 0 (3 * i9_ + k_).toNat ∧ S_.2.2.1 65 0 (3 * i9_ + k_).toNat ≤ 1012 := hI_.2 65 0 _
        refine sm_T_go 3 (c1 := (71, [some (.inr (.inr (some (6, 0)))), some (.inl a1_), some (.inl i9_), some (.inl k_), some (.inl (S_.2.2.1 65 0 (3 * i9_ + k_).toNat))], [.inl (-1), .inl (S_.2.2.1 65 0 (3 * i9_ + k_).toNat)], S_)) rfl ?_
        refine sm_T_br (a := 0) (z := 77) rfl (fun cx3_ => ?_) (fun cx3_ => ?_)
        · have cx3_ : (S_.2.2.1 65 0 (3 * i9_ + k_).toNat) = (-1) := of_decide_eq_true cx3_
          refine sm_T_inc (a := 3) (z := 1) (v := k_) (w := k_ + 1) rfl rfl (by omega) (by omega) (by omega) ?_ -- pc_ 148
          refine sm_T_go 1 (c1 := (51, [some (.inr (.inr (some (6, 0)))), some (.inl a1_), some (.inl i9_), some (.inl (k_ + 1)), some (.inl (S_.2.2.1 65 0 (3 * i9_ + k_).toNat))], [], S_)) rfl ?_
          refine sm_T_wk [some (.inr (.inr (some (6, 0)))), some (.inl a1_), some (.inl i9_), some (.inl (k_ + 1)), none] (by exact ⟨rfl, rfl, rfl, rfl, trivial⟩) ?_
          refine ih_.2 i9_ (k_ + 1) S_ hI_ hF_ ⟨?_, ?_, trivial⟩ ?_
          · first | omega | (have q9_ := a145_.2; omega)
          · first | exact hcs_ | exact a145_.1
          · omega
        · have cx3_ : ¬ ((S_.2.2.1 65 0 (3 * i9_ + k_).toNat) = (-1)) := of_decide_eq_false cx3_
          have pn9_ := mcs_a hcs_ (i_ := i9_) (k_ := k_) (by omega) (by omega) (by omega)
          have pn8_ := pn9_.1
          have pn7_ := pn9_.2.1
          have pn6_ := pn9_.2.2
          refine sm_T_go 2 (c1 := (77, [some (.inr (.inr (some (6, 0)))), some (.inl a1_), some (.inl i9_), some (.inl k_), some (.inl (S_.2.2.1 65 0 (3 * i9_ + k_).toNat))], [.inl (S_.2.2.1 65 0 (3 * i9_ + k_).toNat), .inr (.inr (some (6, 0)))], S_)) rfl ?_
          refine sm_T_cal (d1 := 1) (Q1 := vq_94 (S_.2.2.1 65 0 (3 * i9_ + k_).toNat) dd_ S_) rfl rfl (by decide) (vc_94 (S_.2.2.1 65 0 (3 * i9_ + k_).toNat) dd_ S_ hI_ (by exact (hF_.2.1 6 0 0 rfl).trans hd_) (by omega)) (fun u_ Sx4_ px7_ => ?_)
          obtain ⟨rfl, vx9_, rfl, px7_⟩ := px7_
          have lf9_ := px7_
          rw [f1_, f2_] at lf9_
          refine sm_T_b0 (a := 1) (z := 68) rfl (fun cx10_ => ?_) (fun cx10_ => ?_)
          · have cx10_ : vx9_ ≠ 0 := of_decide_eq_true cx10_
            refine sm_T_inc (a := 3) (z := 1) (v := k_) (w := k_ + 1) rfl rfl (by omega) (by omega) (by omega) ?_ -- pc_ 148
            refine sm_T_go 1 (c1 := (51, [some (.inr (.inr (some (6, 0)))), some (.inl a1_), some (.inl i9_), some (.inl (k_ + 1)), some (.inl (S_.2.2.1 65 0 (3 * i9_ + k_).toNat))], [], S_)) rfl ?_
            refine sm_T_wk [some (.inr (.inr (some (6, 0)))), some (.inl a1_), some (.inl i9_), some (.inl (k_ + 1)), none] (by exact ⟨rfl, rfl, rfl, rfl, trivial⟩) ?_
            refine ih_.2 i9_ (k_ + 1) S_ hI_ hF_ ⟨?_, ?_, trivial⟩ ?_
            · first | omega | (have q9_ := a145_.2; omega)
            · first | exact hcs_ | exact a145_.1
            · omega
          · have cx10_ : ¬ (vx9_ ≠ 0) := of_decide_eq_false cx10_
            have nd9_ := nd_p hg_ hs_ hk_ (by omega) (x_ := (S_.2.2.1 65 0 (3 * i9_ + k_).toNat).toNat) (by omega) (by omega) pn6_
            have hIx11_ : gi (sm_pI S_ 6 0 13 0) := gi_pI hI_ (show 0 ≤ 0 ∧ 0 ≤ 4 from ⟨by omega, by omega⟩)
            have hFx12_ : ai_fr (sx_W vw_100) S0_ (sm_pI S_ 6 0 13 0) := ai_fr_tr hF_ (ai_fr_pI rfl)
            refine sm_T_go 6 (c1 := (92, [some (.inr (.inr (some (6, 0)))), some (.inl a1_), some (.inl i9_), some (.inl k_), some (.inl (S_.2.2.1 65 0 (3 * i9_ + k_).toNat))], [.inl (S_.2.2.1 65 0 (3 * i9_ + k_).toNat), .inr (.inr (some (6, 0))), .inr (.inr (some (6, 0)))], sm_pI S_ 6 0 13 0)) rfl ?_
            refine sm_T_cal (d1 := 1) (Q1 := vq_92 (S_.2.2.1 65 0 (3 * i9_ + k_).toNat) dd_ (sm_pI S_ 6 0 13 0)) rfl rfl (by decide) (vc_92 (S_.2.2.1 65 0 (3 * i9_ + k_).toNat) dd_ (sm_pI S_ 6 0 13 0) hIx11_ (by exact (hFx12_.2.1 6 0 0 rfl).trans hd_) (by omega)) (fun u_ Sx13_ px16_ => ?_)
            obtain ⟨rfl, vx18_, rfl, px16_⟩ := px16_
            have l92_ := px16_.1
            have v92_ : vx18_ = (srp dd_ S0_ (S0_.2.2.1 42 (0 + dd_) (S_.2.2.1 65 0 (3 * i9_ + k_).toNat).toNat) : Int) := by (have q9_ := px16_.2 F_ (dgr_fr hg_ hFx12_ rfl rfl rfl rfl rfl) (swp_fr hs_ hFx12_ rfl rfl rfl rfl) (by omega) (by rw [hFx12_.1 3 dd_ 4 rfl]; omega); unfold srp at q9_ ⊢; rw [fr_arr (t := 44) (i := 0 + dd_) hFx12_ rfl, fr_arr (t := 42) (i := 0 + dd_) hFx12_ rfl] at q9_; exact q9_)
            have w92_ : (npd a1_ (S0_.2.2.1 59 0)) vx18_ := ⟨by omega, by omega, by (rw [show (vx18_).toNat = srp dd_ S0_ (S0_.2.2.1 42 (0 + dd_) (S_.2.2.1 65 0 (3 * i9_ + k_).toNat).toNat) by omega]; exact nd9_.1.2.2)⟩
            refine sm_T_cal (d1 := 0) (Q1 := vq_101 vx18_ (npd a1_ (S0_.2.2.1 59 0)) (sm_pI S_ 6 0 13 0)) rfl rfl (by decide) (vc_101 vx18_ (npd a1_ (S0_.2.2.1 59 0)) (sm_pI S_ 6 0 13 0) hIx11_ (by omega) (by (rw [rf_eq]; decide)) (by (rw [rf_eq]; exact mms_0)) (by (intro _; exact w92_))) (fun u_ Sx19_ px22_ => ?_)
            obtain ⟨rfl, hIx20_, hFx21_, px22_⟩ := px22_
            have hFx23_ : ai_fr (sx_W vw_100) S0_ Sx19_ := ai_fr_tr hFx12_ (fr_le hFx21_ rfl)
            have a95_ := px22_
            have s95_ : Sx19_.1 6 0 13 = 1 := by (have q9_ := a95_.1; have q8_ := a95_.2.1; have q7_ := a95_.2.2.2.1 (by omega); rw [rf_eq] at q9_ q8_; omega)
            have z95_ := a95_.2.2.2.2.1 ⟨by omega, by rw [rf_eq]⟩
            have k95_ : Sx19_.1 6 0 11 = S_.1 6 0 11 := hFx21_.1 6 0 11 rfl
            have j95_ : Sx19_.2.2.1 65 0 = S_.2.2.1 65 0 := funext fun q9_ => (hFx21_.2.2 65 rfl 0 q9_).1
            refine sm_T_go 3 (c1 := (102, [some (.inr (.inr (some (6, 0)))), some (.inl a1_), some (.inl i9_), some (.inl k_), some (.inl (S_.2.2.1 65 0 (3 * i9_ + k_).toNat))], [.inl (S_.2.2.1 65 0 (3 * i9_ + k_).toNat), .inr (.inr (some (6, 0))), .inr (.inr (some (6, 0)))], Sx19_)) rfl ?_
            refine sm_T_cal (d1 := 1) (Q1 := vq_93 (S_.2.2.1 65 0 (3 * i9_ + k_).toNat) dd_ Sx19_) rfl rfl (by decide) (vc_93 (S_.2.2.1 65 0 (3 * i9_ + k_).toNat) dd_ Sx19_ hIx20_ (by exact (hFx23_.2.1 6 0 0 rfl).trans hd_) (by omega)) (fun u_ Sx24_ px27_ => ?_)
            obtain ⟨rfl, vx29_, rfl, px27_⟩ := px27_
            have l102_ := px27_.1
            have v102_ : vx29_ = (srp dd_ S0_ (S0_.2.2.1 43 (0 + dd_) (S_.2.2.1 65 0 (3 * i9_ + k_).toNat).toNat) : Int) := by (have q9_ := px27_.2 F_ (dgr_fr hg_ hFx23_ rfl rfl rfl rfl rfl) (swp_fr hs_ hFx23_ rfl rfl rfl rfl) (by omega) (by rw [hFx23_.1 3 dd_ 4 rfl]; omega); unfold srp at q9_ ⊢; rw [fr_arr (t := 44) (i := 0 + dd_) hFx23_ rfl, fr_arr (t := 43) (i := 0 + dd_) hFx23_ rfl] at q9_; exact q9_)
            have w102_ : (npd a1_ (S0_.2.2.1 59 0)) vx29_ := ⟨by omega, by omega, by (rw [show (vx29_).toNat = srp dd_ S0_ (S0_.2.2.1 43 (0 + dd_) (S_.2.2.1 65 0 (3 * i9_ + k_).toNat).toNat) by omega]; exact nd9_.2.1.2.2)⟩
            refine sm_T_cal (d1 := 0) (Q1 := vq_101 vx29_ (npd a1_ (S0_.2.2.1 59 0)) Sx19_) rfl rfl (by decide) (vc_101 vx29_ (npd a1_ (S0_.2.2.1 59 0)) Sx19_ hIx20_ (by omega) (by omega) (by exact a95_.2.2.1) (by (intro _; exact w102_))) (fun u_ Sx30_ px33_ => ?_)
            obtain ⟨rfl, hIx31_, hFx32_, px33_⟩ := px33_
            have hFx34_ : ai_fr (sx_W vw_100) S0_ Sx30_ := ai_fr_tr hFx23_ (fr_le hFx32_ rfl)
            have a105_ := px33_
            have s105_ : Sx30_.1 6 0 13 = 2 := a105_.2.2.2.2.2 ⟨by omega, s95_, by rw [z95_]; omega⟩
            have k105_ : Sx30_.1 6 0 11 = S_.1 6 0 11 := (hFx32_.1 6 0 11 rfl).trans k95_
            have j105_ : Sx30_.2.2.1 65 0 = S_.2.2.1 65 0 := (fr_arr hFx32_ rfl).trans j95_
            refine sm_T_go 5 (c1 := (115, [some (.inr (.inr (some (6, 0)))), some (.inl a1_), some (.inl i9_), some (.inl k_), some (.inl (S_.2.2.1 65 0 (3 * i9_ + k_).toNat))], [.inl i9_, .inl 3, .inr (.inr (some (65, 0))), .inr (.inr (some (6, 0)))], Sx30_)) rfl ?_
            refine sm_T_bin (w := 3 * i9_) rfl (bi_mul (by omega) (by omega) (by omega)) ?_ -- pc_ 115
            refine sm_T_go 2 (c1 := (118, [some (.inr (.inr (some (6, 0)))), some (.inl a1_), some (.inl i9_), some (.inl k_), some (.inl (S_.2.2.1 65 0 (3 * i9_ + k_).toNat))], [.inl 1, .inl k_, .inl (3 * i9_), .inr (.inr (some (65, 0))), .inr (.inr (some (6, 0)))], Sx30_)) rfl ?_
            refine sm_T_bin (w := k_ + 1) rfl (bi_add (by omega) (by omega) (by omega)) ?_ -- pc_ 118
            refine sm_T_go 1 (c1 := (120, [some (.inr (.inr (some (6, 0)))), some (.inl a1_), some (.inl i9_), some (.inl k_), some (.inl (S_.2.2.1 65 0 (3 * i9_ + k_).toNat))], [.inl 3, .inl (k_ + 1), .inl (3 * i9_), .inr (.inr (some (65, 0))), .inr (.inr (some (6, 0)))], Sx30_)) rfl ?_
            refine sm_T_bin (w := ((k_ + 1) % 3)) rfl (bi_rem (by omega) (by omega) (by omega) (by omega)) ?_ -- pc_ 120
            refine sm_T_bin (w := 3 * i9_ + ((k_ + 1) % 3)) rfl (bi_add (by omega) (by omega) (by omega)) ?_ -- pc_ 121
            refine sm_T_iald (n := 3072) rfl rfl (by omega) (by omega) ?_
            have bx35_ : (-1) ≤ Sx30_.2.2.1 65 0 (3 * i9_ + ((k_ + 1) % 3)).toNat ∧ Sx30_.2.2.1 65 0 (3 * i9_ + ((k_ + 1) % 3)).toNat ≤ 1012 := hIx31_.2 65 0 _
            refine sm_T_cal (d1 := 0) (Q1 := vq_101 (Sx30_.2.2.1 65 0 (3 * i9_ + ((k_ + 1) % 3)).toNat) (npd a1_ (S0_.2.2.1 59 0)) Sx30_) rfl rfl (by decide) (vc_101 (Sx30_.2.2.1 65 0 (3 * i9_ + ((k_ + 1) % 3)).toNat) (npd a1_ (S0_.2.2.1 59 0)) Sx30_ hIx31_ (by omega) (by omega) (by exact a105_.2.2.1) (by (rw [j105_]; intro u9_; exact mcs_a hcs_ (i_ := i9_) (k_ := (k_ + 1) % 3) (by omega) (by omega) u9_))) (fun u_ Sx36_ px39_ => ?_)
            obtain ⟨rfl, hIx37_, hFx38_, px39_⟩ := px39_
            have hFx40_ : ai_fr (sx_W vw_100) S0_ Sx36_ := ai_fr_tr hFx34_ (fr_le hFx38_ rfl)
            have a123_ := px39_
            have k123_ : Sx36_.1 6 0 11 = S_.1 6 0 11 := (hFx38_.1 6 0 11 rfl).trans k105_
            have j123_ : Sx36_.2.2.1 65 0 = S_.2.2.1 65 0 := (fr_arr hFx38_ rfl).trans j105_
            refine sm_T_go 5 (c1 := (133, [some (.inr (.inr (some (6, 0)))), some (.inl a1_), some (.inl i9_), some (.inl k_), some (.inl (S_.2.2.1 65 0 (3 * i9_ + k_).toNat))], [.inl i9_, .inl 3, .inr (.inr (some (65, 0))), .inr (.inr (some (6, 0)))], Sx36_)) rfl ?_
            refine sm_T_bin (w := 3 * i9_) rfl (bi_mul (by omega) (by omega) (by omega)) ?_ -- pc_ 133
            refine sm_T_go 2 (c1 := (136, [some (.inr (.inr (some (6, 0)))), some (.inl a1_), some (.inl i9_), some (.inl k_), some (.inl (S_.2.2.1 65 0 (3 * i9_ + k_).toNat))], [.inl 2, .inl k_, .inl (3 * i9_), .inr (.inr (some (65, 0))), .inr (.inr (some (6, 0)))], Sx36_)) rfl ?_
            refine sm_T_bin (w := k_ + 2) rfl (bi_add (by omega) (by omega) (by omega)) ?_ -- pc_ 136
            refine sm_T_go 1 (c1 := (138, [some (.inr (.inr (some (6, 0)))), some (.inl a1_), some (.inl i9_), some (.inl k_), some (.inl (S_.2.2.1 65 0 (3 * i9_ + k_).toNat))], [.inl 3, .inl (k_ + 2), .inl (3 * i9_), .inr (.inr (some (65, 0))), .inr (.inr (some (6, 0)))], Sx36_)) rfl ?_
            refine sm_T_bin (w := ((k_ + 2) % 3)) rfl (bi_rem (by omega) (by omega) (by omega) (by omega)) ?_ -- pc_ 138
            refine sm_T_bin (w := 3 * i9_ + ((k_ + 2) % 3)) rfl (bi_add (by omega) (by omega) (by omega)) ?_ -- pc_ 139
            refine sm_T_iald (n := 3072) rfl rfl (by omega) (by omega) ?_
            have bx41_ : (-1) ≤ Sx36_.2.2.1 65 0 (3 * i9_ + ((k_ + 2) % 3)).toNat ∧ Sx36_.2.2.1 65 0 (3 * i9_ + ((k_ + 2) % 3)).toNat ≤ 1012 := hIx37_.2 65 0 _
            refine sm_T_cal (d1 := 0) (Q1 := vq_101 (Sx36_.2.2.1 65 0 (3 * i9_ + ((k_ + 2) % 3)).toNat) (npd a1_ (S0_.2.2.1 59 0)) Sx36_) rfl rfl (by decide) (vc_101 (Sx36_.2.2.1 65 0 (3 * i9_ + ((k_ + 2) % 3)).toNat) (npd a1_ (S0_.2.2.1 59 0)) Sx36_ hIx37_ (by omega) (by omega) (by exact a123_.2.2.1) (by (rw [j123_]; intro u9_; exact mcs_a hcs_ (i_ := i9_) (k_ := (k_ + 2) % 3) (by omega) (by omega) u9_))) (fun u_ Sx42_ px45_ => ?_)
            obtain ⟨rfl, hIx43_, hFx44_, px45_⟩ := px45_
            have hFx46_ : ai_fr (sx_W vw_100) S0_ Sx42_ := ai_fr_tr hFx40_ (fr_le hFx44_ rfl)
            have a141_ := px45_
            have k141_ : Sx42_.1 6 0 11 = S_.1 6 0 11 := (hFx44_.1 6 0 11 rfl).trans k123_
            have j141_ : Sx42_.2.2.1 65 0 = S_.2.2.1 65 0 := (fr_arr hFx44_ rfl).trans j123_
            have m141_ : mcs (npd a1_ (S0_.2.2.1 59 0)) Sx42_ := by (intro c_ hc_; rw [k141_] at hc_; rw [j141_]; exact hcs_ c_ hc_)
            refine sm_T_go 1 (c1 := (145, [some (.inr (.inr (some (6, 0)))), some (.inl a1_), some (.inl i9_), some (.inl k_), some (.inl (S_.2.2.1 65 0 (3 * i9_ + k_).toNat))], [.inr (.inr (some (6, 0)))], Sx42_)) rfl ?_
            refine sm_T_cal (d1 := 0) (Q1 := vq_102 (npd a1_ (S0_.2.2.1 59 0)) Sx42_) rfl rfl (by decide) (vc_102 (npd a1_ (S0_.2.2.1 59 0)) Sx42_ hIx43_ (by omega) (by exact a141_.2.2.1) (by exact m141_)) (fun u_ Sx47_ px50_ => ?_)
            obtain ⟨rfl, hIx48_, hFx49_, px50_⟩ := px50_
            have hFx51_ : ai_fr (sx_W vw_100) S0_ Sx47_ := ai_fr_tr hFx46_ (fr_le hFx49_ rfl)
            have a145_ := px50_
            refine sm_T_inc (a := 3) (z := 1) (v := k_) (w := k_ + 1) rfl rfl (by omega) (by omega) (by omega) ?_ -- pc_ 148
            refine sm_T_go 1 (c1 := (51, [some (.inr (.inr (some (6, 0)))), some (.inl a1_), some (.inl i9_), some (.inl (k_ + 1)), some (.inl (S_.2.2.1 65 0 (3 * i9_ + k_).toNat))], [], Sx47_)) rfl ?_
            refine sm_T_wk [some (.inr (.inr (some (6, 0)))), some (.inl a1_), some (.inl i9_), some (.inl (k_ + 1)), none] (by exact ⟨rfl, rfl, rfl, rfl, trivial⟩) ?_
            refine ih_.2 i9_ (k_ + 1) Sx47_ hIx48_ hFx51_ ⟨?_, ?_, trivial⟩ ?_
            · first | omega | (have q9_ := a145_.2; omega)
            · first | exact hcs_ | exact a145_.1
            · omega
set_option maxHeartbeats 3000000 in
theorem vc_100 {sc_ : Nat × (Nat → Int)} (a1_ : Int) (dd_ : Nat) (F_ : Nat) (S0_ : sm_S) (hI_ : gi S0_) (hd_ : S0_.2.1 6 0 0 = some dd_) (hg_ : dgr dd_ F_ S0_) (hs_ : swp dd_ F_ S0_) (hk_ : mkd dd_ F_ S0_ (S0_.2.2.1 59 0)) (h1_ : (F_ : Int) ≤ a1_ ∧ a1_ < S0_.1 3 dd_ 4) (hn_ : S0_.2.2.1 59 0 a1_.toNat = 1) : sm_T (mt_P sc_) 2 100 (0, [some (.inr (.inr (some (6, 0)))), some (.inl a1_), none, none, none], [], S0_) (fun ro9_ => ∃ u_ S1_, ro9_ = (.inl u_, S1_, 0) ∧ vq_100 a1_ dd_ F_ S0_ u_ S1_) := by
  have hF_ : ai_fr (sx_W vw_100) S0_ S0_ := ai_fr_rf
  have g1_ := hg_.1
  have g2_ := hg_.2.1
  have n13_ : 0 ≤ S0_.1 3 dd_ 4 ∧ S0_.1 3 dd_ 4 ≤ 1013 := hI_.1 3 dd_ 4 rfl
  have nd0_ := nd_p hg_ hs_ hk_ n13_.2 (x_ := a1_.toNat) (by omega) (by omega) hn_
  have hIx1_ : gi (sm_pI S0_ 6 0 11 0) := gi_pI hI_ (show 0 ≤ 0 ∧ 0 ≤ 1024 from ⟨by omega, by omega⟩)
  have hFx2_ : ai_fr (sx_W vw_100) S0_ (sm_pI S0_ 6 0 11 0) := ai_fr_tr hF_ (ai_fr_pI rfl)
  have hIx3_ : gi (sm_pI (sm_pI S0_ 6 0 11 0) 6 0 13 0) := gi_pI hIx1_ (show 0 ≤ 0 ∧ 0 ≤ 4 from ⟨by omega, by omega⟩)
  have hFx4_ : ai_fr (sx_W vw_100) S0_ (sm_pI (sm_pI S0_ 6 0 11 0) 6 0 13 0) := ai_fr_tr hFx2_ (ai_fr_pI rfl)
  refine sm_T_go 9 (c1 := (13, [some (.inr (.inr (some (6, 0)))), some (.inl a1_), none, none, none], [.inl a1_, .inr (.inr (some (6, 0))), .inr (.inr (some (6, 0)))], sm_pI (sm_pI S0_ 6 0 11 0) 6 0 13 0)) rfl ?_
  refine sm_T_cal (d1 := 1) (Q1 := vq_92 a1_ dd_ (sm_pI (sm_pI S0_ 6 0 11 0) 6 0 13 0)) rfl rfl (by decide) (vc_92 a1_ dd_ (sm_pI (sm_pI S0_ 6 0 11 0) 6 0 13 0) hIx3_ (by exact (hFx4_.2.1 6 0 0 rfl).trans hd_) (by omega)) (fun u_ Sx5_ px8_ => ?_)
  obtain ⟨rfl, vx10_, rfl, px8_⟩ := px8_
  have l13_ := px8_.1
  have v13_ : vx10_ = (srp dd_ S0_ (S0_.2.2.1 42 (0 + dd_) a1_.toNat) : Int) := by (have q9_ := px8_.2 F_ (dgr_fr hg_ hFx4_ rfl rfl rfl rfl rfl) (swp_fr hs_ hFx4_ rfl rfl rfl rfl) (by omega) (by rw [hFx4_.1 3 dd_ 4 rfl]; omega); unfold srp at q9_ ⊢; rw [fr_arr (t := 44) (i := 0 + dd_) hFx4_ rfl, fr_arr (t := 42) (i := 0 + dd_) hFx4_ rfl] at q9_; exact q9_)
  have w13_ : (npd a1_ (S0_.2.2.1 59 0)) vx10_ := ⟨by omega, by omega, by (rw [show (vx10_).toNat = srp dd_ S0_ (S0_.2.2.1 42 (0 + dd_) a1_.toNat) by omega]; exact nd0_.1.2.2)⟩
  refine sm_T_cal (d1 := 0) (Q1 := vq_101 vx10_ (npd a1_ (S0_.2.2.1 59 0)) (sm_pI (sm_pI S0_ 6 0 11 0) 6 0 13 0)) rfl rfl (by decide) (vc_101 vx10_ (npd a1_ (S0_.2.2.1 59 0)) (sm_pI (sm_pI S0_ 6 0 11 0) 6 0 13 0) hIx3_ (by omega) (by (rw [rf_eq]; decide)) (by (rw [rf_eq]; exact mms_0)) (by (intro _; exact w13_))) (fun u_ Sx11_ px14_ => ?_)
  obtain ⟨rfl, hIx12_, hFx13_, px14_⟩ := px14_
  have hFx15_ : ai_fr (sx_W vw_100) S0_ Sx11_ := ai_fr_tr hFx4_ (fr_le hFx13_ rfl)
  have a16_ := px14_
  have s16_ : Sx11_.1 6 0 13 = 1 := by (have q9_ := a16_.1; have q8_ := a16_.2.1; have q7_ := a16_.2.2.2.1 (by omega); rw [rf_eq] at q9_ q8_; omega)
  have z16_ := a16_.2.2.2.2.1 ⟨by omega, by rw [rf_eq]⟩
  have k16_ : Sx11_.1 6 0 11 = 0 := hFx13_.1 6 0 11 rfl
  refine sm_T_go 3 (c1 := (22, [some (.inr (.inr (some (6, 0)))), some (.inl a1_), none, none, none], [.inl a1_, .inr (.inr (some (6, 0))), .inr (.inr (some (6, 0)))], Sx11_)) rfl ?_
  refine sm_T_cal (d1 := 1) (Q1 := vq_93 a1_ dd_ Sx11_) rfl rfl (by decide) (vc_93 a1_ dd_ Sx11_ hIx12_ (by exact (hFx15_.2.1 6 0 0 rfl).trans hd_) (by omega)) (fun u_ Sx16_ px19_ => ?_)
  obtain ⟨rfl, vx21_, rfl, px19_⟩ := px19_
  have l22_ := px19_.1
  have v22_ : vx21_ = (srp dd_ S0_ (S0_.2.2.1 43 (0 + dd_) a1_.toNat) : Int) := by (have q9_ := px19_.2 F_ (dgr_fr hg_ hFx15_ rfl rfl rfl rfl rfl) (swp_fr hs_ hFx15_ rfl rfl rfl rfl) (by omega) (by rw [hFx15_.1 3 dd_ 4 rfl]; omega); unfold srp at q9_ ⊢; rw [fr_arr (t := 44) (i := 0 + dd_) hFx15_ rfl, fr_arr (t := 43) (i := 0 + dd_) hFx15_ rfl] at q9_; exact q9_)
  have w22_ : (npd a1_ (S0_.2.2.1 59 0)) vx21_ := ⟨by omega, by omega, by (rw [show (vx21_).toNat = srp dd_ S0_ (S0_.2.2.1 43 (0 + dd_) a1_.toNat) by omega]; exact nd0_.2.1.2.2)⟩
  refine sm_T_cal (d1 := 0) (Q1 := vq_101 vx21_ (npd a1_ (S0_.2.2.1 59 0)) Sx11_) rfl rfl (by decide) (vc_101 vx21_ (npd a1_ (S0_.2.2.1 59 0)) Sx11_ hIx12_ (by omega) (by omega) (by exact a16_.2.2.1) (by (intro _; exact w22_))) (fun u_ Sx22_ px25_ => ?_)
  obtain ⟨rfl, hIx23_, hFx24_, px25_⟩ := px25_
  have hFx26_ : ai_fr (sx_W vw_100) S0_ Sx22_ := ai_fr_tr hFx15_ (fr_le hFx24_ rfl)
  have a25_ := px25_
  have s25_ : Sx22_.1 6 0 13 = 2 := a25_.2.2.2.2.2 ⟨by omega, s16_, by rw [z16_]; omega⟩
  have k25_ : Sx22_.1 6 0 11 = 0 := (hFx24_.1 6 0 11 rfl).trans k16_
  refine sm_T_go 1 (c1 := (29, [some (.inr (.inr (some (6, 0)))), some (.inl a1_), none, none, none], [.inr (.inr (some (6, 0)))], Sx22_)) rfl ?_
  refine sm_T_cal (d1 := 0) (Q1 := vq_102 (npd a1_ (S0_.2.2.1 59 0)) Sx22_) rfl rfl (by decide) (vc_102 (npd a1_ (S0_.2.2.1 59 0)) Sx22_ hIx23_ (by omega) (by exact a25_.2.2.1) (by (intro c_ hc_; exfalso; omega))) (fun u_ Sx27_ px30_ => ?_)
  obtain ⟨rfl, hIx28_, hFx29_, px30_⟩ := px30_
  have hFx31_ : ai_fr (sx_W vw_100) S0_ Sx27_ := ai_fr_tr hFx26_ (fr_le hFx29_ rfl)
  have a29_ := px30_.1
  refine sm_T_go 2 (c1 := (34, [some (.inr (.inr (some (6, 0)))), some (.inl a1_), some (.inl 0), none, none], [], Sx27_)) rfl ?_
  refine (vl_100 a1_ dd_ F_ S0_ hd_ hg_ hs_ hk_ h1_ hn_ _).1 0 Sx27_ hIx28_ hFx31_ ⟨?_, ?_, trivial⟩ (Nat.lt_succ_self _)
  · omega
  · exact a29_
end
/-! 99.zn4a -/
section
/-! roots, tables over cuts; written by wip/p55/gen/vg -/
/-! java/util/Arrays.fill -/
def vw_2r0 : sx_Wl := ([], [60], [])
def vq_2r0 (v0_ : Int) (S0_ : sm_S) (u_ : Option sm_V) (S1_ : sm_S) : Prop := u_ = none ∧ gi S1_ ∧ ai_fr (sx_W vw_2r0) S0_ S1_ ∧ (∀ j_, j_ < 1013 → S1_.2.2.1 60 0 j_ = v0_)
set_option maxHeartbeats 400000 in
theorem vl_2r0 {sc_ : Nat × (Nat → Int)} (v0_ : Int) (S0_ : sm_S) (hv_ : (-2147483648) ≤ v0_ ∧ v0_ ≤ 2147483647) : ∀ nn_ : Nat, (∀ (k_ : Int) (S_ : sm_S), gi S_ → ai_fr (sx_W vw_2r0) S0_ S_ → ((0 ≤ k_ ∧ k_ ≤ 1013) ∧ (∀ j_, j_ < k_.toNat → S_.2.2.1 60 0 j_ = v0_) ∧ True) → ((1013 - k_).toNat) < nn_ → sm_T (mt_P sc_) 0 2 (5, [some (.inr (.inr (some (60, 0)))), some (.inl v0_), some (.inl k_), some (.inl 1013)], [], S_) (fun ro9_ => ∃ u_ S1_, ro9_ = (.inl u_, S1_, 0) ∧ vq_2r0 v0_ S0_ u_ S1_)) := by
  intro nn_
  induction nn_ with
  | zero => exact fun _ _ _ _ _ h_ => absurd h_ (Nat.not_lt_zero _)
  | succ nn_ ih_ =>
    rintro k_ S_ hI_ hF_ ⟨h0_, h1_, -⟩ hm_
    refine sm_T_go 2 (c1 := (7, [some (.inr (.inr (some (60, 0)))), some (.inl v0_), some (.inl k_), some (.inl 1013)], [.inl 1013, .inl k_], S_)) rfl ?_
    refine sm_T_br (a := 3) (z := 13) rfl (fun cx1_ => ?_) (fun cx1_ => ?_)
    · have cx1_ : 1013 ≤ k_ := of_decide_eq_true cx1_
      refine sm_T_rv rfl ⟨_, _, rfl, rfl, hI_, hF_, ?_⟩
      exact fun j_ hj_ => h1_ j_ (by omega)
    · have cx1_ : ¬ (1013 ≤ k_) := of_decide_eq_false cx1_
      refine sm_T_go 3 (c1 := (13, [some (.inr (.inr (some (60, 0)))), some (.inl v0_), some (.inl k_), some (.inl 1013)], [.inl v0_, .inl k_, .inr (.inr (some (60, 0)))], S_)) rfl ?_
      refine sm_T_iast (n := 1013) rfl rfl (by omega) (by omega) ?_
      have hIx2_ : gi (sm_aI S_ 60 0 k_.toNat v0_) := gi_aI hI_ (show (-2147483648) ≤ v0_ ∧ v0_ ≤ 2147483647 from ⟨by omega, by omega⟩)
      have hFx3_ : ai_fr (sx_W vw_2r0) S0_ (sm_aI S_ 60 0 k_.toNat v0_) := ai_fr_tr hF_ (ai_fr_aI rfl)
      refine sm_T_inc (a := 2) (z := 1) (v := k_) (w := k_ + 1) rfl rfl (by omega) (by omega) (by omega) ?_ -- pc_ 14
      refine sm_T_go 1 (c1 := (5, [some (.inr (.inr (some (60, 0)))), some (.inl v0_), some (.inl (k_ + 1)), some (.inl 1013)], [], sm_aI S_ 60 0 k_.toNat v0_)) rfl ?_
      refine ih_ (k_ + 1) (sm_aI S_ 60 0 k_.toNat v0_) hIx2_ hFx3_ ⟨?_, ?_, trivial⟩ ?_
      · omega
      · intro j_ hj_
        rw [rd_eq]
        by_cases z_ : j_ = k_.toNat
        · rw [if_pos z_]
        · rw [if_neg z_]; exact h1_ j_ (by omega)
      · omega
set_option maxHeartbeats 400000 in
theorem vc_2r0 {sc_ : Nat × (Nat → Int)} (v0_ : Int) (S0_ : sm_S) (hI_ : gi S0_) (hv_ : (-2147483648) ≤ v0_ ∧ v0_ ≤ 2147483647) : sm_T (mt_P sc_) 0 2 (0, [some (.inr (.inr (some (60, 0)))), some (.inl v0_), none, none], [], S0_) (fun ro9_ => ∃ u_ S1_, ro9_ = (.inl u_, S1_, 0) ∧ vq_2r0 v0_ S0_ u_ S1_) := by
  have hF_ : ai_fr (sx_W vw_2r0) S0_ S0_ := ai_fr_rf
  refine sm_T_go 5 (c1 := (5, [some (.inr (.inr (some (60, 0)))), some (.inl v0_), some (.inl 0), some (.inl 1013)], [], S0_)) rfl ?_
  refine (vl_2r0 v0_ S0_ hv_ _) 0 S0_ hI_ hF_ ⟨?_, ?_, trivial⟩ (Nat.lt_succ_self _)
  · omega
  · (intro j_ hj_; exact absurd hj_ (Nat.not_lt_zero _))

theorem rtv_b {dd_ F_ : Nat} {S_ : sm_S} {i_ : Int} (hr_ : drt dd_ S_) (hs_ : swp dd_ F_ S_) (h0_ : 0 ≤ i_) (h1_ : i_ < S_.1 3 dd_ 3 + S_.1 3 dd_ 2) : (0 ≤ rtv dd_ S_ i_ ∧ rtv dd_ S_ i_ < 2 * S_.1 3 dd_ 4) ∧ (srp dd_ S_ (rtv dd_ S_ i_) : Int) < S_.1 3 dd_ 4 := by
  have a_ : 0 ≤ rtv dd_ S_ i_ ∧ rtv dd_ S_ i_ < 2 * S_.1 3 dd_ 4 := by
    unfold rtv
    split
    · exact hr_.2.1 i_.toNat (by omega)
    · exact hr_.2.2 (i_ - S_.1 3 dd_ 3).toNat (by omega)
  have b_ := srp_b hs_ a_.1 a_.2
  exact ⟨a_, by omega⟩
end
/-! 99.zn4b -/
section
/-! Mapper.findRoots -/
def vw_95 : sx_Wl := ([], [60], [])
def vq_95 (dd_ : Nat) (F_ : Nat) (S0_ : sm_S) (u_ : Option sm_V) (S1_ : sm_S) : Prop := u_ = none ∧ gi S1_ ∧ ai_fr (sx_W vw_95) S0_ S1_ ∧ (∀ i_ : Int, 0 ≤ i_ → i_ < S0_.1 3 dd_ 3 + S0_.1 3 dd_ 2 → S1_.2.2.1 60 0 (srp dd_ S0_ (rtv dd_ S0_ i_)) ≠ 0)
set_option maxHeartbeats 3000000 in
theorem vl_95 {sc_ : Nat × (Nat → Int)} (dd_ : Nat) (F_ : Nat) (S0_ : sm_S) (hd_ : S0_.2.1 6 0 0 = some dd_) (hr_ : drt dd_ S0_) (hg_ : dgr dd_ F_ S0_) (hs_ : swp dd_ F_ S0_) : ∀ nn_ : Nat, (∀ (k_ : Int) (S_ : sm_S), gi S_ → ai_fr (sx_W vw_95) S0_ S_ → ((0 ≤ k_ ∧ k_ ≤ S0_.1 3 dd_ 3 + S0_.1 3 dd_ 2) ∧ (∀ j_ : Nat, j_ < 1013 → 0 ≤ S_.2.2.1 60 0 j_ ∧ S_.2.2.1 60 0 j_ ≤ 2 * k_) ∧ (∀ i_ : Int, 0 ≤ i_ → i_ < k_ → 2 ≤ S_.2.2.1 60 0 (srp dd_ S0_ (rtv dd_ S0_ i_))) ∧ True) → ((9000 - k_).toNat) < nn_ → sm_T (mt_P sc_) 2 95 (10, [some (.inr (.inr (some (6, 0)))), some (.inl k_)], [], S_) (fun ro9_ => ∃ u_ S1_, ro9_ = (.inl u_, S1_, 0) ∧ vq_95 dd_ F_ S0_ u_ S1_)) ∧ (∀ (n_ : Int) (S_ : sm_S), gi S_ → ai_fr (sx_W vw_95) S0_ S_ → ((0 ≤ n_ ∧ n_ ≤ 1013) ∧ (∀ j_ : Nat, j_ < 1013 → 0 ≤ S_.2.2.1 60 0 j_ ∧ S_.2.2.1 60 0 j_ ≤ 100 + 2 * n_) ∧ (∀ i_ : Int, 0 ≤ i_ → i_ < S0_.1 3 dd_ 3 + S0_.1 3 dd_ 2 → 2 ≤ S_.2.2.1 60 0 (srp dd_ S0_ (rtv dd_ S0_ i_))) ∧ True) → ((5000 - n_).toNat) < nn_ → sm_T (mt_P sc_) 2 95 (61, [some (.inr (.inr (some (6, 0)))), some (.inl n_)], [], S_) (fun ro9_ => ∃ u_ S1_, ro9_ = (.inl u_, S1_, 0) ∧ vq_95 dd_ F_ S0_ u_ S1_)) ∧ (∀ (n_ : Int) (S_ : sm_S), gi S_ → ai_fr (sx_W vw_95) S0_ S_ → ((0 ≤ n_ ∧ n_ ≤ 1013) ∧ (∀ i_ : Int, 0 ≤ i_ → i_ < S0_.1 3 dd_ 3 + S0_.1 3 dd_ 2 → imq ((srp dd_ S0_ (rtv dd_ S0_ i_) : Int) < n_) (S_.2.2.1 60 0 (srp dd_ S0_ (rtv dd_ S0_ i_)) = 1) ∧ imq (n_ ≤ (srp dd_ S0_ (rtv dd_ S0_ i_) : Int)) (2 ≤ S_.2.2.1 60 0 (srp dd_ S0_ (rtv dd_ S0_ i_)))) ∧ True) → ((2000 - n_).toNat) < nn_ → sm_T (mt_P sc_) 2 95 (117, [some (.inr (.inr (some (6, 0)))), some (.inl n_)], [], S_) (fun ro9_ => ∃ u_ S1_, ro9_ = (.inl u_, S1_, 0) ∧ vq_95 dd_ F_ S0_ u_ S1_)) := by
  intro nn_
  induction nn_ with
  | zero => exact ⟨fun _ _ _ _ _ h_ => absurd h_ (Nat.not_lt_zero _), fun _ _ _ _ _ h_ => absurd h_ (Nat.not_lt_zero _), fun _ _ _ _ _ h_ => absurd h_ (Nat.not_lt_zero _)⟩
  | succ nn_ ih_ =>
    refine ⟨?_, ?_, ?_⟩
    · rintro k_ S_ hI_ hF_ ⟨h0_, hb_, hq_, -⟩ hm_
      have r1_ := hr_.1
      have c1_ : 0 ≤ S_.1 3 dd_ 1 ∧ S_.1 3 dd_ 1 ≤ 320 := hI_.1 3 dd_ 1 rfl
      have n13_ : 0 ≤ S_.1 3 dd_ 4 ∧ S_.1 3 dd_ 4 ≤ 1013 := hI_.1 3 dd_ 4 rfl
      have f1_ : S_.1 3 dd_ 1 = S0_.1 3 dd_ 1 := hF_.1 3 dd_ 1 rfl
      have f2_ : S_.1 3 dd_ 2 = S0_.1 3 dd_ 2 := hF_.1 3 dd_ 2 rfl
      have f3_ : S_.1 3 dd_ 3 = S0_.1 3 dd_ 3 := hF_.1 3 dd_ 3 rfl
      have f4_ : S_.1 3 dd_ 4 = S0_.1 3 dd_ 4 := hF_.1 3 dd_ 4 rfl
      have g1_ := hg_.1
      have f44_ : S_.2.2.1 44 (0 + dd_) = S0_.2.2.1 44 (0 + dd_) := fr_arr hF_ rfl
      have f45_ : S_.2.2.1 45 (0 + dd_) = S0_.2.2.1 45 (0 + dd_) := fr_arr hF_ rfl
      have f46_ : S_.2.2.1 46 (0 + dd_) = S0_.2.2.1 46 (0 + dd_) := fr_arr hF_ rfl
      refine sm_T_go 2 (c1 := (12, [some (.inr (.inr (some (6, 0)))), some (.inl k_)], [.inr (.inr (some (6, 0))), .inl k_], S_)) rfl ?_
      refine sm_T_gr rfl rfl ((hF_.2.1 6 0 0 rfl).trans hd_) ?_
      refine sm_T_cal (d1 := 0) (Q1 := vq_66 dd_ S_) rfl rfl (by decide) (vc_66 dd_ S_ hI_ (by omega)) (fun u_ Sx1_ px4_ => ?_)
      obtain ⟨rfl, vx6_, rfl, px4_⟩ := px4_
      have r15_ := px4_
      refine sm_T_br (a := 3) (z := 35) rfl (fun cx7_ => ?_) (fun cx7_ => ?_)
      · have cx7_ : vx6_ ≤ k_ := of_decide_eq_true cx7_
        refine sm_T_go 1 (c1 := (54, [some (.inr (.inr (some (6, 0)))), some (.inl k_)], [.inr (.inr (some (6, 0)))], S_)) rfl ?_
        refine sm_T_gr rfl rfl ((hF_.2.1 6 0 0 rfl).trans hd_) ?_
        refine sm_T_cal (d1 := 0) (Q1 := vq_63 dd_ S_) rfl rfl (by decide) (vc_63 dd_ S_ hI_ (by omega)) (fun u_ Sx8_ px11_ => ?_)
        obtain ⟨rfl, vx13_, rfl, px11_⟩ := px11_
        have a57_ := px11_
        refine sm_T_go 1 (c1 := (61, [some (.inr (.inr (some (6, 0)))), some (.inl vx13_)], [], S_)) rfl ?_
        refine ih_.2.1 vx13_ S_ hI_ hF_ ⟨?_, ?_, ?_, trivial⟩ ?_
        · omega
        · (intro j_ hj_; have w9_ := hb_ j_ hj_; omega)
        · (intro i_ u_ w_; exact hq_ i_ u_ (by omega))
        · omega
      · have cx7_ : ¬ (vx6_ ≤ k_) := of_decide_eq_false cx7_
        refine sm_T_go 3 (c1 := (26, [some (.inr (.inr (some (6, 0)))), some (.inl k_)], [.inr (.inr (some (6, 0))), .inr (.inr (some (60, 0)))], S_)) rfl ?_
        refine sm_T_gr rfl rfl ((hF_.2.1 6 0 0 rfl).trans hd_) ?_
        refine sm_T_go 1 (c1 := (30, [some (.inr (.inr (some (6, 0)))), some (.inl k_)], [.inr (.inr (some (6, 0))), .inr (.inr (some (3, dd_))), .inr (.inr (some (60, 0)))], S_)) rfl ?_
        refine sm_T_gr rfl rfl ((hF_.2.1 6 0 0 rfl).trans hd_) ?_
        refine sm_T_go 1 (c1 := (34, [some (.inr (.inr (some (6, 0)))), some (.inl k_)], [.inl k_, .inr (.inr (some (3, dd_))), .inr (.inr (some (3, dd_))), .inr (.inr (some (60, 0)))], S_)) rfl ?_
        refine sm_T_cal (d1 := 0) (Q1 := vq_65 k_ dd_ S_) rfl rfl (by decide) (vc_65 k_ dd_ S_ hI_ (by exact drt_fr hr_ hF_ rfl rfl rfl rfl rfl) (by omega)) (fun u_ Sx14_ px17_ => ?_)
        obtain ⟨rfl, vx19_, rfl, px17_⟩ := px17_
        have t34_ := px17_
        have v34_ : vx19_ = rtv dd_ S0_ k_ := by (rw [t34_.1]; unfold rtv; rw [f3_, f45_, f46_])
        refine sm_T_cal (d1 := 0) (Q1 := vq_64 vx19_ dd_ S_) rfl rfl (by decide) (vc_64 vx19_ dd_ S_ hI_ (by omega)) (fun u_ Sx20_ px23_ => ?_)
        obtain ⟨rfl, vx25_, rfl, px23_⟩ := px23_
        have e37_ := px23_
        have x37_ : 0 ≤ vx25_ ∧ vx25_ ≤ 2025 := by (rw [e37_]; exact swx (hI_.2 44 (0 + dd_) _) (by omega))
        rw [f44_, v34_] at e37_
        have rb9_ := (rtv_b hr_ hs_ h0_.1 (show k_ < S0_.1 3 dd_ 3 + S0_.1 3 dd_ 2 by omega)).1
        have sw9_ := swl_n hs_ (l_ := rtv dd_ S0_ k_) rb9_.1 rb9_.2 (by omega)
        rw [← e37_] at sw9_
        have tn9_ : (vx25_ / 2).toNat = srp dd_ S0_ (rtv dd_ S0_ k_) := by omega
        have hb9_ := hb_ (vx25_ / 2).toNat (by omega)
        refine sm_T_go 1 (c1 := (41, [some (.inr (.inr (some (6, 0)))), some (.inl k_)], [.inl 1, .inl vx25_, .inr (.inr (some (60, 0)))], S_)) rfl ?_
        refine sm_T_bin (w := (vx25_ / 2)) rfl (bi_shr (k := 1) (by decide) (by omega) (by omega)) ?_ -- pc_ 41
        refine sm_T_go 1 (c1 := (43, [some (.inr (.inr (some (6, 0)))), some (.inl k_)], [.inl (vx25_ / 2), .inr (.inr (some (60, 0))), .inl (vx25_ / 2), .inr (.inr (some (60, 0)))], S_)) rfl ?_
        refine sm_T_iald (n := 1013) rfl rfl (by omega) (by omega) ?_
        have bx26_ : (-2147483648) ≤ S_.2.2.1 60 0 (vx25_ / 2).toNat ∧ S_.2.2.1 60 0 (vx25_ / 2).toNat ≤ 2147483647 := hI_.2 60 0 _
        refine sm_T_go 1 (c1 := (45, [some (.inr (.inr (some (6, 0)))), some (.inl k_)], [.inl 2, .inl (S_.2.2.1 60 0 (vx25_ / 2).toNat), .inl (vx25_ / 2), .inr (.inr (some (60, 0)))], S_)) rfl ?_
        refine sm_T_bin (w := (S_.2.2.1 60 0 (vx25_ / 2).toNat) + 2) rfl (bi_add (by omega) (by omega) (by omega)) ?_ -- pc_ 45
        refine sm_T_iast (n := 1013) rfl rfl (by omega) (by omega) ?_
        have hIx27_ : gi (sm_aI S_ 60 0 (vx25_ / 2).toNat ((S_.2.2.1 60 0 (vx25_ / 2).toNat) + 2)) := gi_aI hI_ (show (-2147483648) ≤ (S_.2.2.1 60 0 (vx25_ / 2).toNat) + 2 ∧ (S_.2.2.1 60 0 (vx25_ / 2).toNat) + 2 ≤ 2147483647 from ⟨by omega, by omega⟩)
        have hFx28_ : ai_fr (sx_W vw_95) S0_ (sm_aI S_ 60 0 (vx25_ / 2).toNat ((S_.2.2.1 60 0 (vx25_ / 2).toNat) + 2)) := ai_fr_tr hF_ (ai_fr_aI rfl)
        refine sm_T_inc (a := 1) (z := 1) (v := k_) (w := k_ + 1) rfl rfl (by omega) (by omega) (by omega) ?_ -- pc_ 47
        refine sm_T_go 1 (c1 := (10, [some (.inr (.inr (some (6, 0)))), some (.inl (k_ + 1))], [], sm_aI S_ 60 0 (vx25_ / 2).toNat ((S_.2.2.1 60 0 (vx25_ / 2).toNat) + 2))) rfl ?_
        refine ih_.1 (k_ + 1) (sm_aI S_ 60 0 (vx25_ / 2).toNat ((S_.2.2.1 60 0 (vx25_ / 2).toNat) + 2)) hIx27_ hFx28_ ⟨?_, ?_, ?_, trivial⟩ ?_
        · omega
        · intro j_ hj_
          rw [rd_eq]
          have w9_ := hb_ j_ hj_
          split
          · omega
          · omega
        · intro i_ u_ w_
          rw [rd_eq]
          by_cases y_ : i_ = k_
          · rw [if_pos (by rw [y_, tn9_])]; omega
          · have w8_ := hq_ i_ u_ (by omega)
            split
            · omega
            · exact w8_
        · omega
    · rintro n_ S_ hI_ hF_ ⟨h0_, hb_, hq_, -⟩ hm_
      have r1_ := hr_.1
      have c1_ : 0 ≤ S_.1 3 dd_ 1 ∧ S_.1 3 dd_ 1 ≤ 320 := hI_.1 3 dd_ 1 rfl
      have n13_ : 0 ≤ S_.1 3 dd_ 4 ∧ S_.1 3 dd_ 4 ≤ 1013 := hI_.1 3 dd_ 4 rfl
      have f1_ : S_.1 3 dd_ 1 = S0_.1 3 dd_ 1 := hF_.1 3 dd_ 1 rfl
      have f2_ : S_.1 3 dd_ 2 = S0_.1 3 dd_ 2 := hF_.1 3 dd_ 2 rfl
      have f3_ : S_.1 3 dd_ 3 = S0_.1 3 dd_ 3 := hF_.1 3 dd_ 3 rfl
      have f4_ : S_.1 3 dd_ 4 = S0_.1 3 dd_ 4 := hF_.1 3 dd_ 4 rfl
      have g1_ := hg_.1
      have f44_ : S_.2.2.1 44 (0 + dd_) = S0_.2.2.1 44 (0 + dd_) := fr_arr hF_ rfl
      have f45_ : S_.2.2.1 45 (0 + dd_) = S0_.2.2.1 45 (0 + dd_) := fr_arr hF_ rfl
      have f46_ : S_.2.2.1 46 (0 + dd_) = S0_.2.2.1 46 (0 + dd_) := fr_arr hF_ rfl
      refine sm_T_go 2 (c1 := (63, [some (.inr (.inr (some (6, 0)))), some (.inl n_)], [.inr (.inr (some (6, 0))), .inl n_], S_)) rfl ?_
      refine sm_T_gr rfl rfl ((hF_.2.1 6 0 0 rfl).trans hd_) ?_
      have bx1_ : 0 ≤ S_.1 3 dd_ 4 ∧ S_.1 3 dd_ 4 ≤ 1013 := hI_.1 3 dd_ 4 rfl
      refine sm_T_go 1 (c1 := (69, [some (.inr (.inr (some (6, 0)))), some (.inl n_)], [.inl (S_.1 3 dd_ 4), .inl n_], S_)) rfl ?_
      refine sm_T_br (a := 3) (z := 46) rfl (fun cx2_ => ?_) (fun cx2_ => ?_)
      · have cx2_ : (S_.1 3 dd_ 4) ≤ n_ := of_decide_eq_true cx2_
        refine sm_T_go 2 (c1 := (117, [some (.inr (.inr (some (6, 0)))), some (.inl 0)], [], S_)) rfl ?_
        refine ih_.2.2 0 S_ hI_ hF_ ⟨?_, ?_, trivial⟩ ?_
        · omega
        · intro i_ u_ w_
          exact ⟨fun q9_ => by (exfalso; omega), fun _ => hq_ i_ u_ w_⟩
        · omega
      · have cx2_ : ¬ ((S_.1 3 dd_ 4) ≤ n_) := of_decide_eq_false cx2_
        refine sm_T_go 3 (c1 := (77, [some (.inr (.inr (some (6, 0)))), some (.inl n_)], [.inl n_, .inr (.inr (some (59, 0)))], S_)) rfl ?_
        refine sm_T_iald (n := 1013) rfl rfl (by omega) (by omega) ?_
        have bx3_ : 0 ≤ S_.2.2.1 59 0 n_.toNat ∧ S_.2.2.1 59 0 n_.toNat ≤ 1 := hI_.2 59 0 _
        refine sm_T_b0 (a := 0) (z := 31) rfl (fun cx4_ => ?_) (fun cx4_ => ?_)
        · have cx4_ : (S_.2.2.1 59 0 n_.toNat) = 0 := of_decide_eq_true cx4_
          refine sm_T_inc (a := 1) (z := 1) (v := n_) (w := n_ + 1) rfl rfl (by omega) (by omega) (by omega) ?_ -- pc_ 109
          refine sm_T_go 1 (c1 := (61, [some (.inr (.inr (some (6, 0)))), some (.inl (n_ + 1))], [], S_)) rfl ?_
          refine ih_.2.1 (n_ + 1) S_ hI_ hF_ ⟨?_, ?_, ?_, trivial⟩ ?_
          · omega
          · first | (intro j_ hj_; rw [rd_eq]; have w9_ := hb6_ j_ hj_; split; (omega); (omega)) | (intro j_ hj_; have w9_ := hb_ j_ hj_; omega)
          · first | exact hq_ | (intro i_ u_ w_; rw [rd_eq]; have w9_ := hq6_ _ (hq_ i_ u_ w_); split; (rename_i z9_; rw [z9_] at w9_; omega); (exact w9_))
          · omega
        · have cx4_ : ¬ ((S_.2.2.1 59 0 n_.toNat) = 0) := of_decide_eq_false cx4_
          refine sm_T_go 4 (c1 := (87, [some (.inr (.inr (some (6, 0)))), some (.inl n_)], [.inl n_, .inr (.inr (some (6, 0))), .inr (.inr (some (60, 0)))], S_)) rfl ?_
          refine sm_T_cal (d1 := 1) (Q1 := vq_92 n_ dd_ S_) rfl rfl (by decide) (vc_92 n_ dd_ S_ hI_ (by exact (hF_.2.1 6 0 0 rfl).trans hd_) (by omega)) (fun u_ Sx5_ px8_ => ?_)
          obtain ⟨rfl, vx10_, rfl, px8_⟩ := px8_
          have l87_ := px8_.1
          have hb8_ := hb_ (vx10_).toNat (by omega)
          refine sm_T_go 1 (c1 := (91, [some (.inr (.inr (some (6, 0)))), some (.inl n_)], [.inl vx10_, .inr (.inr (some (60, 0))), .inl vx10_, .inr (.inr (some (60, 0)))], S_)) rfl ?_
          refine sm_T_iald (n := 1013) rfl rfl (by omega) (by omega) ?_
          have bx11_ : (-2147483648) ≤ S_.2.2.1 60 0 vx10_.toNat ∧ S_.2.2.1 60 0 vx10_.toNat ≤ 2147483647 := hI_.2 60 0 _
          refine sm_T_go 1 (c1 := (93, [some (.inr (.inr (some (6, 0)))), some (.inl n_)], [.inl 1, .inl (S_.2.2.1 60 0 vx10_.toNat), .inl vx10_, .inr (.inr (some (60, 0)))], S_)) rfl ?_
          refine sm_T_bin (w := (S_.2.2.1 60 0 vx10_.toNat) + 1) rfl (bi_add (by omega) (by omega) (by omega)) ?_ -- pc_ 93
          refine sm_T_iast (n := 1013) rfl rfl (by omega) (by omega) ?_
          have hIx12_ : gi (sm_aI S_ 60 0 vx10_.toNat ((S_.2.2.1 60 0 vx10_.toNat) + 1)) := gi_aI hI_ (show (-2147483648) ≤ (S_.2.2.1 60 0 vx10_.toNat) + 1 ∧ (S_.2.2.1 60 0 vx10_.toNat) + 1 ≤ 2147483647 from ⟨by omega, by omega⟩)
          have hFx13_ : ai_fr (sx_W vw_95) S0_ (sm_aI S_ 60 0 vx10_.toNat ((S_.2.2.1 60 0 vx10_.toNat) + 1)) := ai_fr_tr hF_ (ai_fr_aI rfl)
          refine sm_T_go 4 (c1 := (101, [some (.inr (.inr (some (6, 0)))), some (.inl n_)], [.inl n_, .inr (.inr (some (6, 0))), .inr (.inr (some (60, 0)))], sm_aI S_ 60 0 vx10_.toNat ((S_.2.2.1 60 0 vx10_.toNat) + 1))) rfl ?_
          refine sm_T_cal (d1 := 1) (Q1 := vq_93 n_ dd_ (sm_aI S_ 60 0 vx10_.toNat ((S_.2.2.1 60 0 vx10_.toNat) + 1))) rfl rfl (by decide) (vc_93 n_ dd_ (sm_aI S_ 60 0 vx10_.toNat ((S_.2.2.1 60 0 vx10_.toNat) + 1)) hIx12_ (by exact (hFx13_.2.1 6 0 0 rfl).trans hd_) (by omega)) (fun u_ Sx14_ px17_ => ?_)
          obtain ⟨rfl, vx19_, rfl, px17_⟩ := px17_
          have l101_ := px17_.1
          have hb6_ : ∀ j_ : Nat, j_ < 1013 → 0 ≤ (sm_aI S_ 60 0 vx10_.toNat ((S_.2.2.1 60 0 vx10_.toNat) + 1)).2.2.1 60 0 j_ ∧ (sm_aI S_ 60 0 vx10_.toNat ((S_.2.2.1 60 0 vx10_.toNat) + 1)).2.2.1 60 0 j_ ≤ 101 + 2 * n_ := by (intro j_ hj_; rw [rd_eq]; have w9_ := hb_ j_ hj_; split; (omega); (omega))
          have hb7_ := hb6_ (vx19_).toNat (by omega)
          have hq6_ : ∀ j_ : Nat, 2 ≤ S_.2.2.1 60 0 j_ → 2 ≤ (sm_aI S_ 60 0 vx10_.toNat ((S_.2.2.1 60 0 vx10_.toNat) + 1)).2.2.1 60 0 j_ := by (intro j_ hj_; rw [rd_eq]; split; (rename_i z9_; rw [z9_] at hj_; omega); (omega))
          refine sm_T_go 1 (c1 := (105, [some (.inr (.inr (some (6, 0)))), some (.inl n_)], [.inl vx19_, .inr (.inr (some (60, 0))), .inl vx19_, .inr (.inr (some (60, 0)))], sm_aI S_ 60 0 vx10_.toNat ((S_.2.2.1 60 0 vx10_.toNat) + 1))) rfl ?_
          refine sm_T_iald (n := 1013) rfl rfl (by omega) (by omega) ?_
          have bx20_ : (-2147483648) ≤ (sm_aI S_ 60 0 vx10_.toNat ((S_.2.2.1 60 0 vx10_.toNat) + 1)).2.2.1 60 0 vx19_.toNat ∧ (sm_aI S_ 60 0 vx10_.toNat ((S_.2.2.1 60 0 vx10_.toNat) + 1)).2.2.1 60 0 vx19_.toNat ≤ 2147483647 := hIx12_.2 60 0 _
          refine sm_T_go 1 (c1 := (107, [some (.inr (.inr (some (6, 0)))), some (.inl n_)], [.inl 1, .inl ((sm_aI S_ 60 0 vx10_.toNat ((S_.2.2.1 60 0 vx10_.toNat) + 1)).2.2.1 60 0 vx19_.toNat), .inl vx19_, .inr (.inr (some (60, 0)))], sm_aI S_ 60 0 vx10_.toNat ((S_.2.2.1 60 0 vx10_.toNat) + 1))) rfl ?_
          refine sm_T_bin (w := ((sm_aI S_ 60 0 vx10_.toNat ((S_.2.2.1 60 0 vx10_.toNat) + 1)).2.2.1 60 0 vx19_.toNat) + 1) rfl (bi_add (by omega) (by omega) (by omega)) ?_ -- pc_ 107
          refine sm_T_iast (n := 1013) rfl rfl (by omega) (by omega) ?_
          have hIx21_ : gi (sm_aI (sm_aI S_ 60 0 vx10_.toNat ((S_.2.2.1 60 0 vx10_.toNat) + 1)) 60 0 vx19_.toNat (((sm_aI S_ 60 0 vx10_.toNat ((S_.2.2.1 60 0 vx10_.toNat) + 1)).2.2.1 60 0 vx19_.toNat) + 1)) := gi_aI hIx12_ (show (-2147483648) ≤ ((sm_aI S_ 60 0 vx10_.toNat ((S_.2.2.1 60 0 vx10_.toNat) + 1)).2.2.1 60 0 vx19_.toNat) + 1 ∧ ((sm_aI S_ 60 0 vx10_.toNat ((S_.2.2.1 60 0 vx10_.toNat) + 1)).2.2.1 60 0 vx19_.toNat) + 1 ≤ 2147483647 from ⟨by omega, by omega⟩)
          have hFx22_ : ai_fr (sx_W vw_95) S0_ (sm_aI (sm_aI S_ 60 0 vx10_.toNat ((S_.2.2.1 60 0 vx10_.toNat) + 1)) 60 0 vx19_.toNat (((sm_aI S_ 60 0 vx10_.toNat ((S_.2.2.1 60 0 vx10_.toNat) + 1)).2.2.1 60 0 vx19_.toNat) + 1)) := ai_fr_tr hFx13_ (ai_fr_aI rfl)
          refine sm_T_inc (a := 1) (z := 1) (v := n_) (w := n_ + 1) rfl rfl (by omega) (by omega) (by omega) ?_ -- pc_ 109
          refine sm_T_go 1 (c1 := (61, [some (.inr (.inr (some (6, 0)))), some (.inl (n_ + 1))], [], sm_aI (sm_aI S_ 60 0 vx10_.toNat ((S_.2.2.1 60 0 vx10_.toNat) + 1)) 60 0 vx19_.toNat (((sm_aI S_ 60 0 vx10_.toNat ((S_.2.2.1 60 0 vx10_.toNat) + 1)).2.2.1 60 0 vx19_.toNat) + 1))) rfl ?_
          refine ih_.2.1 (n_ + 1) (sm_aI (sm_aI S_ 60 0 vx10_.toNat ((S_.2.2.1 60 0 vx10_.toNat) + 1)) 60 0 vx19_.toNat (((sm_aI S_ 60 0 vx10_.toNat ((S_.2.2.1 60 0 vx10_.toNat) + 1)).2.2.1 60 0 vx19_.toNat) + 1)) hIx21_ hFx22_ ⟨?_, ?_, ?_, trivial⟩ ?_
          · omega
          · first | (intro j_ hj_; rw [rd_eq]; have w9_ := hb6_ j_ hj_; split; (omega); (omega)) | (intro j_ hj_; have w9_ := hb_ j_ hj_; omega)
          · first | exact hq_ | (intro i_ u_ w_; rw [rd_eq]; have w9_ := hq6_ _ (hq_ i_ u_ w_); split; (rename_i z9_; rw [z9_] at w9_; omega); (exact w9_))
          · omega
    · rintro n_ S_ hI_ hF_ ⟨h0_, hq2_, -⟩ hm_
      have r1_ := hr_.1
      have c1_ : 0 ≤ S_.1 3 dd_ 1 ∧ S_.1 3 dd_ 1 ≤ 320 := hI_.1 3 dd_ 1 rfl
      have n13_ : 0 ≤ S_.1 3 dd_ 4 ∧ S_.1 3 dd_ 4 ≤ 1013 := hI_.1 3 dd_ 4 rfl
      have f1_ : S_.1 3 dd_ 1 = S0_.1 3 dd_ 1 := hF_.1 3 dd_ 1 rfl
      have f2_ : S_.1 3 dd_ 2 = S0_.1 3 dd_ 2 := hF_.1 3 dd_ 2 rfl
      have f3_ : S_.1 3 dd_ 3 = S0_.1 3 dd_ 3 := hF_.1 3 dd_ 3 rfl
      have f4_ : S_.1 3 dd_ 4 = S0_.1 3 dd_ 4 := hF_.1 3 dd_ 4 rfl
      have g1_ := hg_.1
      have f44_ : S_.2.2.1 44 (0 + dd_) = S0_.2.2.1 44 (0 + dd_) := fr_arr hF_ rfl
      have f45_ : S_.2.2.1 45 (0 + dd_) = S0_.2.2.1 45 (0 + dd_) := fr_arr hF_ rfl
      have f46_ : S_.2.2.1 46 (0 + dd_) = S0_.2.2.1 46 (0 + dd_) := fr_arr hF_ rfl
      refine sm_T_go 2 (c1 := (119, [some (.inr (.inr (some (6, 0)))), some (.inl n_)], [.inr (.inr (some (6, 0))), .inl n_], S_)) rfl ?_
      refine sm_T_gr rfl rfl ((hF_.2.1 6 0 0 rfl).trans hd_) ?_
      have bx1_ : 0 ≤ S_.1 3 dd_ 4 ∧ S_.1 3 dd_ 4 ≤ 1013 := hI_.1 3 dd_ 4 rfl
      refine sm_T_go 1 (c1 := (125, [some (.inr (.inr (some (6, 0)))), some (.inl n_)], [.inl (S_.1 3 dd_ 4), .inl n_], S_)) rfl ?_
      refine sm_T_br (a := 3) (z := 30) rfl (fun cx2_ => ?_) (fun cx2_ => ?_)
      · have cx2_ : (S_.1 3 dd_ 4) ≤ n_ := of_decide_eq_true cx2_
        refine sm_T_rv rfl ⟨_, _, rfl, rfl, hI_, hF_, ?_⟩
        intro i_ u_ w_
        have z9_ := (hq2_ i_ u_ w_).1
        have zb_ := (rtv_b hr_ hs_ u_ w_).2
        have z7_ := z9_ (by omega)
        omega
      · have cx2_ : ¬ ((S_.1 3 dd_ 4) ≤ n_) := of_decide_eq_false cx2_
        refine sm_T_go 6 (c1 := (138, [some (.inr (.inr (some (6, 0)))), some (.inl n_)], [.inl n_, .inr (.inr (some (60, 0))), .inl n_, .inr (.inr (some (60, 0)))], S_)) rfl ?_
        refine sm_T_iald (n := 1013) rfl rfl (by omega) (by omega) ?_
        have bx3_ : (-2147483648) ≤ S_.2.2.1 60 0 n_.toNat ∧ S_.2.2.1 60 0 n_.toNat ≤ 2147483647 := hI_.2 60 0 _
        refine sm_T_go 1 (c1 := (140, [some (.inr (.inr (some (6, 0)))), some (.inl n_)], [.inl 1, .inl (S_.2.2.1 60 0 n_.toNat), .inl n_, .inr (.inr (some (60, 0)))], S_)) rfl ?_
        refine sm_T_br (a := 5) (z := 7) rfl (fun cx4_ => ?_) (fun cx4_ => ?_)
        · have cx4_ : (S_.2.2.1 60 0 n_.toNat) ≤ 1 := of_decide_eq_true cx4_
          refine sm_T_go 1 (c1 := (148, [some (.inr (.inr (some (6, 0)))), some (.inl n_)], [.inl 0, .inl n_, .inr (.inr (some (60, 0)))], S_)) rfl ?_
          refine sm_T_iast (n := 1013) rfl rfl (by omega) (by omega) ?_
          have hIx5_ : gi (sm_aI S_ 60 0 n_.toNat 0) := gi_aI hI_ (show (-2147483648) ≤ 0 ∧ 0 ≤ 2147483647 from ⟨by omega, by omega⟩)
          have hFx6_ : ai_fr (sx_W vw_95) S0_ (sm_aI S_ 60 0 n_.toNat 0) := ai_fr_tr hF_ (ai_fr_aI rfl)
          refine sm_T_inc (a := 1) (z := 1) (v := n_) (w := n_ + 1) rfl rfl (by omega) (by omega) (by omega) ?_ -- pc_ 149
          refine sm_T_go 1 (c1 := (117, [some (.inr (.inr (some (6, 0)))), some (.inl (n_ + 1))], [], sm_aI S_ 60 0 n_.toNat 0)) rfl ?_
          refine ih_.2.2 (n_ + 1) (sm_aI S_ 60 0 n_.toNat 0) hIx5_ hFx6_ ⟨?_, ?_, trivial⟩ ?_
          · omega
          · intro i_ u_ w_
            have z9_ := hq2_ i_ u_ w_
            rw [rd_eq]
            by_cases y_ : (srp dd_ S0_ (rtv dd_ S0_ i_) : Int) = n_
            · have z8_ := z9_.2 (by omega)
              rw [if_pos (by omega)]
              refine ⟨fun _ => ?_, fun q9_ => ?_⟩
              · first | rfl | (exfalso; have z6_ : srp dd_ S0_ (rtv dd_ S0_ i_) = n_.toNat := (by omega); rw [z6_] at z8_; omega)
              · exfalso; omega
            · rw [if_neg (by omega)]
              exact ⟨fun q9_ => z9_.1 (by omega), fun q9_ => z9_.2 (by omega)⟩
          · omega
        · have cx4_ : ¬ ((S_.2.2.1 60 0 n_.toNat) ≤ 1) := of_decide_eq_false cx4_
          refine sm_T_go 2 (c1 := (148, [some (.inr (.inr (some (6, 0)))), some (.inl n_)], [.inl 1, .inl n_, .inr (.inr (some (60, 0)))], S_)) rfl ?_
          refine sm_T_iast (n := 1013) rfl rfl (by omega) (by omega) ?_
          have hIx7_ : gi (sm_aI S_ 60 0 n_.toNat 1) := gi_aI hI_ (show (-2147483648) ≤ 1 ∧ 1 ≤ 2147483647 from ⟨by omega, by omega⟩)
          have hFx8_ : ai_fr (sx_W vw_95) S0_ (sm_aI S_ 60 0 n_.toNat 1) := ai_fr_tr hF_ (ai_fr_aI rfl)
          refine sm_T_inc (a := 1) (z := 1) (v := n_) (w := n_ + 1) rfl rfl (by omega) (by omega) (by omega) ?_ -- pc_ 149
          refine sm_T_go 1 (c1 := (117, [some (.inr (.inr (some (6, 0)))), some (.inl (n_ + 1))], [], sm_aI S_ 60 0 n_.toNat 1)) rfl ?_
          refine ih_.2.2 (n_ + 1) (sm_aI S_ 60 0 n_.toNat 1) hIx7_ hFx8_ ⟨?_, ?_, trivial⟩ ?_
          · omega
          · intro i_ u_ w_
            have z9_ := hq2_ i_ u_ w_
            rw [rd_eq]
            by_cases y_ : (srp dd_ S0_ (rtv dd_ S0_ i_) : Int) = n_
            · have z8_ := z9_.2 (by omega)
              rw [if_pos (by omega)]
              refine ⟨fun _ => ?_, fun q9_ => ?_⟩
              · first | rfl | (exfalso; have z6_ : srp dd_ S0_ (rtv dd_ S0_ i_) = n_.toNat := (by omega); rw [z6_] at z8_; omega)
              · exfalso; omega
            · rw [if_neg (by omega)]
              exact ⟨fun q9_ => z9_.1 (by omega), fun q9_ => z9_.2 (by omega)⟩
          · omega
set_option maxHeartbeats 3000000 in
theorem vc_95 {sc_ : Nat × (Nat → Int)} (dd_ : Nat) (F_ : Nat) (S0_ : sm_S) (hI_ : gi S0_) (hd_ : S0_.2.1 6 0 0 = some dd_) (hr_ : drt dd_ S0_) (hg_ : dgr dd_ F_ S0_) (hs_ : swp dd_ F_ S0_) : sm_T (mt_P sc_) 2 95 (0, [some (.inr (.inr (some (6, 0)))), none], [], S0_) (fun ro9_ => ∃ u_ S1_, ro9_ = (.inl u_, S1_, 0) ∧ vq_95 dd_ F_ S0_ u_ S1_) := by
  have hF_ : ai_fr (sx_W vw_95) S0_ S0_ := ai_fr_rf
  have r1_ := hr_.1
  have g1_ := hg_.1
  refine sm_T_go 3 (c1 := (5, [some (.inr (.inr (some (6, 0)))), none], [.inl 0, .inr (.inr (some (60, 0)))], S0_)) rfl ?_
  refine sm_T_cal (d1 := 0) (Q1 := vq_2r0 0 S0_) rfl rfl (by decide) (vc_2r0 0 S0_ hI_ (by decide)) (fun u_ Sx1_ px4_ => ?_)
  obtain ⟨rfl, hIx2_, hFx3_, px4_⟩ := px4_
  have hFx5_ : ai_fr (sx_W vw_95) S0_ Sx1_ := ai_fr_tr hF_ (fr_le hFx3_ rfl)
  have e5_ := px4_
  refine sm_T_go 2 (c1 := (10, [some (.inr (.inr (some (6, 0)))), some (.inl 0)], [], Sx1_)) rfl ?_
  refine (vl_95 dd_ F_ S0_ hd_ hr_ hg_ hs_ _).1 0 Sx1_ hIx2_ hFx5_ ⟨?_, ?_, ?_, trivial⟩ (Nat.lt_succ_self _)
  · omega
  · (intro j_ hj_; rw [e5_ j_ hj_]; omega)
  · (intro i_ u_ w_; exfalso; omega)
end
/-! 99.zn4c -/
section
/-! Mapper.wantsInverter -/
def vw_96 : sx_Wl := ([], [], [])
def vq_96 (dd_ : Nat) (S0_ : sm_S) (u_ : Option sm_V) (S1_ : sm_S) : Prop := S0_ = S1_ ∧ ∃ v_ : Int, u_ = some (.inl v_) ∧ ((v_ = 0 ∨ v_ = 1) ∧ (v_ = 0 → ∀ i_ : Int, 0 ≤ i_ → i_ < S0_.1 3 dd_ 3 + S0_.1 3 dd_ 2 → i_xor (S0_.2.2.1 44 (0 + dd_) (rtv dd_ S0_ i_ / 2).toNat) (rtv dd_ S0_ i_ % 2) ≤ 1 ∨ i_xor (S0_.2.2.1 44 (0 + dd_) (rtv dd_ S0_ i_ / 2).toNat) (rtv dd_ S0_ i_ % 2) % 2 = 0))
set_option maxHeartbeats 400000 in
theorem vl_96 {sc_ : Nat × (Nat → Int)} (dd_ : Nat) (S0_ : sm_S) (hd_ : S0_.2.1 6 0 0 = some dd_) (hr_ : drt dd_ S0_) : ∀ nn_ : Nat, (∀ (k_ : Int) (S_ : sm_S), gi S_ → ai_fr (sx_W vw_96) S0_ S_ → ((0 ≤ k_ ∧ k_ ≤ 22) ∧ (∀ i_ : Int, 0 ≤ i_ → i_ < k_ → i_xor (S0_.2.2.1 44 (0 + dd_) (rtv dd_ S0_ i_ / 2).toNat) (rtv dd_ S0_ i_ % 2) ≤ 1 ∨ i_xor (S0_.2.2.1 44 (0 + dd_) (rtv dd_ S0_ i_ / 2).toNat) (rtv dd_ S0_ i_ % 2) % 2 = 0) ∧ (S_ = S0_) ∧ True) → ((100 - k_).toNat) < nn_ → sm_T (mt_P sc_) 1 96 (2, [some (.inr (.inr (some (6, 0)))), some (.inl k_), none], [], S_) (fun ro9_ => ∃ u_ S1_, ro9_ = (.inl u_, S1_, 0) ∧ vq_96 dd_ S0_ u_ S1_)) := by
  intro nn_
  induction nn_ with
  | zero => exact fun _ _ _ _ _ h_ => absurd h_ (Nat.not_lt_zero _)
  | succ nn_ ih_ =>
    rintro k_ S_ hI_ hF_ ⟨h0_, hi_, hS_, -⟩ hm_
    have r1_ := hr_.1
    have f2_ : S_.1 3 dd_ 2 = S0_.1 3 dd_ 2 := by rw [hS_]
    have f3_ : S_.1 3 dd_ 3 = S0_.1 3 dd_ 3 := by rw [hS_]
    refine sm_T_go 2 (c1 := (4, [some (.inr (.inr (some (6, 0)))), some (.inl k_), none], [.inr (.inr (some (6, 0))), .inl k_], S_)) rfl ?_
    refine sm_T_gr rfl rfl ((hF_.2.1 6 0 0 rfl).trans hd_) ?_
    refine sm_T_cal (d1 := 0) (Q1 := vq_66 dd_ S_) rfl rfl (by decide) (vc_66 dd_ S_ hI_ (by omega)) (fun u_ Sx1_ px4_ => ?_)
    obtain ⟨rfl, vx6_, rfl, px4_⟩ := px4_
    have r7_ := px4_
    refine sm_T_br (a := 3) (z := 38) rfl (fun cx7_ => ?_) (fun cx7_ => ?_)
    · have cx7_ : vx6_ ≤ k_ := of_decide_eq_true cx7_
      refine sm_T_go 1 (c1 := (49, [some (.inr (.inr (some (6, 0)))), some (.inl k_), none], [.inl 0], S_)) rfl ?_
      refine sm_T_rz rfl (by omega) ⟨_, _, rfl, (by first | rfl | exact hS_.symm), _, rfl, ?_⟩
      exact ⟨Or.inl rfl, fun _ i_ u_ w_ => hi_ i_ u_ (by omega)⟩
    · have cx7_ : ¬ (vx6_ ≤ k_) := of_decide_eq_false cx7_
      refine sm_T_go 1 (c1 := (14, [some (.inr (.inr (some (6, 0)))), some (.inl k_), none], [.inr (.inr (some (6, 0)))], S_)) rfl ?_
      refine sm_T_gr rfl rfl ((hF_.2.1 6 0 0 rfl).trans hd_) ?_
      refine sm_T_go 1 (c1 := (18, [some (.inr (.inr (some (6, 0)))), some (.inl k_), none], [.inr (.inr (some (6, 0))), .inr (.inr (some (3, dd_)))], S_)) rfl ?_
      refine sm_T_gr rfl rfl ((hF_.2.1 6 0 0 rfl).trans hd_) ?_
      refine sm_T_go 1 (c1 := (22, [some (.inr (.inr (some (6, 0)))), some (.inl k_), none], [.inl k_, .inr (.inr (some (3, dd_))), .inr (.inr (some (3, dd_)))], S_)) rfl ?_
      refine sm_T_cal (d1 := 0) (Q1 := vq_65 k_ dd_ S_) rfl rfl (by decide) (vc_65 k_ dd_ S_ hI_ (by (rw [hS_]; exact hr_)) (by omega)) (fun u_ Sx8_ px11_ => ?_)
      obtain ⟨rfl, vx13_, rfl, px11_⟩ := px11_
      have t22_ := px11_
      have n22_ : S_.1 3 dd_ 4 ≤ 1013 := (hI_.1 3 dd_ 4 rfl).2
      refine sm_T_cal (d1 := 0) (Q1 := vq_64 vx13_ dd_ S_) rfl rfl (by decide) (vc_64 vx13_ dd_ S_ hI_ (by omega)) (fun u_ Sx14_ px17_ => ?_)
      obtain ⟨rfl, vx19_, rfl, px17_⟩ := px17_
      have e25_ := px17_
      rw [t22_.1, hS_] at e25_
      refine sm_T_go 3 (c1 := (31, [some (.inr (.inr (some (6, 0)))), some (.inl k_), some (.inl vx19_)], [.inl 1, .inl vx19_], S_)) rfl ?_
      refine sm_T_br (a := 5) (z := 11) rfl (fun cx20_ => ?_) (fun cx20_ => ?_)
      · have cx20_ : vx19_ ≤ 1 := of_decide_eq_true cx20_
        refine sm_T_inc (a := 1) (z := 1) (v := k_) (w := k_ + 1) rfl rfl (by omega) (by omega) (by omega) ?_ -- pc_ 42
        refine sm_T_go 1 (c1 := (2, [some (.inr (.inr (some (6, 0)))), some (.inl (k_ + 1)), some (.inl vx19_)], [], S_)) rfl ?_
        refine sm_T_wk [some (.inr (.inr (some (6, 0)))), some (.inl (k_ + 1)), none] (by exact ⟨rfl, rfl, trivial⟩) ?_
        refine ih_ (k_ + 1) S_ hI_ hF_ ⟨?_, ?_, ?_, trivial⟩ ?_
        · omega
        · intro i_ u_ w_
          by_cases y_ : i_ = k_
          · rw [y_, ← e25_]; omega
          · exact hi_ i_ u_ (by omega)
        · first | rfl | exact hS_
        · omega
      · have cx20_ : ¬ (vx19_ ≤ 1) := of_decide_eq_false cx20_
        refine sm_T_go 2 (c1 := (36, [some (.inr (.inr (some (6, 0)))), some (.inl k_), some (.inl vx19_)], [.inl 1, .inl vx19_], S_)) rfl ?_
        refine sm_T_bin (w := (vx19_ % 2)) rfl (bi_msk (k := 1) (by decide)) ?_ -- pc_ 36
        refine sm_T_b0 (a := 0) (z := 5) rfl (fun cx21_ => ?_) (fun cx21_ => ?_)
        · have cx21_ : (vx19_ % 2) = 0 := of_decide_eq_true cx21_
          refine sm_T_inc (a := 1) (z := 1) (v := k_) (w := k_ + 1) rfl rfl (by omega) (by omega) (by omega) ?_ -- pc_ 42
          refine sm_T_go 1 (c1 := (2, [some (.inr (.inr (some (6, 0)))), some (.inl (k_ + 1)), some (.inl vx19_)], [], S_)) rfl ?_
          refine sm_T_wk [some (.inr (.inr (some (6, 0)))), some (.inl (k_ + 1)), none] (by exact ⟨rfl, rfl, trivial⟩) ?_
          refine ih_ (k_ + 1) S_ hI_ hF_ ⟨?_, ?_, ?_, trivial⟩ ?_
          · omega
          · intro i_ u_ w_
            by_cases y_ : i_ = k_
            · rw [y_, ← e25_]; omega
            · exact hi_ i_ u_ (by omega)
          · first | rfl | exact hS_
          · omega
        · have cx21_ : ¬ ((vx19_ % 2) = 0) := of_decide_eq_false cx21_
          refine sm_T_go 1 (c1 := (41, [some (.inr (.inr (some (6, 0)))), some (.inl k_), some (.inl vx19_)], [.inl 1], S_)) rfl ?_
          refine sm_T_rz rfl (by omega) ⟨_, _, rfl, (by first | rfl | exact hS_.symm), _, rfl, ?_⟩
          exact ⟨Or.inr rfl, fun u_ => absurd u_ (by decide)⟩
set_option maxHeartbeats 400000 in
theorem vc_96 {sc_ : Nat × (Nat → Int)} (dd_ : Nat) (S0_ : sm_S) (hI_ : gi S0_) (hd_ : S0_.2.1 6 0 0 = some dd_) (hr_ : drt dd_ S0_) : sm_T (mt_P sc_) 1 96 (0, [some (.inr (.inr (some (6, 0)))), none, none], [], S0_) (fun ro9_ => ∃ u_ S1_, ro9_ = (.inl u_, S1_, 0) ∧ vq_96 dd_ S0_ u_ S1_) := by
  have hF_ : ai_fr (sx_W vw_96) S0_ S0_ := ai_fr_rf
  refine sm_T_go 2 (c1 := (2, [some (.inr (.inr (some (6, 0)))), some (.inl 0), none], [], S0_)) rfl ?_
  refine (vl_96 dd_ S0_ hd_ hr_ _) 0 S0_ hI_ hF_ ⟨?_, ?_, ?_, trivial⟩ (Nat.lt_succ_self _)
  · omega
  · (intro i_ u_ w_; exfalso; omega)
  · first | rfl | exact hS_
end
