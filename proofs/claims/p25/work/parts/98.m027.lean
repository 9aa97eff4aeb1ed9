/-! 99.zm3a -/
section
/-! paths found; written by wip/p55/gen/vg -/

theorem tpo_fr {w_ : sx_Wl} {S_ S'_ : sm_S} (h_ : tpo S_) (g_ : ai_fr (sx_W w_) S_ S'_) (h1_ : (sx_W w_).1 11 5 = false := by rfl) (a1_ : (sx_W w_).2.1 102 = false := by rfl) (a2_ : (sx_W w_).2.1 104 = false := by rfl) (a3_ : (sx_W w_).2.1 105 = false := by rfl) : tpo S'_ := by
  unfold tpo
  rw [g_.1 11 0 5 h1_, fr_arr g_ a1_, fr_arr g_ a2_, fr_arr g_ a3_]
  exact h_
theorem ttr_fr {w_ : sx_Wl} {S_ S'_ : sm_S} (h_ : ttr S_) (g_ : ai_fr (sx_W w_) S_ S'_) (h1_ : (sx_W w_).1 11 11 = false := by rfl) (a1_ : (sx_W w_).2.1 106 = false := by rfl) : ttr S'_ := by
  unfold ttr
  rw [g_.1 11 0 11 h1_, fr_arr g_ a1_]
  exact h_
/-! Times.lengthen -/
def vw_201 : sx_Wl := ([(11, 5), (11, 11)], [102, 103, 104, 105, 106], [])
def vq_201 (a2_ : Int) (cc_ : Nat) (S0_ : sm_S) (u_ : Option sm_V) (S1_ : sm_S) : Prop := u_ = none ∧ gi S1_ ∧ ai_fr (sx_W vw_201) S0_ S1_ ∧ (tpo S1_)
set_option maxHeartbeats 2000000 in
set_option maxRecDepth 20000 in
theorem vl_201 {sc_ : Nat × (Nat → Int)} (a2_ : Int) (cc_ : Nat) (S0_ : sm_S) (hs_ : S0_.1 2 cc_ 1 + S0_.1 2 cc_ 2 ≤ 12) (hp_ : tpo S0_) (h2_ : 0 ≤ a2_ ∧ a2_ < S0_.1 11 0 5) (hl_ : S0_.2.2.1 105 0 (152 * (S0_.2.2.1 102 0 a2_.toNat) + (S0_.2.2.1 104 0 (S0_.2.2.1 102 0 a2_.toNat).toNat) - 1).toNat < 10000) : ∀ nn_ : Nat, (∀ (bs_ : Int) (ls_ : Int) (ln_ : Int) (k_ : Int) (S_ : sm_S), gi S_ → ai_fr (sx_W vw_201) S0_ S_ → ((0 ≤ bs_ ∧ bs_ ≤ 1782 ∧ 0 ≤ ls_ ∧ ls_ ≤ 161 ∧ 0 ≤ k_ ∧ k_ ≤ 152) ∧ (tpo S_) ∧ (ttr S_) ∧ (1 ≤ S_.1 11 0 11 ∧ S_.1 11 0 11 ≤ 152) ∧ True) → ((90000 - k_).toNat) < nn_ → sm_T (mt_P sc_) 2 201 (74, [some (.inr (.inr (some (11, 0)))), some (.inr (.inr (some (2, cc_)))), some (.inl a2_), none, some (.inl bs_), some (.inl ls_), some (.inl ln_), some (.inl k_), none, none, none], [], S_) (fun ro9_ => ∃ u_ S1_, ro9_ = (.inl u_, S1_, 0) ∧ vq_201 a2_ cc_ S0_ u_ S1_)) ∧ (∀ (bs_ : Int) (ls_ : Int) (ln_ : Int) (g_ : Int) (S_ : sm_S), gi S_ → ai_fr (sx_W vw_201) S0_ S_ → ((0 ≤ bs_ ∧ bs_ ≤ 1782 ∧ 0 ≤ ls_ ∧ ls_ ≤ 161 ∧ 0 ≤ g_ ∧ g_ ≤ 162) ∧ (tpo S_) ∧ (ttr S_) ∧ (1 ≤ S_.1 11 0 11 ∧ S_.1 11 0 11 ≤ 152) ∧ True) → ((10000 + 10 * (500 - g_) + 9).toNat) < nn_ → sm_T (mt_P sc_) 2 201 (121, [some (.inr (.inr (some (11, 0)))), some (.inr (.inr (some (2, cc_)))), some (.inl a2_), none, some (.inl bs_), some (.inl ls_), some (.inl ln_), some (.inl g_), none, none, none], [], S_) (fun ro9_ => ∃ u_ S1_, ro9_ = (.inl u_, S1_, 0) ∧ vq_201 a2_ cc_ S0_ u_ S1_)) ∧ (∀ (bs_ : Int) (ls_ : Int) (ln_ : Int) (g_ : Int) (nt_ : Int) (fo_ : Int) (k_ : Int) (S_ : sm_S), gi S_ → ai_fr (sx_W vw_201) S0_ S_ → ((0 ≤ bs_ ∧ bs_ ≤ 1782 ∧ 0 ≤ ls_ ∧ ls_ ≤ 161 ∧ 0 ≤ g_ ∧ g_ < 150 ∧ 0 ≤ nt_ ∧ nt_ ≤ 161 ∧ 0 ≤ fo_ ∧ fo_ ≤ 1 ∧ 0 ≤ k_ ∧ k_ ≤ 3) ∧ (tpo S_) ∧ (ttr S_) ∧ (1 ≤ S_.1 11 0 11 ∧ S_.1 11 0 11 ≤ 152) ∧ True) → ((10000 + 10 * (500 - g_) + 8 - k_).toNat) < nn_ → sm_T (mt_P sc_) 2 201 (145, [some (.inr (.inr (some (11, 0)))), some (.inr (.inr (some (2, cc_)))), some (.inl a2_), none, some (.inl bs_), some (.inl ls_), some (.inl ln_), some (.inl g_), some (.inl nt_), some (.inl fo_), some (.inl k_)], [], S_) (fun ro9_ => ∃ u_ S1_, ro9_ = (.inl u_, S1_, 0) ∧ vq_201 a2_ cc_ S0_ u_ S1_)) ∧ (∀ (bs_ : Int) (ls_ : Int) (ln_ : Int) (e_ : Int) (S_ : sm_S), gi S_ → ai_fr (sx_W vw_201) S0_ S_ → ((0 ≤ bs_ ∧ bs_ ≤ 1782 ∧ 0 ≤ ls_ ∧ ls_ ≤ 161 ∧ 0 ≤ e_ ∧ e_ ≤ 22) ∧ (tpo S_) ∧ (ttr S_) ∧ (1 ≤ S_.1 11 0 11 ∧ S_.1 11 0 11 ≤ 152) ∧ True) → ((100 - e_).toNat) < nn_ → sm_T (mt_P sc_) 2 201 (231, [some (.inr (.inr (some (11, 0)))), some (.inr (.inr (some (2, cc_)))), some (.inl a2_), none, some (.inl bs_), some (.inl ls_), some (.inl ln_), some (.inl e_), none, none, none], [], S_) (fun ro9_ => ∃ u_ S1_, ro9_ = (.inl u_, S1_, 0) ∧ vq_201 a2_ cc_ S0_ u_ S1_)) := by
  intro nn_
  induction nn_ with
  | zero => exact ⟨fun _ _ _ _ _ _ _ _ h_ => absurd h_ (Nat.not_lt_zero _), fun _ _ _ _ _ _ _ _ h_ => absurd h_ (Nat.not_lt_zero _), fun _ _ _ _ _ _ _ _ _ _ _ h_ => absurd h_ (Nat.not_lt_zero _), fun _ _ _ _ _ _ _ _ h_ => absurd h_ (Nat.not_lt_zero _)⟩
  | succ nn_ ih_ =>
    refine ⟨?_, ?_, ?_, ?_⟩
    · rintro bs_ ls_ ln_ k_ S_ hI_ hF_ ⟨h0_, ht_, hr_, hn_, -⟩ hm_
      have z1_ : S_.1 2 cc_ 1 = S0_.1 2 cc_ 1 := hF_.1 2 cc_ 1 rfl
      have z2_ : S_.1 2 cc_ 2 = S0_.1 2 cc_ 2 := hF_.1 2 cc_ 2 rfl
      have cg9_ : 0 ≤ S_.1 2 cc_ 8 ∧ S_.1 2 cc_ 8 ≤ 150 := hI_.1 2 cc_ 8 rfl
      have ci_ : 0 ≤ S_.1 2 cc_ 1 ∧ S_.1 2 cc_ 1 ≤ 12 := hI_.1 2 cc_ 1 rfl
      have cr : 0 ≤ S_.1 2 cc_ 2 ∧ S_.1 2 cc_ 2 ≤ 6 := hI_.1 2 cc_ 2 rfl
      have bx1_ : 0 ≤ S_.1 11 0 11 ∧ S_.1 11 0 11 ≤ 152 := hI_.1 11 0 11 rfl
      refine sm_T_go 3 (c1 := (80, [some (.inr (.inr (some (11, 0)))), some (.inr (.inr (some (2, cc_)))), some (.inl a2_), none, some (.inl bs_), some (.inl ls_), some (.inl ln_), some (.inl k_), none, none, none], [.inl (S_.1 11 0 11), .inl k_], S_)) rfl ?_
      refine sm_T_br (a := 3) (z := 26) rfl (fun cx2_ => ?_) (fun cx2_ => ?_)
      · have cx2_ : (S_.1 11 0 11) ≤ k_ := of_decide_eq_true cx2_
        refine sm_T_go 3 (c1 := (110, [some (.inr (.inr (some (11, 0)))), some (.inr (.inr (some (2, cc_)))), some (.inl a2_), none, some (.inl bs_), some (.inl ls_), some (.inl ln_), some (.inl k_), none, none, none], [.inr (.inr (some (2, cc_))), .inl ls_, .inl 0], S_)) rfl ?_
        refine sm_T_cal (d1 := 0) (Q1 := vq_54 cc_ S_) rfl rfl (by decide) (vc_54 cc_ S_ hI_ ) (fun u_ Sx3_ px6_ => ?_)
        obtain ⟨rfl, vx8_, rfl, px6_⟩ := px6_
        have fg110_ := px6_.2
        refine sm_T_bin (w := ls_ - vx8_) rfl (bi_sub (by omega) (by omega) (by omega)) ?_ -- pc_ 113
        refine sm_T_go 1 (c1 := (115, [some (.inr (.inr (some (11, 0)))), some (.inr (.inr (some (2, cc_)))), some (.inl a2_), none, some (.inl bs_), some (.inl ls_), some (.inl ln_), some (.inl k_), none, none, none], [.inl 1, .inl (ls_ - vx8_), .inl 0], S_)) rfl ?_
        refine sm_T_bin (w := ls_ - vx8_ + 1) rfl (bi_add (by omega) (by omega) (by omega)) ?_ -- pc_ 115
        refine sm_T_nt (u := some (.inl (sm_mx 0 (ls_ - vx8_ + 1)))) (S1 := S_) rfl rfl rfl ?_
        have bx9_ := sm_mx_d 0 (ls_ - vx8_ + 1)
        refine sm_T_go 1 (c1 := (121, [some (.inr (.inr (some (11, 0)))), some (.inr (.inr (some (2, cc_)))), some (.inl a2_), none, some (.inl bs_), some (.inl ls_), some (.inl ln_), some (.inl (sm_mx 0 (ls_ - vx8_ + 1))), none, none, none], [], S_)) rfl ?_
        refine ih_.2.1 bs_ ls_ ln_ (sm_mx 0 (ls_ - vx8_ + 1)) S_ hI_ hF_ ⟨?_, ?_, ?_, ?_, trivial⟩ ?_
        · omega
        · first | exact ht_
        · first | exact hr_
        · first | exact hn_
        · omega
      · have cx2_ : ¬ ((S_.1 11 0 11) ≤ k_) := of_decide_eq_false cx2_
        have k9_ := hr_.1 k_.toNat (by omega)
        refine sm_T_go 6 (c1 := (95, [some (.inr (.inr (some (11, 0)))), some (.inr (.inr (some (2, cc_)))), some (.inl a2_), none, some (.inl bs_), some (.inl ls_), some (.inl ln_), some (.inl k_), none, none, none], [.inl k_, .inr (.inr (some (106, 0))), .inr (.inr (some (99, 0))), .inl ln_], S_)) rfl ?_
        refine sm_T_iald (n := 152) rfl rfl (by omega) (by omega) ?_
        have bx10_ : 0 ≤ S_.2.2.1 106 0 k_.toNat ∧ S_.2.2.1 106 0 k_.toNat ≤ 10161 := hI_.2 106 0 _
        refine sm_T_iald (n := 162) rfl rfl (by omega) (by omega) ?_
        have bx11_ : (-2147483648) ≤ S_.2.2.1 99 0 (S_.2.2.1 106 0 k_.toNat).toNat ∧ S_.2.2.1 99 0 (S_.2.2.1 106 0 k_.toNat).toNat ≤ 2147483647 := hI_.2 99 0 _
        refine sm_T_bin (w := (i_add ln_ (S_.2.2.1 99 0 (S_.2.2.1 106 0 k_.toNat).toNat))) rfl rfl ?_ -- pc_ 97
        have bx12_ := i_add_r ln_ (S_.2.2.1 99 0 (S_.2.2.1 106 0 k_.toNat).toNat)
        refine sm_T_go 1 (c1 := (100, [some (.inr (.inr (some (11, 0)))), some (.inr (.inr (some (2, cc_)))), some (.inl a2_), none, some (.inl bs_), some (.inl ls_), some (.inl (i_add ln_ (S_.2.2.1 99 0 (S_.2.2.1 106 0 k_.toNat).toNat))), some (.inl k_), none, none, none], [], S_)) rfl ?_
        refine sm_T_inc (a := 7) (z := 1) (v := k_) (w := k_ + 1) rfl rfl (by omega) (by omega) (by omega) ?_ -- pc_ 100
        refine sm_T_go 1 (c1 := (74, [some (.inr (.inr (some (11, 0)))), some (.inr (.inr (some (2, cc_)))), some (.inl a2_), none, some (.inl bs_), some (.inl ls_), some (.inl (i_add ln_ (S_.2.2.1 99 0 (S_.2.2.1 106 0 k_.toNat).toNat))), some (.inl (k_ + 1)), none, none, none], [], S_)) rfl ?_
        refine ih_.1 bs_ ls_ (i_add ln_ (S_.2.2.1 99 0 (S_.2.2.1 106 0 k_.toNat).toNat)) (k_ + 1) S_ hI_ hF_ ⟨?_, ?_, ?_, ?_, trivial⟩ ?_
        · omega
        · first | exact ht_
        · first | exact hr_
        · first | exact hn_
        · omega
    · rintro bs_ ls_ ln_ g_ S_ hI_ hF_ ⟨h0_, ht_, hr_, hn_, -⟩ hm_
      have z1_ : S_.1 2 cc_ 1 = S0_.1 2 cc_ 1 := hF_.1 2 cc_ 1 rfl
      have z2_ : S_.1 2 cc_ 2 = S0_.1 2 cc_ 2 := hF_.1 2 cc_ 2 rfl
      have cg9_ : 0 ≤ S_.1 2 cc_ 8 ∧ S_.1 2 cc_ 8 ≤ 150 := hI_.1 2 cc_ 8 rfl
      have ci_ : 0 ≤ S_.1 2 cc_ 1 ∧ S_.1 2 cc_ 1 ≤ 12 := hI_.1 2 cc_ 1 rfl
      have cr : 0 ≤ S_.1 2 cc_ 2 ∧ S_.1 2 cc_ 2 ≤ 6 := hI_.1 2 cc_ 2 rfl
      have bx1_ : 0 ≤ S_.1 2 cc_ 8 ∧ S_.1 2 cc_ 8 ≤ 150 := hI_.1 2 cc_ 8 rfl
      refine sm_T_go 3 (c1 := (127, [some (.inr (.inr (some (11, 0)))), some (.inr (.inr (some (2, cc_)))), some (.inl a2_), none, some (.inl bs_), some (.inl ls_), some (.inl ln_), some (.inl g_), none, none, none], [.inl (S_.1 2 cc_ 8), .inl g_], S_)) rfl ?_
      refine sm_T_br (a := 3) (z := 101) rfl (fun cx2_ => ?_) (fun cx2_ => ?_)
      · have cx2_ : (S_.1 2 cc_ 8) ≤ g_ := of_decide_eq_true cx2_
        refine sm_T_go 2 (c1 := (231, [some (.inr (.inr (some (11, 0)))), some (.inr (.inr (some (2, cc_)))), some (.inl a2_), none, some (.inl bs_), some (.inl ls_), some (.inl ln_), some (.inl 0), none, none, none], [], S_)) rfl ?_
        refine ih_.2.2.2 bs_ ls_ ln_ 0 S_ hI_ hF_ ⟨?_, ?_, ?_, ?_, trivial⟩ ?_
        · omega
        · first | exact ht_
        · first | exact hr_
        · first | exact hn_
        · omega
      · have cx2_ : ¬ ((S_.1 2 cc_ 8) ≤ g_) := of_decide_eq_false cx2_
        refine sm_T_go 1 (c1 := (131, [some (.inr (.inr (some (11, 0)))), some (.inr (.inr (some (2, cc_)))), some (.inl a2_), none, some (.inl bs_), some (.inl ls_), some (.inl ln_), some (.inl g_), none, none, none], [.inr (.inr (some (2, cc_)))], S_)) rfl ?_
        refine sm_T_cal (d1 := 0) (Q1 := vq_54 cc_ S_) rfl rfl (by decide) (vc_54 cc_ S_ hI_ ) (fun u_ Sx3_ px6_ => ?_)
        obtain ⟨rfl, vx8_, rfl, px6_⟩ := px6_
        have fg131_ := px6_.2
        refine sm_T_go 1 (c1 := (136, [some (.inr (.inr (some (11, 0)))), some (.inr (.inr (some (2, cc_)))), some (.inl a2_), none, some (.inl bs_), some (.inl ls_), some (.inl ln_), some (.inl g_), none, none, none], [.inl g_, .inl vx8_], S_)) rfl ?_
        refine sm_T_bin (w := vx8_ + g_) rfl (bi_add (by omega) (by omega) (by omega)) ?_ -- pc_ 136
        refine sm_T_go 5 (c1 := (145, [some (.inr (.inr (some (11, 0)))), some (.inr (.inr (some (2, cc_)))), some (.inl a2_), none, some (.inl bs_), some (.inl ls_), some (.inl ln_), some (.inl g_), some (.inl (vx8_ + g_)), some (.inl 0), some (.inl 0)], [], S_)) rfl ?_
        refine ih_.2.2.1 bs_ ls_ ln_ g_ (vx8_ + g_) 0 0 S_ hI_ hF_ ⟨?_, ?_, ?_, ?_, trivial⟩ ?_
        · omega
        · first | exact ht_
        · first | exact hr_
        · first | exact hn_
        · omega
    · rintro bs_ ls_ ln_ g_ nt_ fo_ k_ S_ hI_ hF_ ⟨h0_, ht_, hr_, hn_, -⟩ hm_
      have z1_ : S_.1 2 cc_ 1 = S0_.1 2 cc_ 1 := hF_.1 2 cc_ 1 rfl
      have z2_ : S_.1 2 cc_ 2 = S0_.1 2 cc_ 2 := hF_.1 2 cc_ 2 rfl
      have cg9_ : 0 ≤ S_.1 2 cc_ 8 ∧ S_.1 2 cc_ 8 ≤ 150 := hI_.1 2 cc_ 8 rfl
      have ci_ : 0 ≤ S_.1 2 cc_ 1 ∧ S_.1 2 cc_ 1 ≤ 12 := hI_.1 2 cc_ 1 rfl
      have cr : 0 ≤ S_.1 2 cc_ 2 ∧ S_.1 2 cc_ 2 ≤ 6 := hI_.1 2 cc_ 2 rfl
      refine sm_T_go 3 (c1 := (150, [some (.inr (.inr (some (11, 0)))), some (.inr (.inr (some (2, cc_)))), some (.inl a2_), none, some (.inl bs_), some (.inl ls_), some (.inl ln_), some (.inl g_), some (.inl nt_), some (.inl fo_), some (.inl k_)], [.inl g_, .inr (.inr (some (2, cc_))), .inl k_], S_)) rfl ?_
      refine sm_T_cal (d1 := 0) (Q1 := vq_59 g_ cc_ S_) rfl rfl (by decide) (vc_59 g_ cc_ S_ hI_ (by omega)) (fun u_ Sx1_ px4_ => ?_)
      obtain ⟨rfl, vx6_, rfl, px4_⟩ := px4_
      have gi150_ := px4_.1
      refine sm_T_br (a := 3) (z := 38) rfl (fun cx7_ => ?_) (fun cx7_ => ?_)
      · have cx7_ : vx6_ ≤ k_ := of_decide_eq_true cx7_
        refine sm_T_go 1 (c1 := (193, [some (.inr (.inr (some (11, 0)))), some (.inr (.inr (some (2, cc_)))), some (.inl a2_), none, some (.inl bs_), some (.inl ls_), some (.inl ln_), some (.inl g_), some (.inl nt_), some (.inl fo_), some (.inl k_)], [.inl fo_], S_)) rfl ?_
        refine sm_T_b0 (a := 0) (z := 29) rfl (fun cx8_ => ?_) (fun cx8_ => ?_)
        · have cx8_ : fo_ = 0 := of_decide_eq_true cx8_
          refine sm_T_inc (a := 7) (z := 1) (v := g_) (w := g_ + 1) rfl rfl (by omega) (by omega) (by omega) ?_ -- pc_ 222
          refine sm_T_go 1 (c1 := (121, [some (.inr (.inr (some (11, 0)))), some (.inr (.inr (some (2, cc_)))), some (.inl a2_), none, some (.inl bs_), some (.inl ls_), some (.inl ln_), some (.inl (g_ + 1)), some (.inl nt_), some (.inl fo_), some (.inl k_)], [], S_)) rfl ?_
          refine sm_T_wk [some (.inr (.inr (some (11, 0)))), some (.inr (.inr (some (2, cc_)))), some (.inl a2_), none, some (.inl bs_), some (.inl ls_), some (.inl ln_), some (.inl (g_ + 1)), none, none, none] (by exact ⟨rfl, rfl, rfl, rfl, rfl, rfl, rfl, trivial⟩) ?_
          refine ih_.2.1 bs_ ls_ ln_ (g_ + 1) S_ hI_ hF_ ⟨?_, ?_, ?_, ?_, trivial⟩ ?_
          · omega
          · first | exact ht_ | exact o219_
          · first | exact hr_ | exact r219_
          · first | exact hn_ | (rw [n219_]; exact hn_)
          · omega
        · have cx8_ : ¬ (fo_ = 0) := of_decide_eq_false cx8_
          refine sm_T_go 6 (c1 := (207, [some (.inr (.inr (some (11, 0)))), some (.inr (.inr (some (2, cc_)))), some (.inl a2_), none, some (.inl bs_), some (.inl ls_), some (.inl ln_), some (.inl g_), some (.inl nt_), some (.inl fo_), some (.inl k_)], [.inl nt_, .inr (.inr (some (99, 0))), .inl ln_, .inl nt_, .inr (.inr (some (11, 0)))], S_)) rfl ?_
          refine sm_T_iald (n := 162) rfl rfl (by omega) (by omega) ?_
          have bx9_ : (-2147483648) ≤ S_.2.2.1 99 0 nt_.toNat ∧ S_.2.2.1 99 0 nt_.toNat ≤ 2147483647 := hI_.2 99 0 _
          refine sm_T_bin (w := (i_add ln_ (S_.2.2.1 99 0 nt_.toNat))) rfl rfl ?_ -- pc_ 208
          have bx10_ := i_add_r ln_ (S_.2.2.1 99 0 nt_.toNat)
          refine sm_T_go 4 (c1 := (217, [some (.inr (.inr (some (11, 0)))), some (.inr (.inr (some (2, cc_)))), some (.inl a2_), none, some (.inl bs_), some (.inl ls_), some (.inl ln_), some (.inl g_), some (.inl nt_), some (.inl fo_), some (.inl k_)], [.inl nt_, .inl bs_, .inr (.inr (some (101, 0))), .inl (i_add ln_ (S_.2.2.1 99 0 nt_.toNat)), .inl nt_, .inr (.inr (some (11, 0)))], S_)) rfl ?_
          refine sm_T_bin (w := bs_ + nt_) rfl (bi_add (by omega) (by omega) (by omega)) ?_ -- pc_ 217
          refine sm_T_iald (n := 1944) rfl rfl (by omega) (by omega) ?_
          have bx11_ : (-2147483648) ≤ S_.2.2.1 101 0 (bs_ + nt_).toNat ∧ S_.2.2.1 101 0 (bs_ + nt_).toNat ≤ 2147483647 := hI_.2 101 0 _
          refine sm_T_cal (d1 := 1) (Q1 := vq_203 nt_ (i_add ln_ (S_.2.2.1 99 0 nt_.toNat)) (S_.2.2.1 101 0 (bs_ + nt_).toNat) S_) rfl rfl (by decide) (vc_203 nt_ (i_add ln_ (S_.2.2.1 99 0 nt_.toNat)) (S_.2.2.1 101 0 (bs_ + nt_).toNat) S_ hI_ (by exact ht_) (by exact hr_) (by omega) (by (intro u9_; exfalso; omega))) (fun u_ Sx12_ px15_ => ?_)
          obtain ⟨rfl, hIx13_, hFx14_, px15_⟩ := px15_
          have hFx16_ : ai_fr (sx_W vw_201) S0_ Sx12_ := ai_fr_tr hF_ (fr_le hFx14_ rfl)
          have o219_ := px15_
          have r219_ := ttr_fr hr_ hFx14_
          have n219_ := hFx14_.1 11 0 11 rfl
          refine sm_T_inc (a := 7) (z := 1) (v := g_) (w := g_ + 1) rfl rfl (by omega) (by omega) (by omega) ?_ -- pc_ 222
          refine sm_T_go 1 (c1 := (121, [some (.inr (.inr (some (11, 0)))), some (.inr (.inr (some (2, cc_)))), some (.inl a2_), none, some (.inl bs_), some (.inl ls_), some (.inl ln_), some (.inl (g_ + 1)), some (.inl nt_), some (.inl fo_), some (.inl k_)], [], Sx12_)) rfl ?_
          refine sm_T_wk [some (.inr (.inr (some (11, 0)))), some (.inr (.inr (some (2, cc_)))), some (.inl a2_), none, some (.inl bs_), some (.inl ls_), some (.inl ln_), some (.inl (g_ + 1)), none, none, none] (by exact ⟨rfl, rfl, rfl, rfl, rfl, rfl, rfl, trivial⟩) ?_
          refine ih_.2.1 bs_ ls_ ln_ (g_ + 1) Sx12_ hIx13_ hFx16_ ⟨?_, ?_, ?_, ?_, trivial⟩ ?_
          · omega
          · first | exact ht_ | exact o219_
          · first | exact hr_ | exact r219_
          · first | exact hn_ | (rw [n219_]; exact hn_)
          · omega
      · have cx7_ : ¬ (vx6_ ≤ k_) := of_decide_eq_false cx7_
        refine sm_T_go 1 (c1 := (158, [some (.inr (.inr (some (11, 0)))), some (.inr (.inr (some (2, cc_)))), some (.inl a2_), none, some (.inl bs_), some (.inl ls_), some (.inl ln_), some (.inl g_), some (.inl nt_), some (.inl fo_), some (.inl k_)], [.inl fo_], S_)) rfl ?_
        refine sm_T_b0 (a := 1) (z := 20) rfl (fun cx17_ => ?_) (fun cx17_ => ?_)
        · have cx17_ : fo_ ≠ 0 := of_decide_eq_true cx17_
          refine sm_T_go 3 (c1 := (185, [some (.inr (.inr (some (11, 0)))), some (.inr (.inr (some (2, cc_)))), some (.inl a2_), none, some (.inl bs_), some (.inl ls_), some (.inl ln_), some (.inl g_), some (.inl nt_), some (.inl 1), some (.inl k_)], [], S_)) rfl ?_
          refine sm_T_inc (a := 10) (z := 1) (v := k_) (w := k_ + 1) rfl rfl (by omega) (by omega) (by omega) ?_ -- pc_ 185
          refine sm_T_go 1 (c1 := (145, [some (.inr (.inr (some (11, 0)))), some (.inr (.inr (some (2, cc_)))), some (.inl a2_), none, some (.inl bs_), some (.inl ls_), some (.inl ln_), some (.inl g_), some (.inl nt_), some (.inl 1), some (.inl (k_ + 1))], [], S_)) rfl ?_
          refine ih_.2.2.1 bs_ ls_ ln_ g_ nt_ 1 (k_ + 1) S_ hI_ hF_ ⟨?_, ?_, ?_, ?_, trivial⟩ ?_
          · omega
          · first | exact ht_
          · first | exact hr_
          · first | exact hn_
          · omega
        · have cx17_ : ¬ (fo_ ≠ 0) := of_decide_eq_false cx17_
          refine sm_T_go 4 (c1 := (168, [some (.inr (.inr (some (11, 0)))), some (.inr (.inr (some (2, cc_)))), some (.inl a2_), none, some (.inl bs_), some (.inl ls_), some (.inl ln_), some (.inl g_), some (.inl nt_), some (.inl fo_), some (.inl k_)], [.inl g_, .inl 3, .inr (.inr (some (36, (0 + cc_))))], S_)) rfl ?_
          refine sm_T_bin (w := 3 * g_) rfl (bi_mul (by omega) (by omega) (by omega)) ?_ -- pc_ 168
          refine sm_T_go 1 (c1 := (171, [some (.inr (.inr (some (11, 0)))), some (.inr (.inr (some (2, cc_)))), some (.inl a2_), none, some (.inl bs_), some (.inl ls_), some (.inl ln_), some (.inl g_), some (.inl nt_), some (.inl fo_), some (.inl k_)], [.inl k_, .inl (3 * g_), .inr (.inr (some (36, (0 + cc_))))], S_)) rfl ?_
          refine sm_T_bin (w := 3 * g_ + k_) rfl (bi_add (by omega) (by omega) (by omega)) ?_ -- pc_ 171
          refine sm_T_iald (n := 450) rfl rfl (by omega) (by omega) ?_
          have bx18_ : 0 ≤ S_.2.2.1 36 (0 + cc_) (3 * g_ + k_).toNat ∧ S_.2.2.1 36 (0 + cc_) (3 * g_ + k_).toNat ≤ 161 := hI_.2 36 (0 + cc_) _
          refine sm_T_go 1 (c1 := (175, [some (.inr (.inr (some (11, 0)))), some (.inr (.inr (some (2, cc_)))), some (.inl a2_), none, some (.inl bs_), some (.inl ls_), some (.inl ln_), some (.inl g_), some (.inl nt_), some (.inl fo_), some (.inl k_)], [.inl ls_, .inl (S_.2.2.1 36 (0 + cc_) (3 * g_ + k_).toNat)], S_)) rfl ?_
          refine sm_T_br (a := 1) (z := 7) rfl (fun cx19_ => ?_) (fun cx19_ => ?_)
          · have cx19_ : (S_.2.2.1 36 (0 + cc_) (3 * g_ + k_).toNat) ≠ ls_ := of_decide_eq_true cx19_
            refine sm_T_go 2 (c1 := (185, [some (.inr (.inr (some (11, 0)))), some (.inr (.inr (some (2, cc_)))), some (.inl a2_), none, some (.inl bs_), some (.inl ls_), some (.inl ln_), some (.inl g_), some (.inl nt_), some (.inl 0), some (.inl k_)], [], S_)) rfl ?_
            refine sm_T_inc (a := 10) (z := 1) (v := k_) (w := k_ + 1) rfl rfl (by omega) (by omega) (by omega) ?_ -- pc_ 185
            refine sm_T_go 1 (c1 := (145, [some (.inr (.inr (some (11, 0)))), some (.inr (.inr (some (2, cc_)))), some (.inl a2_), none, some (.inl bs_), some (.inl ls_), some (.inl ln_), some (.inl g_), some (.inl nt_), some (.inl 0), some (.inl (k_ + 1))], [], S_)) rfl ?_
            refine ih_.2.2.1 bs_ ls_ ln_ g_ nt_ 0 (k_ + 1) S_ hI_ hF_ ⟨?_, ?_, ?_, ?_, trivial⟩ ?_
            · omega
            · first | exact ht_
            · first | exact hr_
            · first | exact hn_
            · omega
          · have cx19_ : ¬ ((S_.2.2.1 36 (0 + cc_) (3 * g_ + k_).toNat) ≠ ls_) := of_decide_eq_false cx19_
            refine sm_T_go 3 (c1 := (185, [some (.inr (.inr (some (11, 0)))), some (.inr (.inr (some (2, cc_)))), some (.inl a2_), none, some (.inl bs_), some (.inl ls_), some (.inl ln_), some (.inl g_), some (.inl nt_), some (.inl 1), some (.inl k_)], [], S_)) rfl ?_
            refine sm_T_inc (a := 10) (z := 1) (v := k_) (w := k_ + 1) rfl rfl (by omega) (by omega) (by omega) ?_ -- pc_ 185
            refine sm_T_go 1 (c1 := (145, [some (.inr (.inr (some (11, 0)))), some (.inr (.inr (some (2, cc_)))), some (.inl a2_), none, some (.inl bs_), some (.inl ls_), some (.inl ln_), some (.inl g_), some (.inl nt_), some (.inl 1), some (.inl (k_ + 1))], [], S_)) rfl ?_
            refine ih_.2.2.1 bs_ ls_ ln_ g_ nt_ 1 (k_ + 1) S_ hI_ hF_ ⟨?_, ?_, ?_, ?_, trivial⟩ ?_
            · omega
            · first | exact ht_
            · first | exact hr_
            · first | exact hn_
            · omega
    · rintro bs_ ls_ ln_ e_ S_ hI_ hF_ ⟨h0_, ht_, hr_, hn_, -⟩ hm_
      have z1_ : S_.1 2 cc_ 1 = S0_.1 2 cc_ 1 := hF_.1 2 cc_ 1 rfl
      have z2_ : S_.1 2 cc_ 2 = S0_.1 2 cc_ 2 := hF_.1 2 cc_ 2 rfl
      have cg9_ : 0 ≤ S_.1 2 cc_ 8 ∧ S_.1 2 cc_ 8 ≤ 150 := hI_.1 2 cc_ 8 rfl
      have ci_ : 0 ≤ S_.1 2 cc_ 1 ∧ S_.1 2 cc_ 1 ≤ 12 := hI_.1 2 cc_ 1 rfl
      have cr : 0 ≤ S_.1 2 cc_ 2 ∧ S_.1 2 cc_ 2 ≤ 6 := hI_.1 2 cc_ 2 rfl
      have co_ : 0 ≤ S_.1 2 cc_ 3 ∧ S_.1 2 cc_ 3 ≤ 16 := hI_.1 2 cc_ 3 rfl
      refine sm_T_go 2 (c1 := (234, [some (.inr (.inr (some (11, 0)))), some (.inr (.inr (some (2, cc_)))), some (.inl a2_), none, some (.inl bs_), some (.inl ls_), some (.inl ln_), some (.inl e_), none, none, none], [.inr (.inr (some (2, cc_))), .inl e_], S_)) rfl ?_
      refine sm_T_cal (d1 := 0) (Q1 := vq_57 cc_ S_) rfl rfl (by decide) (vc_57 cc_ S_ hI_ ) (fun u_ Sx1_ px4_ => ?_)
      obtain ⟨rfl, vx6_, rfl, px4_⟩ := px4_
      have nt234_ := px4_.2
      refine sm_T_br (a := 3) (z := 65) rfl (fun cx7_ => ?_) (fun cx7_ => ?_)
      · have cx7_ : vx6_ ≤ e_ := of_decide_eq_true cx7_
        refine sm_T_rv rfl ⟨_, _, rfl, rfl, hI_, hF_, ?_⟩
        exact ht_
      · have cx7_ : ¬ (vx6_ ≤ e_) := of_decide_eq_false cx7_
        refine sm_T_go 2 (c1 := (243, [some (.inr (.inr (some (11, 0)))), some (.inr (.inr (some (2, cc_)))), some (.inl a2_), none, some (.inl bs_), some (.inl ls_), some (.inl ln_), some (.inl e_), none, none, none], [.inl e_, .inr (.inr (some (2, cc_)))], S_)) rfl ?_
        refine sm_T_cal (d1 := 0) (Q1 := vq_58 e_ cc_ S_) rfl rfl (by decide) (vc_58 e_ cc_ S_ hI_ (by omega)) (fun u_ Sx8_ px11_ => ?_)
        obtain ⟨rfl, vx13_, rfl, px11_⟩ := px11_
        have en243_ := px11_
        refine sm_T_go 1 (c1 := (248, [some (.inr (.inr (some (11, 0)))), some (.inr (.inr (some (2, cc_)))), some (.inl a2_), none, some (.inl bs_), some (.inl ls_), some (.inl ln_), some (.inl e_), none, none, none], [.inl ls_, .inl vx13_], S_)) rfl ?_
        refine sm_T_br (a := 1) (z := 48) rfl (fun cx14_ => ?_) (fun cx14_ => ?_)
        · have cx14_ : vx13_ ≠ ls_ := of_decide_eq_true cx14_
          refine sm_T_inc (a := 7) (z := 1) (v := e_) (w := e_ + 1) rfl rfl (by omega) (by omega) (by omega) ?_ -- pc_ 296
          refine sm_T_go 1 (c1 := (231, [some (.inr (.inr (some (11, 0)))), some (.inr (.inr (some (2, cc_)))), some (.inl a2_), none, some (.inl bs_), some (.inl ls_), some (.inl ln_), some (.inl (e_ + 1)), none, none, none], [], S_)) rfl ?_
          refine ih_.2.2.2 bs_ ls_ ln_ (e_ + 1) S_ hI_ hF_ ⟨?_, ?_, ?_, ?_, trivial⟩ ?_
          · omega
          · first | exact ht_ | exact o293_
          · first | exact hr_ | exact r293_
          · first | exact hn_ | (rw [n293_]; exact hn_)
          · omega
        · have cx14_ : ¬ (vx13_ ≠ ls_) := of_decide_eq_false cx14_
          have f9_ : S_.2.2.1 106 0 (0 : Int).toNat < 12 := hr_.2 (by omega)
          refine sm_T_go 5 (c1 := (260, [some (.inr (.inr (some (11, 0)))), some (.inr (.inr (some (2, cc_)))), some (.inl a2_), none, some (.inl bs_), some (.inl ls_), some (.inl ln_), some (.inl e_), none, none, none], [.inl 0, .inr (.inr (some (106, 0))), .inr (.inr (some (39, (0 + cc_))))], S_)) rfl ?_
          refine sm_T_iald (n := 152) rfl rfl (by omega) (by omega) ?_
          have bx15_ : 0 ≤ S_.2.2.1 106 0 (0 : Int).toNat ∧ S_.2.2.1 106 0 (0 : Int).toNat ≤ 10161 := hI_.2 106 0 _
          refine sm_T_iald (n := 12) rfl rfl (by omega) (by omega) ?_
          have bx16_ : 0 ≤ S_.2.2.1 39 (0 + cc_) (S_.2.2.1 106 0 (0 : Int).toNat).toNat ∧ S_.2.2.1 39 (0 + cc_) (S_.2.2.1 106 0 (0 : Int).toNat).toNat ≤ 4194303 := hI_.2 39 (0 + cc_) _
          refine sm_T_go 1 (c1 := (264, [some (.inr (.inr (some (11, 0)))), some (.inr (.inr (some (2, cc_)))), some (.inl a2_), none, some (.inl bs_), some (.inl ls_), some (.inl ln_), some (.inl e_), none, none, none], [.inl e_, .inl (S_.2.2.1 39 (0 + cc_) (S_.2.2.1 106 0 (0 : Int).toNat).toNat)], S_)) rfl ?_
          refine sm_T_bin (w := (i_shr (S_.2.2.1 39 (0 + cc_) (S_.2.2.1 106 0 (0 : Int).toNat).toNat) e_)) rfl rfl ?_ -- pc_ 264
          first | have bx17_ := i_shr_p (x_ := (S_.2.2.1 39 (0 + cc_) (S_.2.2.1 106 0 (0 : Int).toNat).toNat)) (e_ := e_) (by omega) (by omega) (by omega) | have bx17_ := i_shr_n (S_.2.2.1 39 (0 + cc_) (S_.2.2.1 106 0 (0 : Int).toNat).toNat) e_
          refine sm_T_go 1 (c1 := (266, [some (.inr (.inr (some (11, 0)))), some (.inr (.inr (some (2, cc_)))), some (.inl a2_), none, some (.inl bs_), some (.inl ls_), some (.inl ln_), some (.inl e_), none, none, none], [.inl 1, .inl (i_shr (S_.2.2.1 39 (0 + cc_) (S_.2.2.1 106 0 (0 : Int).toNat).toNat) e_)], S_)) rfl ?_
          refine sm_T_bin (w := ((i_shr (S_.2.2.1 39 (0 + cc_) (S_.2.2.1 106 0 (0 : Int).toNat).toNat) e_) % 2)) rfl (bi_msk (k := 1) (by decide)) ?_ -- pc_ 266
          refine sm_T_b0 (a := 1) (z := 29) rfl (fun cx18_ => ?_) (fun cx18_ => ?_)
          · have cx18_ : ((i_shr (S_.2.2.1 39 (0 + cc_) (S_.2.2.1 106 0 (0 : Int).toNat).toNat) e_) % 2) ≠ 0 := of_decide_eq_true cx18_
            refine sm_T_inc (a := 7) (z := 1) (v := e_) (w := e_ + 1) rfl rfl (by omega) (by omega) (by omega) ?_ -- pc_ 296
            refine sm_T_go 1 (c1 := (231, [some (.inr (.inr (some (11, 0)))), some (.inr (.inr (some (2, cc_)))), some (.inl a2_), none, some (.inl bs_), some (.inl ls_), some (.inl ln_), some (.inl (e_ + 1)), none, none, none], [], S_)) rfl ?_
            refine ih_.2.2.2 bs_ ls_ ln_ (e_ + 1) S_ hI_ hF_ ⟨?_, ?_, ?_, ?_, trivial⟩ ?_
            · omega
            · first | exact ht_ | exact o293_
            · first | exact hr_ | exact r293_
            · first | exact hn_ | (rw [n293_]; exact hn_)
            · omega
          · have cx18_ : ¬ (((i_shr (S_.2.2.1 39 (0 + cc_) (S_.2.2.1 106 0 (0 : Int).toNat).toNat) e_) % 2) ≠ 0) := of_decide_eq_false cx18_
            refine sm_T_go 3 (c1 := (276, [some (.inr (.inr (some (11, 0)))), some (.inr (.inr (some (2, cc_)))), some (.inl a2_), none, some (.inl bs_), some (.inl ls_), some (.inl ln_), some (.inl e_), none, none, none], [.inl e_, .inl 10000, .inr (.inr (some (11, 0)))], S_)) rfl ?_
            refine sm_T_bin (w := e_ + 10000) rfl (bi_add (by omega) (by omega) (by omega)) ?_ -- pc_ 276
            have bx19_ : 0 ≤ S_.1 2 cc_ 3 ∧ S_.1 2 cc_ 3 ≤ 16 := hI_.1 2 cc_ 3 rfl
            refine sm_T_go 4 (c1 := (285, [some (.inr (.inr (some (11, 0)))), some (.inr (.inr (some (2, cc_)))), some (.inl a2_), none, some (.inl bs_), some (.inl ls_), some (.inl ln_), some (.inl e_), none, none, none], [.inl (S_.1 2 cc_ 3), .inl e_, .inl ln_, .inl (e_ + 10000), .inr (.inr (some (11, 0)))], S_)) rfl ?_
            refine sm_T_br (a := 3) (z := 7) rfl (fun cx20_ => ?_) (fun cx20_ => ?_)
            · have cx20_ : (S_.1 2 cc_ 3) ≤ e_ := of_decide_eq_true cx20_
              refine sm_T_go 1 (c1 := (293, [some (.inr (.inr (some (11, 0)))), some (.inr (.inr (some (2, cc_)))), some (.inl a2_), none, some (.inl bs_), some (.inl ls_), some (.inl ln_), some (.inl e_), none, none, none], [.inl 2, .inl ln_, .inl (e_ + 10000), .inr (.inr (some (11, 0)))], S_)) rfl ?_
              refine sm_T_cal (d1 := 1) (Q1 := vq_203 (e_ + 10000) ln_ 2 S_) rfl rfl (by decide) (vc_203 (e_ + 10000) ln_ 2 S_ hI_ (by exact ht_) (by exact hr_) (by omega) (by (intro u9_; exfalso; omega))) (fun u_ Sx21_ px24_ => ?_)
              obtain ⟨rfl, hIx22_, hFx23_, px24_⟩ := px24_
              have hFx25_ : ai_fr (sx_W vw_201) S0_ Sx21_ := ai_fr_tr hF_ (fr_le hFx23_ rfl)
              have ex26_ : Sx21_.1 2 cc_ 3 = S_.1 2 cc_ 3 := hFx23_.1 2 cc_ 3 rfl
              have o293_ := px24_
              have r293_ := ttr_fr hr_ hFx23_
              have n293_ := hFx23_.1 11 0 11 rfl
              refine sm_T_inc (a := 7) (z := 1) (v := e_) (w := e_ + 1) rfl rfl (by omega) (by omega) (by omega) ?_ -- pc_ 296
              refine sm_T_go 1 (c1 := (231, [some (.inr (.inr (some (11, 0)))), some (.inr (.inr (some (2, cc_)))), some (.inl a2_), none, some (.inl bs_), some (.inl ls_), some (.inl ln_), some (.inl (e_ + 1)), none, none, none], [], Sx21_)) rfl ?_
              refine ih_.2.2.2 bs_ ls_ ln_ (e_ + 1) Sx21_ hIx22_ hFx25_ ⟨?_, ?_, ?_, ?_, trivial⟩ ?_
              · omega
              · first | exact ht_ | exact o293_
              · first | exact hr_ | exact r293_
              · first | exact hn_ | (rw [n293_]; exact hn_)
              · omega
            · have cx20_ : ¬ ((S_.1 2 cc_ 3) ≤ e_) := of_decide_eq_false cx20_
              refine sm_T_go 2 (c1 := (293, [some (.inr (.inr (some (11, 0)))), some (.inr (.inr (some (2, cc_)))), some (.inl a2_), none, some (.inl bs_), some (.inl ls_), some (.inl ln_), some (.inl e_), none, none, none], [.inl 0, .inl ln_, .inl (e_ + 10000), .inr (.inr (some (11, 0)))], S_)) rfl ?_
              refine sm_T_cal (d1 := 1) (Q1 := vq_203 (e_ + 10000) ln_ 0 S_) rfl rfl (by decide) (vc_203 (e_ + 10000) ln_ 0 S_ hI_ (by exact ht_) (by exact hr_) (by omega) (by (intro u9_; exfalso; omega))) (fun u_ Sx27_ px30_ => ?_)
              obtain ⟨rfl, hIx28_, hFx29_, px30_⟩ := px30_
              have hFx31_ : ai_fr (sx_W vw_201) S0_ Sx27_ := ai_fr_tr hF_ (fr_le hFx29_ rfl)
              have ex32_ : Sx27_.1 2 cc_ 3 = S_.1 2 cc_ 3 := hFx29_.1 2 cc_ 3 rfl
              have o293_ := px30_
              have r293_ := ttr_fr hr_ hFx29_
              have n293_ := hFx29_.1 11 0 11 rfl
              refine sm_T_inc (a := 7) (z := 1) (v := e_) (w := e_ + 1) rfl rfl (by omega) (by omega) (by omega) ?_ -- pc_ 296
              refine sm_T_go 1 (c1 := (231, [some (.inr (.inr (some (11, 0)))), some (.inr (.inr (some (2, cc_)))), some (.inl a2_), none, some (.inl bs_), some (.inl ls_), some (.inl ln_), some (.inl (e_ + 1)), none, none, none], [], Sx27_)) rfl ?_
              refine ih_.2.2.2 bs_ ls_ ln_ (e_ + 1) Sx27_ hIx28_ hFx31_ ⟨?_, ?_, ?_, ?_, trivial⟩ ?_
              · omega
              · first | exact ht_ | exact o293_
              · first | exact hr_ | exact r293_
              · first | exact hn_ | (rw [n293_]; exact hn_)
              · omega
set_option maxHeartbeats 2000000 in
set_option maxRecDepth 20000 in
theorem vc_201 {sc_ : Nat × (Nat → Int)} (a2_ : Int) (cc_ : Nat) (S0_ : sm_S) (hI_ : gi S0_) (hs_ : S0_.1 2 cc_ 1 + S0_.1 2 cc_ 2 ≤ 12) (hp_ : tpo S0_) (h2_ : 0 ≤ a2_ ∧ a2_ < S0_.1 11 0 5) (hl_ : S0_.2.2.1 105 0 (152 * (S0_.2.2.1 102 0 a2_.toNat) + (S0_.2.2.1 104 0 (S0_.2.2.1 102 0 a2_.toNat).toNat) - 1).toNat < 10000) : sm_T (mt_P sc_) 2 201 (0, [some (.inr (.inr (some (11, 0)))), some (.inr (.inr (some (2, cc_)))), some (.inl a2_), none, none, none, none, none, none, none, none], [], S0_) (fun ro9_ => ∃ u_ S1_, ro9_ = (.inl u_, S1_, 0) ∧ vq_201 a2_ cc_ S0_ u_ S1_) := by
  have hF_ : ai_fr (sx_W vw_201) S0_ S0_ := ai_fr_rf
  have p40_ := hp_.1
  have co_ : 0 ≤ S0_.2.2.1 102 0 a2_.toNat ∧ S0_.2.2.1 102 0 a2_.toNat ≤ 40 := hI_.2 102 0 _
  have t9_ := hp_.2 a2_.toNat (by omega) (by omega)
  have t1_ := t9_.1
  have t2_ := t9_.2.1
  have t3_ := t9_.2.2.1
  have t4_ := t9_.2.2.2.1
  have t5_ := t9_.2.2.2.2
  rw [show 152 * (S0_.2.2.1 102 0 a2_.toNat).toNat + ((S0_.2.2.1 104 0 (S0_.2.2.1 102 0 a2_.toNat).toNat) - 1).toNat = (152 * (S0_.2.2.1 102 0 a2_.toNat) + (S0_.2.2.1 104 0 (S0_.2.2.1 102 0 a2_.toNat).toNat) - 1).toNat by omega] at t5_
  refine sm_T_go 3 (c1 := (5, [some (.inr (.inr (some (11, 0)))), some (.inr (.inr (some (2, cc_)))), some (.inl a2_), none, none, none, none, none, none, none, none], [.inl a2_, .inr (.inr (some (102, 0)))], S0_)) rfl ?_
  refine sm_T_iald (n := 41) rfl rfl (by omega) (by omega) ?_
  have bx1_ : 0 ≤ S0_.2.2.1 102 0 a2_.toNat ∧ S0_.2.2.1 102 0 a2_.toNat ≤ 40 := hI_.2 102 0 _
  refine sm_T_go 5 (c1 := (13, [some (.inr (.inr (some (11, 0)))), some (.inr (.inr (some (2, cc_)))), some (.inl a2_), some (.inl (S0_.2.2.1 102 0 a2_.toNat)), none, none, none, none, none, none, none], [.inl (S0_.2.2.1 102 0 a2_.toNat), .inr (.inr (some (104, 0))), .inr (.inr (some (11, 0)))], S0_)) rfl ?_
  refine sm_T_iald (n := 41) rfl rfl (by omega) (by omega) ?_
  have bx2_ : 0 ≤ S0_.2.2.1 104 0 (S0_.2.2.1 102 0 a2_.toNat).toNat ∧ S0_.2.2.1 104 0 (S0_.2.2.1 102 0 a2_.toNat).toNat ≤ 152 := hI_.2 104 0 _
  have hIx3_ : gi (sm_pI S0_ 11 0 11 (S0_.2.2.1 104 0 (S0_.2.2.1 102 0 a2_.toNat).toNat)) := gi_pI hI_ (show 0 ≤ (S0_.2.2.1 104 0 (S0_.2.2.1 102 0 a2_.toNat).toNat) ∧ (S0_.2.2.1 104 0 (S0_.2.2.1 102 0 a2_.toNat).toNat) ≤ 152 from ⟨by omega, by omega⟩)
  have hFx4_ : ai_fr (sx_W vw_201) S0_ (sm_pI S0_ 11 0 11 (S0_.2.2.1 104 0 (S0_.2.2.1 102 0 a2_.toNat).toNat)) := ai_fr_tr hF_ (ai_fr_pI rfl)
  refine sm_T_go 5 (c1 := (25, [some (.inr (.inr (some (11, 0)))), some (.inr (.inr (some (2, cc_)))), some (.inl a2_), some (.inl (S0_.2.2.1 102 0 a2_.toNat)), none, none, none, none, none, none, none], [.inl 152, .inl (S0_.2.2.1 102 0 a2_.toNat), .inr (.inr (some (105, 0)))], sm_pI S0_ 11 0 11 (S0_.2.2.1 104 0 (S0_.2.2.1 102 0 a2_.toNat).toNat))) rfl ?_
  refine sm_T_bin (w := 152 * (S0_.2.2.1 102 0 a2_.toNat)) rfl (bi_mul (by omega) (by omega) (by omega)) ?_ -- pc_ 25
  refine sm_T_go 5 (c1 := (35, [some (.inr (.inr (some (11, 0)))), some (.inr (.inr (some (2, cc_)))), some (.inl a2_), some (.inl (S0_.2.2.1 102 0 a2_.toNat)), none, none, none, none, none, none, none], [.inl (S0_.2.2.1 104 0 (S0_.2.2.1 102 0 a2_.toNat).toNat), .inl 0, .inr (.inr (some (106, 0))), .inl (152 * (S0_.2.2.1 102 0 a2_.toNat)), .inr (.inr (some (105, 0)))], sm_pI S0_ 11 0 11 (S0_.2.2.1 104 0 (S0_.2.2.1 102 0 a2_.toNat).toNat))) rfl ?_
  refine sm_T_nt (u := none) (S1 := sm_acI (sm_pI S0_ 11 0 11 (S0_.2.2.1 104 0 (S0_.2.2.1 102 0 a2_.toNat).toNat)) 105 0 106 0 (152 * (S0_.2.2.1 102 0 a2_.toNat)).toNat (0 : Int).toNat (S0_.2.2.1 104 0 (S0_.2.2.1 102 0 a2_.toNat).toNat).toNat) rfl rfl (nt_acI (sc := sc_) (t := 105) (i := 0) (t' := 106) (i' := 0) (x := 152 * (S0_.2.2.1 102 0 a2_.toNat)) (y := 0) (m := (S0_.2.2.1 104 0 (S0_.2.2.1 102 0 a2_.toNat).toNat)) (n := 6232) (n1 := 152) rfl rfl (by omega) (by omega) (by omega) (by omega) (by omega)) ?_
  have hIx5_ : gi (sm_acI (sm_pI S0_ 11 0 11 (S0_.2.2.1 104 0 (S0_.2.2.1 102 0 a2_.toNat).toNat)) 105 0 106 0 (152 * (S0_.2.2.1 102 0 a2_.toNat)).toNat (0 : Int).toNat (S0_.2.2.1 104 0 (S0_.2.2.1 102 0 a2_.toNat).toNat).toNat) := gi_ac hIx3_ (by decide) (by decide)
  have hFx6_ : ai_fr (sx_W vw_201) S0_ (sm_acI (sm_pI S0_ 11 0 11 (S0_.2.2.1 104 0 (S0_.2.2.1 102 0 a2_.toNat).toNat)) 105 0 106 0 (152 * (S0_.2.2.1 102 0 a2_.toNat)).toNat (0 : Int).toNat (S0_.2.2.1 104 0 (S0_.2.2.1 102 0 a2_.toNat).toNat).toNat) := ai_fr_tr hFx4_ (fr_ac rfl)
  refine sm_T_go 2 (c1 := (40, [some (.inr (.inr (some (11, 0)))), some (.inr (.inr (some (2, cc_)))), some (.inl a2_), some (.inl (S0_.2.2.1 102 0 a2_.toNat)), none, none, none, none, none, none, none], [.inl a2_, .inr (.inr (some (11, 0)))], sm_acI (sm_pI S0_ 11 0 11 (S0_.2.2.1 104 0 (S0_.2.2.1 102 0 a2_.toNat).toNat)) 105 0 106 0 (152 * (S0_.2.2.1 102 0 a2_.toNat)).toNat (0 : Int).toNat (S0_.2.2.1 104 0 (S0_.2.2.1 102 0 a2_.toNat).toNat).toNat)) rfl ?_
  refine sm_T_cal (d1 := 0) (Q1 := vq_202 a2_ (sm_acI (sm_pI S0_ 11 0 11 (S0_.2.2.1 104 0 (S0_.2.2.1 102 0 a2_.toNat).toNat)) 105 0 106 0 (152 * (S0_.2.2.1 102 0 a2_.toNat)).toNat (0 : Int).toNat (S0_.2.2.1 104 0 (S0_.2.2.1 102 0 a2_.toNat).toNat).toNat)) rfl rfl (by decide) (vc_202 a2_ (sm_acI (sm_pI S0_ 11 0 11 (S0_.2.2.1 104 0 (S0_.2.2.1 102 0 a2_.toNat).toNat)) 105 0 106 0 (152 * (S0_.2.2.1 102 0 a2_.toNat)).toNat (0 : Int).toNat (S0_.2.2.1 104 0 (S0_.2.2.1 102 0 a2_.toNat).toNat).toNat) hIx5_ (by (show 0 ≤ a2_ ∧ a2_ < S0_.1 11 0 5; omega)) (by exact hp_)) (fun u_ Sx7_ px10_ => ?_)
  obtain ⟨rfl, hIx8_, hFx9_, px10_⟩ := px10_
  have hFx11_ : ai_fr (sx_W vw_201) S0_ Sx7_ := ai_fr_tr hFx6_ (fr_le hFx9_ rfl)
  have r40_ := px10_
  have s40_ : Sx7_.1 11 0 11 = (S0_.2.2.1 104 0 (S0_.2.2.1 102 0 a2_.toNat).toNat) := hFx9_.1 11 0 11 rfl
  have w40_ := fr_arr (t := 106) (i := 0) hFx9_ rfl
  have v40_ : ∀ j_ : Nat, (j_ : Int) < (S0_.2.2.1 104 0 (S0_.2.2.1 102 0 a2_.toNat).toNat) → Sx7_.2.2.1 106 0 j_ = S0_.2.2.1 105 0 (152 * (S0_.2.2.1 102 0 a2_.toNat).toNat + j_) := fun j_ hj_ => by (rw [w40_, sm_acI_at, cp_at (b_ := (0 : Int).toNat) (Nat.zero_le _) (by show j_ < 0 + Int.toNat _; omega)]; rw [rd_fa]; exact congrArg _ (by show Int.toNat _ + (j_ - 0) = _; omega))
  have T40_ : ttr Sx7_ := ⟨fun j_ hj_ => by (rw [s40_] at hj_; rw [v40_ j_ hj_]; by_cases y9_ : (j_ : Int) < (S0_.2.2.1 104 0 (S0_.2.2.1 102 0 a2_.toNat).toNat) - 1; exact t4_ j_ y9_; (rw [show 152 * (S0_.2.2.1 102 0 a2_.toNat).toNat + j_ = (152 * (S0_.2.2.1 102 0 a2_.toNat) + (S0_.2.2.1 104 0 (S0_.2.2.1 102 0 a2_.toNat).toNat) - 1).toNat by omega]; omega)), fun _ => by (rw [v40_ 0 (by omega), Nat.add_zero]; exact t3_)⟩
  have a40_ : Sx7_.2.2.1 106 0 (0 : Int).toNat < 12 := T40_.2 (by omega)
  have b40_ := T40_.1 ((S0_.2.2.1 104 0 (S0_.2.2.1 102 0 a2_.toNat).toNat) - 1).toNat (by omega)
  rw [show ((S0_.2.2.1 104 0 (S0_.2.2.1 102 0 a2_.toNat).toNat) - 1).toNat = (Sx7_.1 11 0 11 - 1).toNat by omega] at b40_
  have c40_ : 0 ≤ Sx7_.2.2.1 106 0 0 ∧ Sx7_.2.2.1 106 0 0 ≤ 10161 := hIx8_.2 106 0 _
  refine sm_T_go 3 (c1 := (48, [some (.inr (.inr (some (11, 0)))), some (.inr (.inr (some (2, cc_)))), some (.inl a2_), some (.inl (S0_.2.2.1 102 0 a2_.toNat)), none, none, none, none, none, none, none], [.inl 0, .inr (.inr (some (106, 0)))], Sx7_)) rfl ?_
  refine sm_T_iald (n := 152) rfl rfl (by omega) (by omega) ?_
  have bx12_ : 0 ≤ Sx7_.2.2.1 106 0 (0 : Int).toNat ∧ Sx7_.2.2.1 106 0 (0 : Int).toNat ≤ 10161 := hIx8_.2 106 0 _
  refine sm_T_go 1 (c1 := (52, [some (.inr (.inr (some (11, 0)))), some (.inr (.inr (some (2, cc_)))), some (.inl a2_), some (.inl (S0_.2.2.1 102 0 a2_.toNat)), none, none, none, none, none, none, none], [.inl 162, .inl (Sx7_.2.2.1 106 0 (0 : Int).toNat)], Sx7_)) rfl ?_
  refine sm_T_bin (w := 162 * (Sx7_.2.2.1 106 0 (0 : Int).toNat)) rfl (bi_mul (by omega) (by omega) (by omega)) ?_ -- pc_ 52
  have bx13_ : 0 ≤ Sx7_.1 11 0 11 ∧ Sx7_.1 11 0 11 ≤ 152 := hIx8_.1 11 0 11 rfl
  refine sm_T_go 6 (c1 := (64, [some (.inr (.inr (some (11, 0)))), some (.inr (.inr (some (2, cc_)))), some (.inl a2_), some (.inl (S0_.2.2.1 102 0 a2_.toNat)), some (.inl (162 * (Sx7_.2.2.1 106 0 (0 : Int).toNat))), none, none, none, none, none, none], [.inl 1, .inl (Sx7_.1 11 0 11), .inr (.inr (some (106, 0)))], Sx7_)) rfl ?_
  refine sm_T_bin (w := (Sx7_.1 11 0 11) - 1) rfl (bi_sub (by omega) (by omega) (by omega)) ?_ -- pc_ 64
  refine sm_T_iald (n := 152) rfl rfl (by omega) (by omega) ?_
  have bx14_ : 0 ≤ Sx7_.2.2.1 106 0 ((Sx7_.1 11 0 11) - 1).toNat ∧ Sx7_.2.2.1 106 0 ((Sx7_.1 11 0 11) - 1).toNat ≤ 10161 := hIx8_.2 106 0 _
  refine sm_T_go 5 (c1 := (74, [some (.inr (.inr (some (11, 0)))), some (.inr (.inr (some (2, cc_)))), some (.inl a2_), some (.inl (S0_.2.2.1 102 0 a2_.toNat)), some (.inl (162 * (Sx7_.2.2.1 106 0 (0 : Int).toNat))), some (.inl (Sx7_.2.2.1 106 0 ((Sx7_.1 11 0 11) - 1).toNat)), some (.inl 0), some (.inl 0), none, none, none], [], Sx7_)) rfl ?_
  refine sm_T_wk [some (.inr (.inr (some (11, 0)))), some (.inr (.inr (some (2, cc_)))), some (.inl a2_), none, some (.inl (162 * (Sx7_.2.2.1 106 0 (0 : Int).toNat))), some (.inl (Sx7_.2.2.1 106 0 ((Sx7_.1 11 0 11) - 1).toNat)), some (.inl 0), some (.inl 0), none, none, none] (by exact ⟨rfl, rfl, rfl, rfl, rfl, rfl, rfl, trivial⟩) ?_
  refine (vl_201 a2_ cc_ S0_ hs_ hp_ h2_ hl_ _).1 (162 * (Sx7_.2.2.1 106 0 (0 : Int).toNat)) (Sx7_.2.2.1 106 0 ((Sx7_.1 11 0 11) - 1).toNat) 0 0 Sx7_ hIx8_ hFx11_ ⟨?_, ?_, ?_, ?_, trivial⟩ (Nat.lt_succ_self _)
  · omega
  · exact r40_
  · exact T40_
  · (rw [s40_]; exact ⟨t1_, t2_⟩)
end
/-! 99.zm3b -/
section
/-! Times.findPaths -/
def vw_199 : sx_Wl := ([(11, 4), (11, 5), (11, 11)], [99, 101, 102, 103, 104, 105, 106], [(11, 3)])
def vq_199 (cc_ : Nat) (S0_ : sm_S) (u_ : Option sm_V) (S1_ : sm_S) : Prop := u_ = none ∧ gi S1_ ∧ ai_fr (sx_W vw_199) S0_ S1_ ∧ (tpo S1_)
set_option maxHeartbeats 2000000 in
set_option maxRecDepth 20000 in
theorem vl_199 {sc_ : Nat × (Nat → Int)} (cc_ : Nat) (S0_ : sm_S) (hs_ : S0_.1 2 cc_ 1 + S0_.1 2 cc_ 2 ≤ 12) (hp_ : tpo S0_) : ∀ nn_ : Nat, (∀ (k_ : Int) (S_ : sm_S), gi S_ → ai_fr (sx_W vw_199) S0_ S_ → ((0 ≤ k_ ∧ k_ ≤ 41 ∧ S_.1 11 0 5 = 0) ∧ True) → ((9000000 - k_).toNat) < nn_ → sm_T (mt_P sc_) 3 199 (56, [some (.inr (.inr (some (11, 0)))), some (.inr (.inr (some (2, cc_)))), some (.inl k_), none, none], [], S_) (fun ro9_ => ∃ u_ S1_, ro9_ = (.inl u_, S1_, 0) ∧ vq_199 cc_ S0_ u_ S1_)) ∧ (∀ (n_ : Int) (S_ : sm_S), gi S_ → ai_fr (sx_W vw_199) S0_ S_ → ((0 ≤ n_ ∧ n_ ≤ 12) ∧ (tpo S_) ∧ True) → ((5000000 - n_).toNat) < nn_ → sm_T (mt_P sc_) 3 199 (77, [some (.inr (.inr (some (11, 0)))), some (.inr (.inr (some (2, cc_)))), some (.inl n_), none, none], [], S_) (fun ro9_ => ∃ u_ S1_, ro9_ = (.inl u_, S1_, 0) ∧ vq_199 cc_ S0_ u_ S1_)) ∧ (∀ (dn_ : Int) (gd_ : Int) (S_ : sm_S), gi S_ → ai_fr (sx_W vw_199) S0_ S_ → ((0 ≤ dn_ ∧ dn_ ≤ 41 ∧ 0 ≤ gd_ ∧ gd_ ≤ 1000000) ∧ (tpo S_) ∧ True) → ((2000000 - gd_).toNat) < nn_ → sm_T (mt_P sc_) 3 199 (123, [some (.inr (.inr (some (11, 0)))), some (.inr (.inr (some (2, cc_)))), some (.inl dn_), some (.inl gd_), none], [], S_) (fun ro9_ => ∃ u_ S1_, ro9_ = (.inl u_, S1_, 0) ∧ vq_199 cc_ S0_ u_ S1_)) := by
  intro nn_
  induction nn_ with
  | zero => exact ⟨fun _ _ _ _ _ h_ => absurd h_ (Nat.not_lt_zero _), fun _ _ _ _ _ h_ => absurd h_ (Nat.not_lt_zero _), fun _ _ _ _ _ _ h_ => absurd h_ (Nat.not_lt_zero _)⟩
  | succ nn_ ih_ =>
    refine ⟨?_, ?_, ?_⟩
    · rintro k_ S_ hI_ hF_ ⟨h0_, -⟩ hm_
      have z1_ : S_.1 2 cc_ 1 = S0_.1 2 cc_ 1 := hF_.1 2 cc_ 1 rfl
      have z2_ : S_.1 2 cc_ 2 = S0_.1 2 cc_ 2 := hF_.1 2 cc_ 2 rfl
      have cg9_ : 0 ≤ S_.1 2 cc_ 8 ∧ S_.1 2 cc_ 8 ≤ 150 := hI_.1 2 cc_ 8 rfl
      have ci_ : 0 ≤ S_.1 2 cc_ 1 ∧ S_.1 2 cc_ 1 ≤ 12 := hI_.1 2 cc_ 1 rfl
      have cr : 0 ≤ S_.1 2 cc_ 2 ∧ S_.1 2 cc_ 2 ≤ 6 := hI_.1 2 cc_ 2 rfl
      refine sm_T_go 2 (c1 := (59, [some (.inr (.inr (some (11, 0)))), some (.inr (.inr (some (2, cc_)))), some (.inl k_), none, none], [.inl 40, .inl k_], S_)) rfl ?_
      refine sm_T_br (a := 4) (z := 16) rfl (fun cx1_ => ?_) (fun cx1_ => ?_)
      · have cx1_ : 40 < k_ := of_decide_eq_true cx1_
        refine sm_T_go 2 (c1 := (77, [some (.inr (.inr (some (11, 0)))), some (.inr (.inr (some (2, cc_)))), some (.inl 0), none, none], [], S_)) rfl ?_
        refine ih_.2.1 0 S_ hI_ hF_ ⟨?_, ?_, trivial⟩ ?_
        · omega
        · (refine ⟨by omega, fun i_ hi_ hn_ => ?_⟩; exfalso; omega)
        · omega
      · have cx1_ : ¬ (40 < k_) := of_decide_eq_false cx1_
        refine sm_T_go 4 (c1 := (68, [some (.inr (.inr (some (11, 0)))), some (.inr (.inr (some (2, cc_)))), some (.inl k_), none, none], [.inl k_, .inl k_, .inr (.inr (some (102, 0)))], S_)) rfl ?_
        refine sm_T_iast (n := 41) rfl rfl (by omega) (by omega) ?_
        have hIx2_ : gi (sm_aI S_ 102 0 k_.toNat k_) := gi_aI hI_ (show 0 ≤ k_ ∧ k_ ≤ 40 from ⟨by omega, by omega⟩)
        have hFx3_ : ai_fr (sx_W vw_199) S0_ (sm_aI S_ 102 0 k_.toNat k_) := ai_fr_tr hF_ (ai_fr_aI rfl)
        refine sm_T_inc (a := 2) (z := 1) (v := k_) (w := k_ + 1) rfl rfl (by omega) (by omega) (by omega) ?_ -- pc_ 69
        refine sm_T_go 1 (c1 := (56, [some (.inr (.inr (some (11, 0)))), some (.inr (.inr (some (2, cc_)))), some (.inl (k_ + 1)), none, none], [], sm_aI S_ 102 0 k_.toNat k_)) rfl ?_
        refine ih_.1 (k_ + 1) (sm_aI S_ 102 0 k_.toNat k_) hIx2_ hFx3_ ⟨?_, trivial⟩ ?_
        · (refine ⟨by omega, by omega, ?_⟩; show S_.1 11 0 5 = 0; omega)
        · omega
    · rintro n_ S_ hI_ hF_ ⟨h0_, ht_, -⟩ hm_
      have z1_ : S_.1 2 cc_ 1 = S0_.1 2 cc_ 1 := hF_.1 2 cc_ 1 rfl
      have z2_ : S_.1 2 cc_ 2 = S0_.1 2 cc_ 2 := hF_.1 2 cc_ 2 rfl
      have cg9_ : 0 ≤ S_.1 2 cc_ 8 ∧ S_.1 2 cc_ 8 ≤ 150 := hI_.1 2 cc_ 8 rfl
      have ci_ : 0 ≤ S_.1 2 cc_ 1 ∧ S_.1 2 cc_ 1 ≤ 12 := hI_.1 2 cc_ 1 rfl
      have cr : 0 ≤ S_.1 2 cc_ 2 ∧ S_.1 2 cc_ 2 ≤ 6 := hI_.1 2 cc_ 2 rfl
      refine sm_T_go 2 (c1 := (79, [some (.inr (.inr (some (11, 0)))), some (.inr (.inr (some (2, cc_)))), some (.inl n_), none, none], [.inr (.inr (some (2, cc_))), .inl n_], S_)) rfl ?_
      refine sm_T_cal (d1 := 0) (Q1 := vq_54 cc_ S_) rfl rfl (by decide) (vc_54 cc_ S_ hI_ ) (fun u_ Sx1_ px4_ => ?_)
      obtain ⟨rfl, vx6_, rfl, px4_⟩ := px4_
      have fg79_ := px4_.2
      refine sm_T_br (a := 3) (z := 37) rfl (fun cx7_ => ?_) (fun cx7_ => ?_)
      · have cx7_ : vx6_ ≤ n_ := of_decide_eq_true cx7_
        refine sm_T_go 4 (c1 := (123, [some (.inr (.inr (some (11, 0)))), some (.inr (.inr (some (2, cc_)))), some (.inl 0), some (.inl 0), none], [], S_)) rfl ?_
        refine ih_.2.2 0 0 S_ hI_ hF_ ⟨?_, ?_, trivial⟩ ?_
        · omega
        · exact ht_
        · omega
      · have cx7_ : ¬ (vx6_ ≤ n_) := of_decide_eq_false cx7_
        have hIx8_ : gi (sm_pI S_ 11 0 11 0) := gi_pI hI_ (show 0 ≤ 0 ∧ 0 ≤ 152 from ⟨by omega, by omega⟩)
        have hFx9_ : ai_fr (sx_W vw_199) S0_ (sm_pI S_ 11 0 11 0) := ai_fr_tr hF_ (ai_fr_pI rfl)
        refine sm_T_go 8 (c1 := (97, [some (.inr (.inr (some (11, 0)))), some (.inr (.inr (some (2, cc_)))), some (.inl n_), none, none], [.inl n_, .inr (.inr (some (99, 0))), .inl n_, .inr (.inr (some (11, 0)))], sm_pI S_ 11 0 11 0)) rfl ?_
        refine sm_T_iald (n := 162) rfl rfl (by omega) (by omega) ?_
        have bx10_ : (-2147483648) ≤ S_.2.2.1 99 0 n_.toNat ∧ S_.2.2.1 99 0 n_.toNat ≤ 2147483647 := hI_.2 99 0 _
        refine sm_T_go 4 (c1 := (106, [some (.inr (.inr (some (11, 0)))), some (.inr (.inr (some (2, cc_)))), some (.inl n_), none, none], [.inl 162, .inl n_, .inr (.inr (some (101, 0))), .inl (S_.2.2.1 99 0 n_.toNat), .inl n_, .inr (.inr (some (11, 0)))], sm_pI S_ 11 0 11 0)) rfl ?_
        refine sm_T_bin (w := 162 * n_) rfl (bi_mul (by omega) (by omega) (by omega)) ?_ -- pc_ 106
        refine sm_T_go 1 (c1 := (108, [some (.inr (.inr (some (11, 0)))), some (.inr (.inr (some (2, cc_)))), some (.inl n_), none, none], [.inl n_, .inl (162 * n_), .inr (.inr (some (101, 0))), .inl (S_.2.2.1 99 0 n_.toNat), .inl n_, .inr (.inr (some (11, 0)))], sm_pI S_ 11 0 11 0)) rfl ?_
        refine sm_T_bin (w := 163 * n_) rfl (bi_add (by omega) (by omega) (by omega)) ?_ -- pc_ 108
        refine sm_T_iald (n := 1944) rfl rfl (by omega) (by omega) ?_
        have bx11_ : (-2147483648) ≤ S_.2.2.1 101 0 (163 * n_).toNat ∧ S_.2.2.1 101 0 (163 * n_).toNat ≤ 2147483647 := hI_.2 101 0 _
        refine sm_T_go 0 (c1 := (110, [some (.inr (.inr (some (11, 0)))), some (.inr (.inr (some (2, cc_)))), some (.inl n_), none, none], [.inl (S_.2.2.1 101 0 (163 * n_).toNat), .inl (S_.2.2.1 99 0 n_.toNat), .inl n_, .inr (.inr (some (11, 0)))], sm_pI S_ 11 0 11 0)) rfl ?_
        refine sm_T_cal (d1 := 1) (Q1 := vq_203 n_ (S_.2.2.1 99 0 n_.toNat) (S_.2.2.1 101 0 (163 * n_).toNat) (sm_pI S_ 11 0 11 0)) rfl rfl (by decide) (vc_203 n_ (S_.2.2.1 99 0 n_.toNat) (S_.2.2.1 101 0 (163 * n_).toNat) (sm_pI S_ 11 0 11 0) hIx8_ (by exact ht_) (by exact ⟨fun j_ hj_ => absurd hj_ (by show ¬ ((j_ : Int) < 0); omega), fun hj_ => absurd hj_ (by show ¬ ((0 : Int) < 0); omega)⟩) (by omega) (by (intro _; omega))) (fun u_ Sx12_ px15_ => ?_)
        obtain ⟨rfl, hIx13_, hFx14_, px15_⟩ := px15_
        have hFx16_ : ai_fr (sx_W vw_199) S0_ Sx12_ := ai_fr_tr hFx9_ (fr_le hFx14_ rfl)
        have o110_ := px15_
        refine sm_T_inc (a := 2) (z := 1) (v := n_) (w := n_ + 1) rfl rfl (by omega) (by omega) (by omega) ?_ -- pc_ 113
        refine sm_T_go 1 (c1 := (77, [some (.inr (.inr (some (11, 0)))), some (.inr (.inr (some (2, cc_)))), some (.inl (n_ + 1)), none, none], [], Sx12_)) rfl ?_
        refine ih_.2.1 (n_ + 1) Sx12_ hIx13_ hFx16_ ⟨?_, ?_, trivial⟩ ?_
        · omega
        · exact o110_
        · omega
    · rintro dn_ gd_ S_ hI_ hF_ ⟨h0_, ht_, -⟩ hm_
      have z1_ : S_.1 2 cc_ 1 = S0_.1 2 cc_ 1 := hF_.1 2 cc_ 1 rfl
      have z2_ : S_.1 2 cc_ 2 = S0_.1 2 cc_ 2 := hF_.1 2 cc_ 2 rfl
      have cg9_ : 0 ≤ S_.1 2 cc_ 8 ∧ S_.1 2 cc_ 8 ≤ 150 := hI_.1 2 cc_ 8 rfl
      have ci_ : 0 ≤ S_.1 2 cc_ 1 ∧ S_.1 2 cc_ 1 ≤ 12 := hI_.1 2 cc_ 1 rfl
      have cr : 0 ≤ S_.1 2 cc_ 2 ∧ S_.1 2 cc_ 2 ≤ 6 := hI_.1 2 cc_ 2 rfl
      have cp_ : 0 ≤ S_.1 11 0 5 ∧ S_.1 11 0 5 ≤ 41 := hI_.1 11 0 5 rfl
      refine sm_T_go 1 (c1 := (124, [some (.inr (.inr (some (11, 0)))), some (.inr (.inr (some (2, cc_)))), some (.inl dn_), some (.inl gd_), none], [.inl gd_], S_)) rfl ?_
      refine sm_T_nt (u := some (.inl 1000000)) (S1 := S_) rfl rfl rfl ?_
      refine sm_T_br (a := 3) (z := 64) rfl (fun cx1_ => ?_) (fun cx1_ => ?_)
      · have cx1_ : 1000000 ≤ gd_ := of_decide_eq_true cx1_
        refine sm_T_rv rfl ⟨_, _, rfl, rfl, hI_, hF_, ?_⟩
        exact ht_
      · have cx1_ : ¬ (1000000 ≤ gd_) := of_decide_eq_false cx1_
        have bx2_ : 0 ≤ S_.1 11 0 5 ∧ S_.1 11 0 5 ≤ 41 := hI_.1 11 0 5 rfl
        refine sm_T_go 3 (c1 := (134, [some (.inr (.inr (some (11, 0)))), some (.inr (.inr (some (2, cc_)))), some (.inl dn_), some (.inl gd_), none], [.inl (S_.1 11 0 5), .inl dn_], S_)) rfl ?_
        refine sm_T_br (a := 3) (z := 56) rfl (fun cx3_ => ?_) (fun cx3_ => ?_)
        · have cx3_ : (S_.1 11 0 5) ≤ dn_ := of_decide_eq_true cx3_
          refine sm_T_rv rfl ⟨_, _, rfl, rfl, hI_, hF_, ?_⟩
          exact ht_
        · have cx3_ : ¬ ((S_.1 11 0 5) ≤ dn_) := of_decide_eq_false cx3_
          have t9_ := ht_.2 dn_.toNat (by omega) (by omega)
          have t1_ := t9_.1
          have t2_ := t9_.2.1
          have c9_ : 0 ≤ S_.2.2.1 102 0 dn_.toNat ∧ S_.2.2.1 102 0 dn_.toNat ≤ 40 := hI_.2 102 0 _
          refine sm_T_go 3 (c1 := (142, [some (.inr (.inr (some (11, 0)))), some (.inr (.inr (some (2, cc_)))), some (.inl dn_), some (.inl gd_), none], [.inl dn_, .inr (.inr (some (102, 0)))], S_)) rfl ?_
          refine sm_T_iald (n := 41) rfl rfl (by omega) (by omega) ?_
          have bx4_ : 0 ≤ S_.2.2.1 102 0 dn_.toNat ∧ S_.2.2.1 102 0 dn_.toNat ≤ 40 := hI_.2 102 0 _
          refine sm_T_go 5 (c1 := (154, [some (.inr (.inr (some (11, 0)))), some (.inr (.inr (some (2, cc_)))), some (.inl dn_), some (.inl gd_), some (.inl (S_.2.2.1 102 0 dn_.toNat))], [.inl 152, .inl (S_.2.2.1 102 0 dn_.toNat), .inr (.inr (some (105, 0)))], S_)) rfl ?_
          refine sm_T_bin (w := 152 * (S_.2.2.1 102 0 dn_.toNat)) rfl (bi_mul (by omega) (by omega) (by omega)) ?_ -- pc_ 154
          refine sm_T_go 3 (c1 := (161, [some (.inr (.inr (some (11, 0)))), some (.inr (.inr (some (2, cc_)))), some (.inl dn_), some (.inl gd_), some (.inl (S_.2.2.1 102 0 dn_.toNat))], [.inl (S_.2.2.1 102 0 dn_.toNat), .inr (.inr (some (104, 0))), .inl (152 * (S_.2.2.1 102 0 dn_.toNat)), .inr (.inr (some (105, 0)))], S_)) rfl ?_
          refine sm_T_iald (n := 41) rfl rfl (by omega) (by omega) ?_
          have bx5_ : 0 ≤ S_.2.2.1 104 0 (S_.2.2.1 102 0 dn_.toNat).toNat ∧ S_.2.2.1 104 0 (S_.2.2.1 102 0 dn_.toNat).toNat ≤ 152 := hI_.2 104 0 _
          refine sm_T_bin (w := 152 * (S_.2.2.1 102 0 dn_.toNat) + (S_.2.2.1 104 0 (S_.2.2.1 102 0 dn_.toNat).toNat)) rfl (bi_add (by omega) (by omega) (by omega)) ?_ -- pc_ 162
          refine sm_T_go 1 (c1 := (164, [some (.inr (.inr (some (11, 0)))), some (.inr (.inr (some (2, cc_)))), some (.inl dn_), some (.inl gd_), some (.inl (S_.2.2.1 102 0 dn_.toNat))], [.inl 1, .inl (152 * (S_.2.2.1 102 0 dn_.toNat) + (S_.2.2.1 104 0 (S_.2.2.1 102 0 dn_.toNat).toNat)), .inr (.inr (some (105, 0)))], S_)) rfl ?_
          refine sm_T_bin (w := 152 * (S_.2.2.1 102 0 dn_.toNat) + (S_.2.2.1 104 0 (S_.2.2.1 102 0 dn_.toNat).toNat) - 1) rfl (bi_sub (by omega) (by omega) (by omega)) ?_ -- pc_ 164
          refine sm_T_iald (n := 6232) rfl rfl (by omega) (by omega) ?_
          have bx6_ : 0 ≤ S_.2.2.1 105 0 (152 * (S_.2.2.1 102 0 dn_.toNat) + (S_.2.2.1 104 0 (S_.2.2.1 102 0 dn_.toNat).toNat) - 1).toNat ∧ S_.2.2.1 105 0 (152 * (S_.2.2.1 102 0 dn_.toNat) + (S_.2.2.1 104 0 (S_.2.2.1 102 0 dn_.toNat).toNat) - 1).toNat ≤ 10161 := hI_.2 105 0 _
          refine sm_T_go 1 (c1 := (169, [some (.inr (.inr (some (11, 0)))), some (.inr (.inr (some (2, cc_)))), some (.inl dn_), some (.inl gd_), some (.inl (S_.2.2.1 102 0 dn_.toNat))], [.inl 10000, .inl (S_.2.2.1 105 0 (152 * (S_.2.2.1 102 0 dn_.toNat) + (S_.2.2.1 104 0 (S_.2.2.1 102 0 dn_.toNat).toNat) - 1).toNat)], S_)) rfl ?_
          refine sm_T_br (a := 2) (z := 9) rfl (fun cx7_ => ?_) (fun cx7_ => ?_)
          · have cx7_ : (S_.2.2.1 105 0 (152 * (S_.2.2.1 102 0 dn_.toNat) + (S_.2.2.1 104 0 (S_.2.2.1 102 0 dn_.toNat).toNat) - 1).toNat) < 10000 := of_decide_eq_true cx7_
            refine sm_T_go 3 (c1 := (181, [some (.inr (.inr (some (11, 0)))), some (.inr (.inr (some (2, cc_)))), some (.inl dn_), some (.inl gd_), some (.inl (S_.2.2.1 102 0 dn_.toNat))], [.inl dn_, .inr (.inr (some (2, cc_))), .inr (.inr (some (11, 0)))], S_)) rfl ?_
            refine sm_T_cal (d1 := 2) (Q1 := vq_201 dn_ cc_ S_) rfl rfl (by decide) (vc_201 dn_ cc_ S_ hI_ (by omega) (by exact ht_) (by omega) (by omega)) (fun u_ Sx8_ px11_ => ?_)
            obtain ⟨rfl, hIx9_, hFx10_, px11_⟩ := px11_
            have hFx12_ : ai_fr (sx_W vw_199) S0_ Sx8_ := ai_fr_tr hF_ (fr_le hFx10_ rfl)
            have o181_ := px11_
            refine sm_T_inc (a := 3) (z := 1) (v := gd_) (w := gd_ + 1) rfl rfl (by omega) (by omega) (by omega) ?_ -- pc_ 184
            refine sm_T_go 1 (c1 := (123, [some (.inr (.inr (some (11, 0)))), some (.inr (.inr (some (2, cc_)))), some (.inl dn_), some (.inl (gd_ + 1)), some (.inl (S_.2.2.1 102 0 dn_.toNat))], [], Sx8_)) rfl ?_
            refine sm_T_wk [some (.inr (.inr (some (11, 0)))), some (.inr (.inr (some (2, cc_)))), some (.inl dn_), some (.inl (gd_ + 1)), none] (by exact ⟨rfl, rfl, rfl, rfl, trivial⟩) ?_
            refine ih_.2.2 dn_ (gd_ + 1) Sx8_ hIx9_ hFx12_ ⟨?_, ?_, trivial⟩ ?_
            · omega
            · first | exact ht_ | exact o181_
            · omega
          · have cx7_ : ¬ ((S_.2.2.1 105 0 (152 * (S_.2.2.1 102 0 dn_.toNat) + (S_.2.2.1 104 0 (S_.2.2.1 102 0 dn_.toNat).toNat) - 1).toNat) < 10000) := of_decide_eq_false cx7_
            refine sm_T_inc (a := 2) (z := 1) (v := dn_) (w := dn_ + 1) rfl rfl (by omega) (by omega) (by omega) ?_ -- pc_ 172
            refine sm_T_go 1 (c1 := (184, [some (.inr (.inr (some (11, 0)))), some (.inr (.inr (some (2, cc_)))), some (.inl (dn_ + 1)), some (.inl gd_), some (.inl (S_.2.2.1 102 0 dn_.toNat))], [], S_)) rfl ?_
            refine sm_T_inc (a := 3) (z := 1) (v := gd_) (w := gd_ + 1) rfl rfl (by omega) (by omega) (by omega) ?_ -- pc_ 184
            refine sm_T_go 1 (c1 := (123, [some (.inr (.inr (some (11, 0)))), some (.inr (.inr (some (2, cc_)))), some (.inl (dn_ + 1)), some (.inl (gd_ + 1)), some (.inl (S_.2.2.1 102 0 dn_.toNat))], [], S_)) rfl ?_
            refine sm_T_wk [some (.inr (.inr (some (11, 0)))), some (.inr (.inr (some (2, cc_)))), some (.inl (dn_ + 1)), some (.inl (gd_ + 1)), none] (by exact ⟨rfl, rfl, rfl, rfl, trivial⟩) ?_
            refine ih_.2.2 (dn_ + 1) (gd_ + 1) S_ hI_ hF_ ⟨?_, ?_, trivial⟩ ?_
            · omega
            · first | exact ht_ | exact o181_
            · omega
set_option maxHeartbeats 2000000 in
set_option maxRecDepth 20000 in
theorem vc_199 {sc_ : Nat × (Nat → Int)} (cc_ : Nat) (S0_ : sm_S) (hI_ : gi S0_) (hs_ : S0_.1 2 cc_ 1 + S0_.1 2 cc_ 2 ≤ 12) (hp_ : tpo S0_) : sm_T (mt_P sc_) 3 199 (0, [some (.inr (.inr (some (11, 0)))), some (.inr (.inr (some (2, cc_)))), none, none, none], [], S0_) (fun ro9_ => ∃ u_ S1_, ro9_ = (.inl u_, S1_, 0) ∧ vq_199 cc_ S0_ u_ S1_) := by
  have hF_ : ai_fr (sx_W vw_199) S0_ S0_ := ai_fr_rf
  refine sm_T_go 1 (c1 := (1, [some (.inr (.inr (some (11, 0)))), some (.inr (.inr (some (2, cc_)))), none, none, none], [.inr (.inr (some (11, 0)))], S0_)) rfl ?_
  cases qx1_ : S0_.2.1 11 0 3 with
  | none =>
    refine sm_T_gr rfl rfl qx1_ ?_
    refine sm_T_go 1 (c1 := (5, [some (.inr (.inr (some (11, 0)))), some (.inr (.inr (some (2, cc_)))), none, none, none], [.inr (.inr (some (2, cc_))), .inr (.inr none)], S0_)) rfl ?_
    refine sm_T_acn (x_ := none) (y_ := some (2, cc_)) rfl rfl (fun cx3_ => ?_) (fun cx3_ => ?_)
    · cases cx3_
    · skip
      have hIx4_ : gi (sm_pR S0_ 11 0 3 (some cc_)) := gi_pR hI_
      have hFx5_ : ai_fr (sx_W vw_199) S0_ (sm_pR S0_ 11 0 3 (some cc_)) := ai_fr_tr hF_ (ai_fr_pR rfl)
      have bx6_ : (-2147483648) ≤ S0_.1 0 (0 + cc_) 16 ∧ S0_.1 0 (0 + cc_) 16 ≤ 2147483647 := hI_.1 0 (0 + cc_) 16 rfl
      have hIx7_ : gi (sm_pI (sm_pR S0_ 11 0 3 (some cc_)) 11 0 4 (S0_.1 0 (0 + cc_) 16)) := gi_pI hIx4_ (show (-2147483648) ≤ (S0_.1 0 (0 + cc_) 16) ∧ (S0_.1 0 (0 + cc_) 16) ≤ 2147483647 from ⟨by omega, by omega⟩)
      have hFx8_ : ai_fr (sx_W vw_199) S0_ (sm_pI (sm_pR S0_ 11 0 3 (some cc_)) 11 0 4 (S0_.1 0 (0 + cc_) 16)) := ai_fr_tr hFx5_ (ai_fr_pI rfl)
      refine sm_T_go 10 (c1 := (41, [some (.inr (.inr (some (11, 0)))), some (.inr (.inr (some (2, cc_)))), none, none, none], [.inr (.inr (some (2, cc_))), .inr (.inr (some (11, 0)))], sm_pI (sm_pR S0_ 11 0 3 (some cc_)) 11 0 4 (S0_.1 0 (0 + cc_) 16))) rfl ?_
      refine sm_T_cal (d1 := 1) (Q1 := vq_196 cc_ (sm_pI (sm_pR S0_ 11 0 3 (some cc_)) 11 0 4 (S0_.1 0 (0 + cc_) 16))) rfl rfl (by decide) (vc_196 cc_ (sm_pI (sm_pR S0_ 11 0 3 (some cc_)) 11 0 4 (S0_.1 0 (0 + cc_) 16)) hIx7_ (by exact hs_)) (fun u_ Sx9_ px12_ => ?_)
      obtain ⟨rfl, hIx10_, hFx11_, px12_⟩ := px12_
      have hFx13_ : ai_fr (sx_W vw_199) S0_ Sx9_ := ai_fr_tr hFx8_ (fr_le hFx11_ rfl)
      refine sm_T_go 2 (c1 := (46, [some (.inr (.inr (some (11, 0)))), some (.inr (.inr (some (2, cc_)))), none, none, none], [.inr (.inr (some (2, cc_))), .inr (.inr (some (11, 0)))], Sx9_)) rfl ?_
      refine sm_T_cal (d1 := 1) (Q1 := vq_200 cc_ Sx9_) rfl rfl (by decide) (vc_200 cc_ Sx9_ hIx10_ (by (have q1_ := hFx13_.1 2 cc_ 1 rfl; have q2_ := hFx13_.1 2 cc_ 2 rfl; omega))) (fun u_ Sx14_ px17_ => ?_)
      obtain ⟨rfl, hIx15_, hFx16_, px17_⟩ := px17_
      have hFx18_ : ai_fr (sx_W vw_199) S0_ Sx14_ := ai_fr_tr hFx13_ (fr_le hFx16_ rfl)
      have hIx19_ : gi (sm_pI Sx14_ 11 0 5 0) := gi_pI hIx15_ (show 0 ≤ 0 ∧ 0 ≤ 41 from ⟨by omega, by omega⟩)
      have hFx20_ : ai_fr (sx_W vw_199) S0_ (sm_pI Sx14_ 11 0 5 0) := ai_fr_tr hFx18_ (ai_fr_pI rfl)
      refine sm_T_go 5 (c1 := (56, [some (.inr (.inr (some (11, 0)))), some (.inr (.inr (some (2, cc_)))), some (.inl 0), none, none], [], sm_pI Sx14_ 11 0 5 0)) rfl ?_
      refine (vl_199 cc_ S0_ hs_ hp_ _).1 0 (sm_pI Sx14_ 11 0 5 0) hIx19_ hFx20_ ⟨?_, trivial⟩ (Nat.lt_succ_self _)
      · (refine ⟨by omega, by omega, rfl⟩)
  | some jx2_ =>
    refine sm_T_gr rfl rfl qx1_ ?_
    refine sm_T_go 1 (c1 := (5, [some (.inr (.inr (some (11, 0)))), some (.inr (.inr (some (2, cc_)))), none, none, none], [.inr (.inr (some (2, cc_))), .inr (.inr (some (2, jx2_)))], S0_)) rfl ?_
    refine sm_T_acn (x_ := some (2, jx2_)) (y_ := some (2, cc_)) rfl rfl (fun cx21_ => ?_) (fun cx21_ => ?_)
    · have cx21_ : jx2_ = cc_ := congrArg Prod.snd (Option.some.inj cx21_)
      have bx22_ : (-2147483648) ≤ S0_.1 11 0 4 ∧ S0_.1 11 0 4 ≤ 2147483647 := hI_.1 11 0 4 rfl
      have bx23_ : (-2147483648) ≤ S0_.1 0 (0 + cc_) 16 ∧ S0_.1 0 (0 + cc_) 16 ≤ 2147483647 := hI_.1 0 (0 + cc_) 16 rfl
      refine sm_T_go 5 (c1 := (19, [some (.inr (.inr (some (11, 0)))), some (.inr (.inr (some (2, cc_)))), none, none, none], [.inl (S0_.1 0 (0 + cc_) 16), .inl (S0_.1 11 0 4)], S0_)) rfl ?_
      refine sm_T_br (a := 1) (z := 4) rfl (fun cx24_ => ?_) (fun cx24_ => ?_)
      · have cx24_ : (S0_.1 11 0 4) ≠ (S0_.1 0 (0 + cc_) 16) := of_decide_eq_true cx24_
        have hIx25_ : gi (sm_pR S0_ 11 0 3 (some cc_)) := gi_pR hI_
        have hFx26_ : ai_fr (sx_W vw_199) S0_ (sm_pR S0_ 11 0 3 (some cc_)) := ai_fr_tr hF_ (ai_fr_pR rfl)
        have hIx27_ : gi (sm_pI (sm_pR S0_ 11 0 3 (some cc_)) 11 0 4 (S0_.1 0 (0 + cc_) 16)) := gi_pI hIx25_ (show (-2147483648) ≤ (S0_.1 0 (0 + cc_) 16) ∧ (S0_.1 0 (0 + cc_) 16) ≤ 2147483647 from ⟨by omega, by omega⟩)
        have hFx28_ : ai_fr (sx_W vw_199) S0_ (sm_pI (sm_pR S0_ 11 0 3 (some cc_)) 11 0 4 (S0_.1 0 (0 + cc_) 16)) := ai_fr_tr hFx26_ (ai_fr_pI rfl)
        refine sm_T_go 10 (c1 := (41, [some (.inr (.inr (some (11, 0)))), some (.inr (.inr (some (2, cc_)))), none, none, none], [.inr (.inr (some (2, cc_))), .inr (.inr (some (11, 0)))], sm_pI (sm_pR S0_ 11 0 3 (some cc_)) 11 0 4 (S0_.1 0 (0 + cc_) 16))) rfl ?_
        refine sm_T_cal (d1 := 1) (Q1 := vq_196 cc_ (sm_pI (sm_pR S0_ 11 0 3 (some cc_)) 11 0 4 (S0_.1 0 (0 + cc_) 16))) rfl rfl (by decide) (vc_196 cc_ (sm_pI (sm_pR S0_ 11 0 3 (some cc_)) 11 0 4 (S0_.1 0 (0 + cc_) 16)) hIx27_ (by exact hs_)) (fun u_ Sx29_ px32_ => ?_)
        obtain ⟨rfl, hIx30_, hFx31_, px32_⟩ := px32_
        have hFx33_ : ai_fr (sx_W vw_199) S0_ Sx29_ := ai_fr_tr hFx28_ (fr_le hFx31_ rfl)
        refine sm_T_go 2 (c1 := (46, [some (.inr (.inr (some (11, 0)))), some (.inr (.inr (some (2, cc_)))), none, none, none], [.inr (.inr (some (2, cc_))), .inr (.inr (some (11, 0)))], Sx29_)) rfl ?_
        refine sm_T_cal (d1 := 1) (Q1 := vq_200 cc_ Sx29_) rfl rfl (by decide) (vc_200 cc_ Sx29_ hIx30_ (by (have q1_ := hFx33_.1 2 cc_ 1 rfl; have q2_ := hFx33_.1 2 cc_ 2 rfl; omega))) (fun u_ Sx34_ px37_ => ?_)
        obtain ⟨rfl, hIx35_, hFx36_, px37_⟩ := px37_
        have hFx38_ : ai_fr (sx_W vw_199) S0_ Sx34_ := ai_fr_tr hFx33_ (fr_le hFx36_ rfl)
        have hIx39_ : gi (sm_pI Sx34_ 11 0 5 0) := gi_pI hIx35_ (show 0 ≤ 0 ∧ 0 ≤ 41 from ⟨by omega, by omega⟩)
        have hFx40_ : ai_fr (sx_W vw_199) S0_ (sm_pI Sx34_ 11 0 5 0) := ai_fr_tr hFx38_ (ai_fr_pI rfl)
        refine sm_T_go 5 (c1 := (56, [some (.inr (.inr (some (11, 0)))), some (.inr (.inr (some (2, cc_)))), some (.inl 0), none, none], [], sm_pI Sx34_ 11 0 5 0)) rfl ?_
        refine (vl_199 cc_ S0_ hs_ hp_ _).1 0 (sm_pI Sx34_ 11 0 5 0) hIx39_ hFx40_ ⟨?_, trivial⟩ (Nat.lt_succ_self _)
        · (refine ⟨by omega, by omega, rfl⟩)
      · have cx24_ : ¬ ((S0_.1 11 0 4) ≠ (S0_.1 0 (0 + cc_) 16)) := of_decide_eq_false cx24_
        refine sm_T_rv rfl ⟨_, _, rfl, rfl, hI_, hF_, ?_⟩
        exact hp_
    · skip
      have hIx41_ : gi (sm_pR S0_ 11 0 3 (some cc_)) := gi_pR hI_
      have hFx42_ : ai_fr (sx_W vw_199) S0_ (sm_pR S0_ 11 0 3 (some cc_)) := ai_fr_tr hF_ (ai_fr_pR rfl)
      have bx43_ : (-2147483648) ≤ S0_.1 0 (0 + cc_) 16 ∧ S0_.1 0 (0 + cc_) 16 ≤ 2147483647 := hI_.1 0 (0 + cc_) 16 rfl
      have hIx44_ : gi (sm_pI (sm_pR S0_ 11 0 3 (some cc_)) 11 0 4 (S0_.1 0 (0 + cc_) 16)) := gi_pI hIx41_ (show (-2147483648) ≤ (S0_.1 0 (0 + cc_) 16) ∧ (S0_.1 0 (0 + cc_) 16) ≤ 2147483647 from ⟨by omega, by omega⟩)
      have hFx45_ : ai_fr (sx_W vw_199) S0_ (sm_pI (sm_pR S0_ 11 0 3 (some cc_)) 11 0 4 (S0_.1 0 (0 + cc_) 16)) := ai_fr_tr hFx42_ (ai_fr_pI rfl)
      refine sm_T_go 10 (c1 := (41, [some (.inr (.inr (some (11, 0)))), some (.inr (.inr (some (2, cc_)))), none, none, none], [.inr (.inr (some (2, cc_))), .inr (.inr (some (11, 0)))], sm_pI (sm_pR S0_ 11 0 3 (some cc_)) 11 0 4 (S0_.1 0 (0 + cc_) 16))) rfl ?_
      refine sm_T_cal (d1 := 1) (Q1 := vq_196 cc_ (sm_pI (sm_pR S0_ 11 0 3 (some cc_)) 11 0 4 (S0_.1 0 (0 + cc_) 16))) rfl rfl (by decide) (vc_196 cc_ (sm_pI (sm_pR S0_ 11 0 3 (some cc_)) 11 0 4 (S0_.1 0 (0 + cc_) 16)) hIx44_ (by exact hs_)) (fun u_ Sx46_ px49_ => ?_)
      obtain ⟨rfl, hIx47_, hFx48_, px49_⟩ := px49_
      have hFx50_ : ai_fr (sx_W vw_199) S0_ Sx46_ := ai_fr_tr hFx45_ (fr_le hFx48_ rfl)
      refine sm_T_go 2 (c1 := (46, [some (.inr (.inr (some (11, 0)))), some (.inr (.inr (some (2, cc_)))), none, none, none], [.inr (.inr (some (2, cc_))), .inr (.inr (some (11, 0)))], Sx46_)) rfl ?_
      refine sm_T_cal (d1 := 1) (Q1 := vq_200 cc_ Sx46_) rfl rfl (by decide) (vc_200 cc_ Sx46_ hIx47_ (by (have q1_ := hFx50_.1 2 cc_ 1 rfl; have q2_ := hFx50_.1 2 cc_ 2 rfl; omega))) (fun u_ Sx51_ px54_ => ?_)
      obtain ⟨rfl, hIx52_, hFx53_, px54_⟩ := px54_
      have hFx55_ : ai_fr (sx_W vw_199) S0_ Sx51_ := ai_fr_tr hFx50_ (fr_le hFx53_ rfl)
      have hIx56_ : gi (sm_pI Sx51_ 11 0 5 0) := gi_pI hIx52_ (show 0 ≤ 0 ∧ 0 ≤ 41 from ⟨by omega, by omega⟩)
      have hFx57_ : ai_fr (sx_W vw_199) S0_ (sm_pI Sx51_ 11 0 5 0) := ai_fr_tr hFx55_ (ai_fr_pI rfl)
      refine sm_T_go 5 (c1 := (56, [some (.inr (.inr (some (11, 0)))), some (.inr (.inr (some (2, cc_)))), some (.inl 0), none, none], [], sm_pI Sx51_ 11 0 5 0)) rfl ?_
      refine (vl_199 cc_ S0_ hs_ hp_ _).1 0 (sm_pI Sx51_ 11 0 5 0) hIx56_ hFx57_ ⟨?_, trivial⟩ (Nat.lt_succ_self _)
      · (refine ⟨by omega, by omega, rfl⟩)
end
/-! 99.zn1a -/
section
/-! cells over a graph: nodes; written by wip/p55/gen/vg -/

/-! cells over a_ graph -/
theorem swx {x_ b_ : Int} (h_ : 0 ≤ x_ ∧ x_ ≤ 2025) (hb_ : 0 ≤ b_ ∧ b_ ≤ 1) : 0 ≤ i_xor x_ b_ ∧ i_xor x_ b_ ≤ 2025 := by
  have q_ := i_xb (x_ := x_) (b_ := b_) (by omega) hb_
  omega
/-! Mapper.lowNode -/
def vw_92 : sx_Wl := ([], [], [])
def vq_92 (a1_ : Int) (dd_ : Nat) (S0_ : sm_S) (u_ : Option sm_V) (S1_ : sm_S) : Prop := S0_ = S1_ ∧ ∃ v_ : Int, u_ = some (.inl v_) ∧ ((0 ≤ v_ ∧ v_ ≤ 1012) ∧ ∀ F_ : Nat, dgr dd_ F_ S0_ → swp dd_ F_ S0_ → (F_ : Int) ≤ a1_ → a1_ < S0_.1 3 dd_ 4 → v_ = (srp dd_ S0_ (S0_.2.2.1 42 (0 + dd_) a1_.toNat) : Int))
set_option maxHeartbeats 400000 in
theorem vc_92 {sc_ : Nat × (Nat → Int)} (a1_ : Int) (dd_ : Nat) (S0_ : sm_S) (hI_ : gi S0_) (hd_ : S0_.2.1 6 0 0 = some dd_) (h1_ : 0 ≤ a1_ ∧ a1_ ≤ 1012) : sm_T (mt_P sc_) 1 92 (0, [some (.inr (.inr (some (6, 0)))), some (.inl a1_)], [], S0_) (fun ro9_ => ∃ u_ S1_, ro9_ = (.inl u_, S1_, 0) ∧ vq_92 a1_ dd_ S0_ u_ S1_) := by
  have hF_ : ai_fr (sx_W vw_92) S0_ S0_ := ai_fr_rf
  refine sm_T_go 1 (c1 := (1, [some (.inr (.inr (some (6, 0)))), some (.inl a1_)], [.inr (.inr (some (6, 0)))], S0_)) rfl ?_
  refine sm_T_gr rfl rfl ((hF_.2.1 6 0 0 rfl).trans hd_) ?_
  refine sm_T_go 1 (c1 := (5, [some (.inr (.inr (some (6, 0)))), some (.inl a1_)], [.inr (.inr (some (6, 0))), .inr (.inr (some (3, dd_)))], S0_)) rfl ?_
  refine sm_T_gr rfl rfl ((hF_.2.1 6 0 0 rfl).trans hd_) ?_
  refine sm_T_go 2 (c1 := (12, [some (.inr (.inr (some (6, 0)))), some (.inl a1_)], [.inl a1_, .inr (.inr (some (42, (0 + dd_)))), .inr (.inr (some (3, dd_)))], S0_)) rfl ?_
  refine sm_T_iald (n := 1013) rfl rfl (by omega) (by omega) ?_
  have bx1_ : 0 ≤ S0_.2.2.1 42 (0 + dd_) a1_.toNat ∧ S0_.2.2.1 42 (0 + dd_) a1_.toNat ≤ 2025 := hI_.2 42 (0 + dd_) _
  refine sm_T_cal (d1 := 0) (Q1 := vq_64 (S0_.2.2.1 42 (0 + dd_) a1_.toNat) dd_ S0_) rfl rfl (by decide) (vc_64 (S0_.2.2.1 42 (0 + dd_) a1_.toNat) dd_ S0_ hI_ (by omega)) (fun u_ Sx2_ px5_ => ?_)
  obtain ⟨rfl, vx7_, rfl, px5_⟩ := px5_
  have e13_ := px5_
  have c44_ : 0 ≤ S0_.2.2.1 44 (0 + dd_) (S0_.2.2.1 42 (0 + dd_) a1_.toNat / 2).toNat ∧ S0_.2.2.1 44 (0 + dd_) (S0_.2.2.1 42 (0 + dd_) a1_.toNat / 2).toNat ≤ 2025 := hI_.2 44 (0 + dd_) _
  have x13_ := swx c44_ (show 0 ≤ S0_.2.2.1 42 (0 + dd_) a1_.toNat % 2 ∧ S0_.2.2.1 42 (0 + dd_) a1_.toNat % 2 ≤ 1 by omega)
  refine sm_T_go 1 (c1 := (17, [some (.inr (.inr (some (6, 0)))), some (.inl a1_)], [.inl 1, .inl vx7_], S0_)) rfl ?_
  refine sm_T_bin (w := (vx7_ / 2)) rfl (bi_shr (k := 1) (by decide) (by omega) (by omega)) ?_ -- pc_ 17
  refine sm_T_ri rfl ⟨_, _, rfl, rfl, _, rfl, ?_⟩
  refine ⟨by omega, fun F_ hg_ hs_ u_ w_ => ?_⟩
  have n13_ : S0_.1 3 dd_ 4 ≤ 1013 := (hI_.1 3 dd_ 4 rfl).2
  have g9_ := hg_.2.2 a1_.toNat (by omega) (by omega)
  have s9_ := swl_n hs_ (l_ := S0_.2.2.1 42 (0 + dd_) a1_.toNat) (by omega) (by omega) (by omega)
  rw [e13_]
  exact s9_.1
end
/-! 99.zn1b -/
section
/-! Mapper.highNode -/
def vw_93 : sx_Wl := ([], [], [])
def vq_93 (a1_ : Int) (dd_ : Nat) (S0_ : sm_S) (u_ : Option sm_V) (S1_ : sm_S) : Prop := S0_ = S1_ ∧ ∃ v_ : Int, u_ = some (.inl v_) ∧ ((0 ≤ v_ ∧ v_ ≤ 1012) ∧ ∀ F_ : Nat, dgr dd_ F_ S0_ → swp dd_ F_ S0_ → (F_ : Int) ≤ a1_ → a1_ < S0_.1 3 dd_ 4 → v_ = (srp dd_ S0_ (S0_.2.2.1 43 (0 + dd_) a1_.toNat) : Int))
set_option maxHeartbeats 400000 in
theorem vc_93 {sc_ : Nat × (Nat → Int)} (a1_ : Int) (dd_ : Nat) (S0_ : sm_S) (hI_ : gi S0_) (hd_ : S0_.2.1 6 0 0 = some dd_) (h1_ : 0 ≤ a1_ ∧ a1_ ≤ 1012) : sm_T (mt_P sc_) 1 93 (0, [some (.inr (.inr (some (6, 0)))), some (.inl a1_)], [], S0_) (fun ro9_ => ∃ u_ S1_, ro9_ = (.inl u_, S1_, 0) ∧ vq_93 a1_ dd_ S0_ u_ S1_) := by
  have hF_ : ai_fr (sx_W vw_93) S0_ S0_ := ai_fr_rf
  refine sm_T_go 1 (c1 := (1, [some (.inr (.inr (some (6, 0)))), some (.inl a1_)], [.inr (.inr (some (6, 0)))], S0_)) rfl ?_
  refine sm_T_gr rfl rfl ((hF_.2.1 6 0 0 rfl).trans hd_) ?_
  refine sm_T_go 1 (c1 := (5, [some (.inr (.inr (some (6, 0)))), some (.inl a1_)], [.inr (.inr (some (6, 0))), .inr (.inr (some (3, dd_)))], S0_)) rfl ?_
  refine sm_T_gr rfl rfl ((hF_.2.1 6 0 0 rfl).trans hd_) ?_
  refine sm_T_go 2 (c1 := (12, [some (.inr (.inr (some (6, 0)))), some (.inl a1_)], [.inl a1_, .inr (.inr (some (43, (0 + dd_)))), .inr (.inr (some (3, dd_)))], S0_)) rfl ?_
  refine sm_T_iald (n := 1013) rfl rfl (by omega) (by omega) ?_
  have bx1_ : 0 ≤ S0_.2.2.1 43 (0 + dd_) a1_.toNat ∧ S0_.2.2.1 43 (0 + dd_) a1_.toNat ≤ 2025 := hI_.2 43 (0 + dd_) _
  refine sm_T_cal (d1 := 0) (Q1 := vq_64 (S0_.2.2.1 43 (0 + dd_) a1_.toNat) dd_ S0_) rfl rfl (by decide) (vc_64 (S0_.2.2.1 43 (0 + dd_) a1_.toNat) dd_ S0_ hI_ (by omega)) (fun u_ Sx2_ px5_ => ?_)
  obtain ⟨rfl, vx7_, rfl, px5_⟩ := px5_
  have e13_ := px5_
  have c44_ : 0 ≤ S0_.2.2.1 44 (0 + dd_) (S0_.2.2.1 43 (0 + dd_) a1_.toNat / 2).toNat ∧ S0_.2.2.1 44 (0 + dd_) (S0_.2.2.1 43 (0 + dd_) a1_.toNat / 2).toNat ≤ 2025 := hI_.2 44 (0 + dd_) _
  have x13_ := swx c44_ (show 0 ≤ S0_.2.2.1 43 (0 + dd_) a1_.toNat % 2 ∧ S0_.2.2.1 43 (0 + dd_) a1_.toNat % 2 ≤ 1 by omega)
  refine sm_T_go 1 (c1 := (17, [some (.inr (.inr (some (6, 0)))), some (.inl a1_)], [.inl 1, .inl vx7_], S0_)) rfl ?_
  refine sm_T_bin (w := (vx7_ / 2)) rfl (bi_shr (k := 1) (by decide) (by omega) (by omega)) ?_ -- pc_ 17
  refine sm_T_ri rfl ⟨_, _, rfl, rfl, _, rfl, ?_⟩
  refine ⟨by omega, fun F_ hg_ hs_ u_ w_ => ?_⟩
  have n13_ : S0_.1 3 dd_ 4 ≤ 1013 := (hI_.1 3 dd_ 4 rfl).2
  have g9_ := hg_.2.2 a1_.toNat (by omega) (by omega)
  have s9_ := swl_n hs_ (l_ := S0_.2.2.1 43 (0 + dd_) a1_.toNat) (by omega) (by omega) (by omega)
  rw [e13_]
  exact s9_.1
end
/-! 99.zn1c -/
section
/-! Mapper.isLeaf -/
def vw_94 : sx_Wl := ([], [], [])
def vq_94 (a1_ : Int) (dd_ : Nat) (S0_ : sm_S) (u_ : Option sm_V) (S1_ : sm_S) : Prop := S0_ = S1_ ∧ ∃ v_ : Int, u_ = some (.inl v_) ∧ ((v_ = 1 ∧ (a1_ < 1 + S0_.1 3 dd_ 1 + S0_.1 3 dd_ 2 ∨ S0_.2.2.1 60 0 a1_.toNat ≠ 0)) ∨ (v_ = 0 ∧ 1 + S0_.1 3 dd_ 1 + S0_.1 3 dd_ 2 ≤ a1_ ∧ S0_.2.2.1 60 0 a1_.toNat = 0))
set_option maxHeartbeats 400000 in
theorem vc_94 {sc_ : Nat × (Nat → Int)} (a1_ : Int) (dd_ : Nat) (S0_ : sm_S) (hI_ : gi S0_) (hd_ : S0_.2.1 6 0 0 = some dd_) (h1_ : 0 ≤ a1_ ∧ a1_ ≤ 1012) : sm_T (mt_P sc_) 1 94 (0, [some (.inr (.inr (some (6, 0)))), some (.inl a1_)], [], S0_) (fun ro9_ => ∃ u_ S1_, ro9_ = (.inl u_, S1_, 0) ∧ vq_94 a1_ dd_ S0_ u_ S1_) := by
  have hF_ : ai_fr (sx_W vw_94) S0_ S0_ := ai_fr_rf
  have c1_ : 0 ≤ S0_.1 3 dd_ 1 ∧ S0_.1 3 dd_ 1 ≤ 320 := hI_.1 3 dd_ 1 rfl
  have c2_ : 0 ≤ S0_.1 3 dd_ 2 ∧ S0_.1 3 dd_ 2 ≤ 100000 := hI_.1 3 dd_ 2 rfl
  refine sm_T_go 2 (c1 := (2, [some (.inr (.inr (some (6, 0)))), some (.inl a1_)], [.inr (.inr (some (6, 0))), .inl a1_], S0_)) rfl ?_
  refine sm_T_gr rfl rfl ((hF_.2.1 6 0 0 rfl).trans hd_) ?_
  refine sm_T_cal (d1 := 0) (Q1 := vq_63 dd_ S0_) rfl rfl (by decide) (vc_63 dd_ S0_ hI_ (by omega)) (fun u_ Sx1_ px4_ => ?_)
  obtain ⟨rfl, vx6_, rfl, px4_⟩ := px4_
  have f5_ := px4_
  refine sm_T_br (a := 2) (z := 12) rfl (fun cx7_ => ?_) (fun cx7_ => ?_)
  · have cx7_ : a1_ < vx6_ := of_decide_eq_true cx7_
    refine sm_T_go 2 (c1 := (25, [some (.inr (.inr (some (6, 0)))), some (.inl a1_)], [.inl 1], S0_)) rfl ?_
    refine sm_T_rz rfl (by omega) ⟨_, _, rfl, rfl, _, rfl, ?_⟩
    omega
  · have cx7_ : ¬ (a1_ < vx6_) := of_decide_eq_false cx7_
    refine sm_T_go 3 (c1 := (16, [some (.inr (.inr (some (6, 0)))), some (.inl a1_)], [.inl a1_, .inr (.inr (some (60, 0)))], S0_)) rfl ?_
    refine sm_T_iald (n := 1013) rfl rfl (by omega) (by omega) ?_
    have bx8_ : (-2147483648) ≤ S0_.2.2.1 60 0 a1_.toNat ∧ S0_.2.2.1 60 0 a1_.toNat ≤ 2147483647 := hI_.2 60 0 _
    refine sm_T_b0 (a := 0) (z := 7) rfl (fun cx9_ => ?_) (fun cx9_ => ?_)
    · have cx9_ : (S0_.2.2.1 60 0 a1_.toNat) = 0 := of_decide_eq_true cx9_
      refine sm_T_go 1 (c1 := (25, [some (.inr (.inr (some (6, 0)))), some (.inl a1_)], [.inl 0], S0_)) rfl ?_
      refine sm_T_rz rfl (by omega) ⟨_, _, rfl, rfl, _, rfl, ?_⟩
      omega
    · have cx9_ : ¬ ((S0_.2.2.1 60 0 a1_.toNat) = 0) := of_decide_eq_false cx9_
      refine sm_T_go 2 (c1 := (25, [some (.inr (.inr (some (6, 0)))), some (.inl a1_)], [.inl 1], S0_)) rfl ?_
      refine sm_T_rz rfl (by omega) ⟨_, _, rfl, rfl, _, rfl, ?_⟩
      omega
def plo (a_ b_ c_ : Int) : Int := if a_ = 2 then st_at 4 (3 * b_ + c_) else st_at 4 (3 * b_ + c_ + 6)
theorem pl2 {i_ : Int} (h_ : i_ = 0 ∨ i_ = 1 ∨ i_ = 3 ∨ i_ = 4) : 0 ≤ st_at 4 i_ ∧ st_at 4 i_ ≤ 1 := by
  rcases h_ with h_ | h_ | h_ | h_ <;> rw [h_] <;> decide
theorem pl3 {i_ : Int} (h_ : 0 ≤ i_ ∧ i_ ≤ 23) : 0 ≤ st_at 4 i_ ∧ st_at 4 i_ ≤ 2 := by
  have c_ : ∀ k_ : Fin 24, 0 ≤ st_at 4 ((k_.val : Nat) : Int) ∧ st_at 4 ((k_.val : Nat) : Int) ≤ 2 := by decide
  have q_ := c_ ⟨i_.toNat, by omega⟩
  rw [show (((⟨i_.toNat, by omega⟩ : Fin 24).val : Nat) : Int) = i_ from by show ((i_.toNat : Nat) : Int) = i_; omega] at q_
  exact q_
end
/-! 99.zn1d -/
section
/-! Mapper.placeOf -/
def vw_98 : sx_Wl := ([], [], [])
def vq_98 (a0_ : Int) (a1_ : Int) (a2_ : Int) (S0_ : sm_S) (u_ : Option sm_V) (S1_ : sm_S) : Prop := S0_ = S1_ ∧ ∃ v_ : Int, u_ = some (.inl v_) ∧ ((0 ≤ v_ ∧ v_ ≤ a0_ - 1) ∧ v_ = plo a0_ a1_ a2_)
set_option maxHeartbeats 400000 in
theorem vc_98 {sc_ : Nat × (Nat → Int)} (a0_ : Int) (a1_ : Int) (a2_ : Int) (S0_ : sm_S) (hI_ : gi S0_) (h0_ : (a0_ = 2 ∧ 0 ≤ a1_ ∧ a1_ ≤ 1 ∧ 0 ≤ a2_ ∧ a2_ ≤ 1) ∨ (a0_ = 3 ∧ 0 ≤ a1_ ∧ a1_ ≤ 5 ∧ 0 ≤ a2_ ∧ a2_ ≤ 2)) : sm_T (mt_P sc_) 0 98 (0, [some (.inl a0_), some (.inl a1_), some (.inl a2_)], [], S0_) (fun ro9_ => ∃ u_ S1_, ro9_ = (.inl u_, S1_, 0) ∧ vq_98 a0_ a1_ a2_ S0_ u_ S1_) := by
  have hF_ : ai_fr (sx_W vw_98) S0_ S0_ := ai_fr_rf
  refine sm_T_nt (u := some (.inr (.inr (some (300, 0))))) (S1 := S0_) rfl rfl rfl ?_
  refine sm_T_go 3 (c1 := (6, [some (.inl a0_), some (.inl a1_), some (.inl a2_)], [.inl 2, .inl a0_, .inl 3, .inr (.inr (some (300, 0)))], S0_)) rfl ?_
  refine sm_T_br (a := 1) (z := 7) rfl (fun cx1_ => ?_) (fun cx1_ => ?_)
  · have cx1_ : a0_ ≠ 2 := of_decide_eq_true cx1_
    refine sm_T_go 2 (c1 := (15, [some (.inl a0_), some (.inl a1_), some (.inl a2_)], [.inl a1_, .inl 2, .inl 3, .inr (.inr (some (300, 0)))], S0_)) rfl ?_
    refine sm_T_bin (w := a1_ + 2) rfl (bi_add (by omega) (by omega) (by omega)) ?_ -- pc_ 15
    refine sm_T_bin (w := 3 * a1_ + 6) rfl (bi_mul (by omega) (by omega) (by omega)) ?_ -- pc_ 16
    refine sm_T_go 1 (c1 := (18, [some (.inl a0_), some (.inl a1_), some (.inl a2_)], [.inl a2_, .inl (3 * a1_ + 6), .inr (.inr (some (300, 0)))], S0_)) rfl ?_
    refine sm_T_bin (w := 3 * a1_ + a2_ + 6) rfl (bi_add (by omega) (by omega) (by omega)) ?_ -- pc_ 18
    refine sm_T_nt (u := some (.inl (st_at 4 (3 * a1_ + a2_ + 6)))) (S1 := S0_) rfl rfl (nt_st (sc := sc_) (j := 4) (n := 24) (by decide) rfl rfl (by omega) (by omega)) ?_
    refine sm_T_ri rfl ⟨_, _, rfl, rfl, _, rfl, ?_⟩
    first | (have z9_ := pl2 (i_ := 3 * a1_ + a2_) (by omega); exact ⟨by omega, by unfold plo; rw [if_pos (by omega)]⟩) | (have z9_ := pl3 (i_ := 3 * a1_ + a2_ + 6) (by omega); exact ⟨by omega, by unfold plo; rw [if_neg (by omega)]⟩)
  · have cx1_ : ¬ (a0_ ≠ 2) := of_decide_eq_false cx1_
    refine sm_T_go 2 (c1 := (16, [some (.inl a0_), some (.inl a1_), some (.inl a2_)], [.inl a1_, .inl 3, .inr (.inr (some (300, 0)))], S0_)) rfl ?_
    refine sm_T_bin (w := 3 * a1_) rfl (bi_mul (by omega) (by omega) (by omega)) ?_ -- pc_ 16
    refine sm_T_go 1 (c1 := (18, [some (.inl a0_), some (.inl a1_), some (.inl a2_)], [.inl a2_, .inl (3 * a1_), .inr (.inr (some (300, 0)))], S0_)) rfl ?_
    refine sm_T_bin (w := 3 * a1_ + a2_) rfl (bi_add (by omega) (by omega) (by omega)) ?_ -- pc_ 18
    refine sm_T_nt (u := some (.inl (st_at 4 (3 * a1_ + a2_)))) (S1 := S0_) rfl rfl (nt_st (sc := sc_) (j := 4) (n := 24) (by decide) rfl rfl (by omega) (by omega)) ?_
    refine sm_T_ri rfl ⟨_, _, rfl, rfl, _, rfl, ?_⟩
    first | (have z9_ := pl2 (i_ := 3 * a1_ + a2_) (by omega); exact ⟨by omega, by unfold plo; rw [if_pos (by omega)]⟩) | (have z9_ := pl3 (i_ := 3 * a1_ + a2_ + 6) (by omega); exact ⟨by omega, by unfold plo; rw [if_neg (by omega)]⟩)
end
/-! 99.zn1e -/
section
/-! Mapper.placeIn -/
end
/-! 99.zn1f -/
section
/-! Mapper.isBefore -/
/-- members and cuts: nodes of_ a_ kind -/
def mms (P_ : Int → Prop) (S_ : sm_S) (k_ h_ : Int) : Prop := ∀ i_ : Nat, (i_ : Int) ≤ k_ → (i_ : Int) ≠ h_ → P_ (S_.2.2.1 68 0 i_)
def mcs (P_ : Int → Prop) (S_ : sm_S) : Prop := ∀ c_ : Nat, (c_ : Int) < S_.1 6 0 11 → P_ (S_.2.2.1 65 0 (3 * c_)) ∧ P_ (S_.2.2.1 65 0 (3 * c_ + 1)) ∧ (S_.2.2.1 65 0 (3 * c_ + 2) = -1 ∨ P_ (S_.2.2.1 65 0 (3 * c_ + 2)))
theorem mms_mv {P_ : Int → Prop} {S_ : sm_S} {k_ h_ : Int} (g_ : mms P_ S_ k_ h_) (h0_ : 1 ≤ h_ ∧ h_ ≤ k_) : mms P_ (sm_aI S_ 68 0 h_.toNat (S_.2.2.1 68 0 (h_ - 1).toNat)) k_ (h_ - 1) := by
  intro i_ hi_ hn_
  rw [rd_eq]
  by_cases y_ : i_ = h_.toNat
  · rw [if_pos y_]; exact g_ (h_ - 1).toNat (by omega) (by omega)
  · rw [if_neg y_]; exact g_ i_ hi_ (by omega)
end
/-! 99.zn1g -/
section
/-! Mapper.addMember -/
end
/-! 99.zn1h -/
section
/-! Mapper.addCut -/
end
/-! 99.zn1i -/
section
/-! Mapper.sortCuts -/
end
/-! 99.zn2a -/
section
/-! what is needed; written by wip/p55/gen/vg -/

/-! what a_ needed node is_ made of_ -/
theorem nd_p {dd_ F_ : Nat} {S_ : sm_S} {u_ : Nat → Int} {x_ : Nat} (hg_ : dgr dd_ F_ S_) (hs_ : swp dd_ F_ S_) (hk_ : mkd dd_ F_ S_ u_) (n13_ : S_.1 3 dd_ 4 ≤ 1013) (h1_ : F_ ≤ x_) (h2_ : (x_ : Int) < S_.1 3 dd_ 4) (h3_ : u_ x_ = 1) :
    (1 ≤ srp dd_ S_ (S_.2.2.1 42 (0 + dd_) x_) ∧ srp dd_ S_ (S_.2.2.1 42 (0 + dd_) x_) < x_ ∧ u_ (srp dd_ S_ (S_.2.2.1 42 (0 + dd_) x_)) = 1) ∧ (1 ≤ srp dd_ S_ (S_.2.2.1 43 (0 + dd_) x_) ∧ srp dd_ S_ (S_.2.2.1 43 (0 + dd_) x_) < x_ ∧ u_ (srp dd_ S_ (S_.2.2.1 43 (0 + dd_) x_)) = 1) ∧ srp dd_ S_ (S_.2.2.1 42 (0 + dd_) x_) ≠ srp dd_ S_ (S_.2.2.1 43 (0 + dd_) x_) := by
  have g_ := hg_.2.2 x_ h1_ h2_
  have a_ := srp_b hs_ (l_ := S_.2.2.1 42 (0 + dd_) x_) (by omega) (by omega)
  have b_ := srp_b hs_ (l_ := S_.2.2.1 43 (0 + dd_) x_) (by omega) (by omega)
  have c_ := hk_.2.2 x_ h1_ h2_ h3_
  have d_ : S_.2.2.1 44 (0 + dd_) x_ = 2 * (x_ : Int) := by
    rcases hk_.1 x_ (by omega) with z_ | z_
    · rw [z_] at h3_; exact absurd h3_ (by decide)
    · exact z_.2.2
  have e_ := (hs_.2 x_ h2_).2.2 h1_ d_
  have e1_ : (srp dd_ S_ (S_.2.2.1 42 (0 + dd_) x_) : Int) = S_.2.2.1 44 (0 + dd_) (S_.2.2.1 42 (0 + dd_) x_ / 2).toNat / 2 := by unfold srp; omega
  have e2_ : (srp dd_ S_ (S_.2.2.1 43 (0 + dd_) x_) : Int) = S_.2.2.1 44 (0 + dd_) (S_.2.2.1 43 (0 + dd_) x_ / 2).toNat / 2 := by unfold srp; omega
  obtain ⟨m1_, m2_, m3⟩ := e_
  exact ⟨⟨by omega, by omega, c_.1⟩, ⟨by omega, by omega, c_.2⟩, by omega⟩
/-- nodes below n_ that are_ needed -/
def npd (n_ : Int) (u_ : Nat → Int) (x_ : Int) : Prop := 1 ≤ x_ ∧ x_ < n_ ∧ u_ x_.toNat = 1
theorem mcs_fr {w_ : sx_Wl} {P_ : Int → Prop} {S_ S'_ : sm_S} (g_ : mcs P_ S_) (f_ : ai_fr (sx_W w_) S_ S'_) (a_ : (sx_W w_).2.1 65 = false := by rfl) (b_ : (sx_W w_).1 6 11 = false := by rfl) : mcs P_ S'_ := fun c_ hc_ => by
  rw [f_.1 6 0 11 b_] at hc_
  rw [(f_.2.2 65 a_ 0 (3 * c_)).1, (f_.2.2 65 a_ 0 (3 * c_ + 1)).1, (f_.2.2 65 a_ 0 (3 * c_ + 2)).1]
  exact g_ c_ hc_
theorem mms_0 {P_ : Int → Prop} {S_ : sm_S} : mms P_ S_ 0 0 := fun i_ hi_ hn_ => by exfalso; omega
theorem mcs_a {P_ : Int → Prop} {S_ : sm_S} (g_ : mcs P_ S_) {i_ k_ : Int} (hi_ : 0 ≤ i_ ∧ i_ < S_.1 6 0 11) (hk_ : 0 ≤ k_ ∧ k_ ≤ 2) (hn_ : S_.2.2.1 65 0 (3 * i_ + k_).toNat ≠ -1) : P_ (S_.2.2.1 65 0 (3 * i_ + k_).toNat) := by
  have q_ := g_ i_.toNat (by omega)
  have c_ : k_ = 0 ∨ k_ = 1 ∨ k_ = 2 := by omega
  rcases c_ with c_ | c_ | c_
  · rw [show (3 * i_ + k_).toNat = 3 * i_.toNat by omega]; exact q_.1
  · rw [show (3 * i_ + k_).toNat = 3 * i_.toNat + 1 by omega]; exact q_.2.1
  · rw [show (3 * i_ + k_).toNat = 3 * i_.toNat + 2 by omega] at hn_ ⊢
    exact q_.2.2.resolve_left hn_
theorem vt3 {k_ : Int} (h_ : 0 ≤ k_ ∧ k_ ≤ 2) : 0 ≤ st_at 3 k_ ∧ st_at 3 k_ ≤ 255 := by
  have c_ : k_ = 0 ∨ k_ = 1 ∨ k_ = 2 := by omega
  rcases c_ with c_ | c_ | c_ <;> rw [c_] <;> decide
/-! java/util/Arrays.fill -/
def vw_2m9 : sx_Wl := ([], [59], [])
def vq_2m9 (v0_ : Int) (S0_ : sm_S) (u_ : Option sm_V) (S1_ : sm_S) : Prop := u_ = none ∧ gi S1_ ∧ ai_fr (sx_W vw_2m9) S0_ S1_ ∧ (∀ j_, j_ < 1013 → S1_.2.2.1 59 0 j_ = v0_)
set_option maxHeartbeats 400000 in
theorem vl_2m9 {sc_ : Nat × (Nat → Int)} (v0_ : Int) (S0_ : sm_S) (hv_ : 0 ≤ v0_ ∧ v0_ ≤ 1) : ∀ nn_ : Nat, (∀ (k_ : Int) (S_ : sm_S), gi S_ → ai_fr (sx_W vw_2m9) S0_ S_ → ((0 ≤ k_ ∧ k_ ≤ 1013) ∧ (∀ j_, j_ < k_.toNat → S_.2.2.1 59 0 j_ = v0_) ∧ True) → ((1013 - k_).toNat) < nn_ → sm_T (mt_P sc_) 0 2 (5, [some (.inr (.inr (some (59, 0)))), some (.inl v0_), some (.inl k_), some (.inl 1013)], [], S_) (fun ro9_ => ∃ u_ S1_, ro9_ = (.inl u_, S1_, 0) ∧ vq_2m9 v0_ S0_ u_ S1_)) := by
  intro nn_
  induction nn_ with
  | zero => exact fun _ _ _ _ _ h_ => absurd h_ (Nat.not_lt_zero _)
  | succ nn_ ih_ =>
    rintro k_ S_ hI_ hF_ ⟨h0_, h1_, -⟩ hm_
    refine sm_T_go 2 (c1 := (7, [some (.inr (.inr (some (59, 0)))), some (.inl v0_), some (.inl k_), some (.inl 1013)], [.inl 1013, .inl k_], S_)) rfl ?_
    refine sm_T_br (a := 3) (z := 13) rfl (fun cx1_ => ?_) (fun cx1_ => ?_)
    · have cx1_ : 1013 ≤ k_ := of_decide_eq_true cx1_
      refine sm_T_rv rfl ⟨_, _, rfl, rfl, hI_, hF_, ?_⟩
      exact fun j_ hj_ => h1_ j_ (by omega)
    · have cx1_ : ¬ (1013 ≤ k_) := of_decide_eq_false cx1_
      refine sm_T_go 3 (c1 := (13, [some (.inr (.inr (some (59, 0)))), some (.inl v0_), some (.inl k_), some (.inl 1013)], [.inl v0_, .inl k_, .inr (.inr (some (59, 0)))], S_)) rfl ?_
      refine sm_T_iast (n := 1013) rfl rfl (by omega) (by omega) ?_
      have hIx2_ : gi (sm_aI S_ 59 0 k_.toNat v0_) := gi_aI hI_ (show 0 ≤ v0_ ∧ v0_ ≤ 1 from ⟨by omega, by omega⟩)
      have hFx3_ : ai_fr (sx_W vw_2m9) S0_ (sm_aI S_ 59 0 k_.toNat v0_) := ai_fr_tr hF_ (ai_fr_aI rfl)
      refine sm_T_inc (a := 2) (z := 1) (v := k_) (w := k_ + 1) rfl rfl (by omega) (by omega) (by omega) ?_ -- pc_ 14
      refine sm_T_go 1 (c1 := (5, [some (.inr (.inr (some (59, 0)))), some (.inl v0_), some (.inl (k_ + 1)), some (.inl 1013)], [], sm_aI S_ 59 0 k_.toNat v0_)) rfl ?_
      refine ih_ (k_ + 1) (sm_aI S_ 59 0 k_.toNat v0_) hIx2_ hFx3_ ⟨?_, ?_, trivial⟩ ?_
      · omega
      · intro j_ hj_
        rw [rd_eq]
        by_cases z_ : j_ = k_.toNat
        · rw [if_pos z_]
        · rw [if_neg z_]; exact h1_ j_ (by omega)
      · omega
set_option maxHeartbeats 400000 in
theorem vc_2m9 {sc_ : Nat × (Nat → Int)} (v0_ : Int) (S0_ : sm_S) (hI_ : gi S0_) (hv_ : 0 ≤ v0_ ∧ v0_ ≤ 1) : sm_T (mt_P sc_) 0 2 (0, [some (.inr (.inr (some (59, 0)))), some (.inl v0_), none, none], [], S0_) (fun ro9_ => ∃ u_ S1_, ro9_ = (.inl u_, S1_, 0) ∧ vq_2m9 v0_ S0_ u_ S1_) := by
  have hF_ : ai_fr (sx_W vw_2m9) S0_ S0_ := ai_fr_rf
  refine sm_T_go 5 (c1 := (5, [some (.inr (.inr (some (59, 0)))), some (.inl v0_), some (.inl 0), some (.inl 1013)], [], S0_)) rfl ?_
  refine (vl_2m9 v0_ S0_ hv_ _) 0 S0_ hI_ hF_ ⟨?_, ?_, trivial⟩ (Nat.lt_succ_self _)
  · omega
  · (intro j_ hj_; exact absurd hj_ (Nat.not_lt_zero _))
end
/-! 99.zn2b -/
section
/-! Design.markNeeded -/
end
/-! 99.zn3a -/
section
/-! cuts; written by wip/p55/gen/vg -/
/-! Mapper.collectCuts -/
end
/-! 99.zn4a -/
section
/-! roots, tables over cuts; written by wip/p55/gen/vg -/
/-! java/util/Arrays.fill -/
def vw_2r0 : sx_Wl := ([], [60], [])
def vq_2r0 (v0_ : Int) (S0_ : sm_S) (u_ : Option sm_V) (S1_ : sm_S) : Prop := u_ = none ∧ gi S1_ ∧ ai_fr (sx_W vw_2r0) S0_ S1_ ∧ (∀ j_, j_ < 1013 → S1_.2.2.1 60 0 j_ = v0_)
set_option maxHeartbeats 400000 in
theorem vl_2r0 {sc_ : Nat × (Nat → Int)} (v0_ : Int) (S0_ : sm_S) (hv_ : (-2147483648) ≤ v0_ ∧ v0_ ≤ 2147483647) : ∀ nn_ : Nat, (∀ (k_ : Int) (S_ : sm_S), gi S_ → ai_fr (sx_W vw_2r0) S0_ S_ → ((0 ≤ k_ ∧ k_ ≤ 1013) ∧ (∀ j_, j_ < k_.toNat → S_.2.2.1 60 0 j_ = v0_) ∧ True) → ((1013 - k_).toNat) < nn_ → sm_T (mt_P sc_) 0 2 (5, [some (.inr (.inr (some (60, 0)))), some (.inl v0_), some (.inl k_), some (.inl 1013)], [], S_) (fun ro9_ => ∃ u_ S1_, ro9_ = (.inl u_, S1_, 0) ∧ vq_2r0 v0_ S0_ u_ S1_)) := by
  intro nn_
  induction nn_ with
  | zero => exact fun _ _ _ _ _ h_ => absurd h_ (Nat.not_lt_zero _)
  | succ nn_ ih_ =>
    rintro k_ S_ hI_ hF_ ⟨h0_, h1_, -⟩ hm_
    refine sm_T_go 2 (c1 := (7, [some (.inr (.inr (some (60, 0)))), some (.inl v0_), some (.inl k_), some (.inl 1013)], [.inl 1013, .inl k_], S_)) rfl ?_
    refine sm_T_br (a := 3) (z := 13) rfl (fun cx1_ => ?_) (fun cx1_ => ?_)
    · have cx1_ : 1013 ≤ k_ := of_decide_eq_true cx1_
      refine sm_T_rv rfl ⟨_, _, rfl, rfl, hI_, hF_, ?_⟩
      exact fun j_ hj_ => h1_ j_ (by omega)
    · have cx1_ : ¬ (1013 ≤ k_) := of_decide_eq_false cx1_
      refine sm_T_go 3 (c1 := (13, [some (.inr (.inr (some (60, 0)))), some (.inl v0_), some (.inl k_), some (.inl 1013)], [.inl v0_, .inl k_, .inr (.inr (some (60, 0)))], S_)) rfl ?_
      refine sm_T_iast (n := 1013) rfl rfl (by omega) (by omega) ?_
      have hIx2_ : gi (sm_aI S_ 60 0 k_.toNat v0_) := gi_aI hI_ (show (-2147483648) ≤ v0_ ∧ v0_ ≤ 2147483647 from ⟨by omega, by omega⟩)
      have hFx3_ : ai_fr (sx_W vw_2r0) S0_ (sm_aI S_ 60 0 k_.toNat v0_) := ai_fr_tr hF_ (ai_fr_aI rfl)
      refine sm_T_inc (a := 2) (z := 1) (v := k_) (w := k_ + 1) rfl rfl (by omega) (by omega) (by omega) ?_ -- pc_ 14
      refine sm_T_go 1 (c1 := (5, [some (.inr (.inr (some (60, 0)))), some (.inl v0_), some (.inl (k_ + 1)), some (.inl 1013)], [], sm_aI S_ 60 0 k_.toNat v0_)) rfl ?_
      refine ih_ (k_ + 1) (sm_aI S_ 60 0 k_.toNat v0_) hIx2_ hFx3_ ⟨?_, ?_, trivial⟩ ?_
      · omega
      · intro j_ hj_
        rw [rd_eq]
        by_cases z_ : j_ = k_.toNat
        · rw [if_pos z_]
        · rw [if_neg z_]; exact h1_ j_ (by omega)
      · omega
set_option maxHeartbeats 400000 in
theorem vc_2r0 {sc_ : Nat × (Nat → Int)} (v0_ : Int) (S0_ : sm_S) (hI_ : gi S0_) (hv_ : (-2147483648) ≤ v0_ ∧ v0_ ≤ 2147483647) : sm_T (mt_P sc_) 0 2 (0, [some (.inr (.inr (some (60, 0)))), some (.inl v0_), none, none], [], S0_) (fun ro9_ => ∃ u_ S1_, ro9_ = (.inl u_, S1_, 0) ∧ vq_2r0 v0_ S0_ u_ S1_) := by
  have hF_ : ai_fr (sx_W vw_2r0) S0_ S0_ := ai_fr_rf
  refine sm_T_go 5 (c1 := (5, [some (.inr (.inr (some (60, 0)))), some (.inl v0_), some (.inl 0), some (.inl 1013)], [], S0_)) rfl ?_
  refine (vl_2r0 v0_ S0_ hv_ _) 0 S0_ hI_ hF_ ⟨?_, ?_, trivial⟩ (Nat.lt_succ_self _)
  · omega
  · (intro j_ hj_; exact absurd hj_ (Nat.not_lt_zero _))

theorem rtv_b {dd_ F_ : Nat} {S_ : sm_S} {i_ : Int} (hr_ : drt dd_ S_) (hs_ : swp dd_ F_ S_) (h0_ : 0 ≤ i_) (h1_ : i_ < S_.1 3 dd_ 3 + S_.1 3 dd_ 2) : (0 ≤ rtv dd_ S_ i_ ∧ rtv dd_ S_ i_ < 2 * S_.1 3 dd_ 4) ∧ (srp dd_ S_ (rtv dd_ S_ i_) : Int) < S_.1 3 dd_ 4 := by
  have a_ : 0 ≤ rtv dd_ S_ i_ ∧ rtv dd_ S_ i_ < 2 * S_.1 3 dd_ 4 := by
    unfold rtv
    split
    · exact hr_.2.1 i_.toNat (by omega)
    · exact hr_.2.2 (i_ - S_.1 3 dd_ 3).toNat (by omega)
  have b_ := srp_b hs_ a_.1 a_.2
  exact ⟨a_, by omega⟩
end
/-! 99.zn4b -/
section
/-! Mapper.findRoots -/
end
/-! 99.zn4c -/
section
/-! Mapper.wantsInverter -/
end
