/-! 99.zm3a -/
section
/-! paths found; written by wip/p55/gen/vg -/

theorem tpo_fr {w_ : sx_Wl} {S_ S'_ : sm_S} (h_ : tpo S_) (g_ : ai_fr (sx_W w_) S_ S'_) (h1_ : (sx_W w_).1 11 5 = false := by rfl) (a1_ : (sx_W w_).2.1 102 = false := by rfl) (a2_ : (sx_W w_).2.1 104 = false := by rfl) (a3_ : (sx_W w_).2.1 105 = false := by rfl) : tpo S'_ := by
  unfold tpo
  rw [g_.1 11 0 5 h1_, fr_arr g_ a1_, fr_arr g_ a2_, fr_arr g_ a3_]
  exact h_
theorem ttr_fr {w_ : sx_Wl} {S_ S'_ : sm_S} (h_ : ttr S_) (g_ : ai_fr (sx_W w_) S_ S'_) (h1_ : (sx_W w_).1 11 11 = false := by rfl) (a1_ : (sx_W w_).2.1 106 = false := by rfl) : ttr S'_ := by
  unfold ttr
  rw [g_.1 11 0 11 h1_, fr_arr g_ a1_]
  exact h_
/-! Times.lengthen -/
def vw_201 : sx_Wl := ([(11, 5), (11, 11)], [102, 103, 104, 105, 106], [])
def vq_201 (a2_ : Int) (cc_ : Nat) (S0_ : sm_S) (u_ : Option sm_V) (S1_ : sm_S) : Prop := u_ = none ∧ gi S1_ ∧ ai_fr (sx_W vw_201) S0_ S1_ ∧ (tpo S1_)
set_option maxHeartbeats 2000000 in
set_option maxRecDepth 20000 in
theorem vl_201 {sc_ : Nat × (Nat → Int)} (a2_ : Int) (cc_ : Nat) (S0_ : sm_S) (hs_ : S0_.1 2 cc_ 1 + S0_.1 2 cc_ 2 ≤ 12) (hp_ : tpo S0_) (h2_ : 0 ≤ a2_ ∧ a2_ < S0_.1 11 0 5) (hl_ : S0_.2.2.1 105 0 (152 * (S0_.2.2.1 102 0 a2_.toNat) + (S0_.2.2.1 104 0 (S0_.2.2.1 102 0 a2_.toNat).toNat) - 1).toNat < 10000) : ∀ nn_ : Nat, (∀ (bs_ : Int) (ls_ : Int) (ln_ : Int) (k_ : Int) (S_ : sm_S), gi S_ → ai_fr (sx_W vw_201) S0_ S_ → ((0 ≤ bs_ ∧ bs_ ≤ 1782 ∧ 0 ≤ ls_ ∧ ls_ ≤ 161 ∧ 0 ≤ k_ ∧ k_ ≤ 152) ∧ (tpo S_) ∧ (ttr S_) ∧ (1 ≤ S_.1 11 0 11 ∧ S_.1 11 0 11 ≤ 152) ∧ True) → ((90000 - k_).toNat) < nn_ → sm_T (mt_P sc_) 2 201 (74, [some (.inr (.inr (some (11, 0)))), some (.inr (.inr (some (2, cc_)))), some (.inl a2_), none, some (.inl bs_), some (.inl ls_), some (.inl ln_), some (.inl k_), none, none, none], [], S_) (fun ro9_ => ∃ u_ S1_, ro9_ = (.inl u_, S1_, 0) ∧ vq_201 a2_ cc_ S0_ u_ S1_)) ∧ (∀ (bs_ : Int) (ls_ : Int) (ln_ : Int) (g_ : Int) (S_ : sm_S), gi S_ → ai_fr (sx_W vw_201) S0_ S_ → ((0 ≤ bs_ ∧ bs_ ≤ 1782 ∧ 0 ≤ ls_ ∧ ls_ ≤ 161 ∧ 0 ≤ g_ ∧ g_ ≤ 162) ∧ (tpo S_) ∧ (ttr S_) ∧ (1 ≤ S_.1 11 0 11 ∧ S_.1 11 0 11 ≤ 152) ∧ True) → ((10000 + 10 * (500 - g_) + 9).toNat) < nn_ → sm_T (mt_P sc_) 2 201 (121, [some (.inr (.inr (some (11, 0)))), some (.inr (.inr (some (2, cc_)))), some (.inl a2_), none, some (.inl bs_), some (.inl ls_), some (.inl ln_), some (.inl g_), none, none, none], [], S_) (fun ro9_ => ∃ u_ S1_, ro9_ = (.inl u_, S1_, 0) ∧ vq_201 a2_ cc_ S0_ u_ S1_)) ∧ (∀ (bs_ : Int) (ls_ : Int) (ln_ : Int) (g_ : Int) (nt_ : Int) (fo_ : Int) (k_ : Int) (S_ : sm_S), gi S_ → ai_fr (sx_W vw_201) S0_ S_ → ((0 ≤ bs_ ∧ bs_ ≤ 1782 ∧ 0 ≤ ls_ ∧ ls_ ≤ 161 ∧ 0 ≤ g_ ∧ g_ < 150 ∧ 0 ≤ nt_ ∧ nt_ ≤ 161 ∧ 0 ≤ fo_ ∧ fo_ ≤ 1 ∧ 0 ≤ k_ ∧ k_ ≤ 3) ∧ (tpo S_) ∧ (ttr S_) ∧ (1 ≤ S_.1 11 0 11 ∧ S_.1 11 0 11 ≤ 152) ∧ True) → ((10000 + 10 * (500 - g_) + 8 - k_).toNat) < nn_ → sm_T (mt_P sc_) 2 201 (145, [some (.inr (.inr (some (11, 0)))), some (.inr (.inr (some (2, cc_)))), some (.inl a2_), none, some (.inl bs_), some (.inl ls_), some (.inl ln_), some (.inl g_), some (.inl nt_), some (.inl fo_), some (.inl k_)], [], S_) (fun ro9_ => ∃ u_ S1_, ro9_ = (.inl u_, S1_, 0) ∧ vq_201 a2_ cc_ S0_ u_ S1_)) ∧ (∀ (bs_ : Int) (ls_ : Int) (ln_ : Int) (e_ : Int) (S_ : sm_S), gi S_ → ai_fr (sx_W vw_201) S0_ S_ → ((0 ≤ bs_ ∧ bs_ ≤ 1782 ∧ 0 ≤ ls_ ∧ ls_ ≤ 161 ∧ 0 ≤ e_ ∧ e_ ≤ 22) ∧ (tpo S_) ∧ (ttr S_) ∧ (1 ≤ S_.1 11 0 11 ∧ S_.1 11 0 11 ≤ 152) ∧ True) → ((100 - e_).toNat) < nn_ → sm_T (mt_P sc_) 2 201 (231, [some (.inr (.inr (some (11, 0)))), some (.inr (.inr (some (2, cc_)))), some (.inl a2_), none, some (.inl bs_), some (.inl ls_), some (.inl ln_), some (.inl e_), none, none, none], [], S_) (fun ro9_ => ∃ u_ S1_, ro9_ = (.inl u_, S1_, 0) ∧ vq_201 a2_ cc_ S0_ u_ S1_)) := by
  intro nn_
  induction nn_ with
  | zero => exact ⟨fun _ _ _ _ _ _ _ _ h_ => absurd h_ (Nat.not_lt_zero _), fun _ _ _ _ _ _ _ _ h_ => absurd h_ (Nat.not_lt_zero _), fun _ _ _ _ _ _ _ _ _ _ _ h_ => absurd h_ (Nat.not_lt_zero _), fun _ _ _ _ _ _ _ _ h_ => absurd h_ (Nat.not_lt_zero _)⟩
  | succ nn_ ih_ =>
    refine ⟨?_, ?_, ?_, ?_⟩
    · rintro bs_ ls_ ln_ k_ S_ hI_ hF_ ⟨h0_, ht_, hr_, hn_, -⟩ hm_
      have z1_ : S_.1 2 cc_ 1 = S0_.1 2 cc_ 1 := hF_.1 2 cc_ 1 rfl
      have z2_ : S_.1 2 cc_ 2 = S0_.1 2 cc_ 2 := hF_.1 2 cc_ 2 rfl
      have cg9_ : 0 ≤ S_.1 2 cc_ 8 ∧ S_.1 2 cc_ 8 ≤ 150 := hI_.1 2 cc_ 8 rfl
      have ci_ : 0 ≤ S_.1 2 cc_ 1 ∧ S_.1 2 cc_ 1 ≤ 12 := hI_.1 2 cc_ 1 rfl
      have cr : 0 ≤ S_.1 2 cc_ 2 ∧ S_.1 2 cc_ 2 ≤ 6 := hI_.1 2 cc_ 2 rfl
      have bx1_ : 0 ≤ S_.1 11 0 11 ∧ S_.1 11 0 11 ≤ 152 := hI_.1 11 0 11 rfl
      refine sm_T_go 3 (c1 := (80, [some (.inr (.inr (some (11, 0)))), some (.inr (.inr (some (2, cc_)))), some (.inl a2_), none, some (.inl bs_), some (.inl ls_), some (.inl ln_), some (.inl k_), none, none, none], [.inl (S_.1 11 0 11), .inl k_], S_)) rfl ?_
      refine sm_T_br (a := 3) (z := 26) rfl (fun cx2_ => ?_) (fun cx2_ => ?_)
      · have cx2_ : (S_.1 11 0 11) ≤ k_ := of_decide_eq_true cx2_
        refine sm_T_go 3 (c1 := (110, [some (.inr (.inr (some (11, 0)))), some (.inr (.inr (some (2, cc_)))), some (.inl a2_), none, some (.inl bs_), some (.inl ls_), some (.inl ln_), some (.inl k_), none, none, none], [.inr (.inr (some (2, cc_))), .inl ls_, .inl 0], S_)) rfl ?_
        refine sm_T_cal (d1 := 0) (Q1 := vq_54 cc_ S_) rfl rfl (by decide) (vc_54 cc_ S_ hI_ ) (fun u_ Sx3_ px6_ => ?_)
        obtain ⟨rfl, vx8_, rfl, px6_⟩ := px6_
        have fg110_ := px6_.2
        refine sm_T_bin (w := ls_ - vx8_) rfl (bi_sub (by omega) (by omega) (by omega)) ?_ -- pc_ 113
        refine sm_T_go 1 (c1 := (115, [some (.inr (.inr (some (11, 0)))), some (.inr (.inr (some (2, cc_)))), some (.inl a2_), none, some (.inl bs_), some (.inl ls_), some (.inl ln_), some (.inl k_), none, none, none], [.inl 1, .inl (ls_ - vx8_), .inl 0], S_)) rfl ?_
        refine sm_T_bin (w := ls_ - vx8_ + 1) rfl (bi_add (by omega) (by omega) (by omega)) ?_ -- pc_ 115
        refine sm_T_nt (u := some (.inl (sm_mx 0 (ls_ - vx8_ + 1)))) (S1 := S_) rfl rfl rfl ?_
        have bx9_ := sm_mx_d 0 (ls_ - vx8_ + 1)
        refine sm_T_go 1 (c1 := (121, [some (.inr (.inr (some (11, 0)))), some (.inr (.inr (some (2, cc_)))), some (.inl a2_), none, some (.inl bs_), some (.inl ls_), some (.inl ln_), some (.inl (sm_mx 0 (ls_ - vx8_ + 1))), none, none, none], [], S_)) rfl ?_
        refine ih_.2.1 bs_ ls_ ln_ (sm_mx 0 (ls_ - vx8_ + 1)) S_ hI_ hF_ ⟨?_, ?_, ?_, ?_, trivial⟩ ?_
        · omega
        · first | exact ht_
        · first | exact hr_
        · first | exact hn_
        · omega
      · have cx2_ : ¬ ((S_.1 11 0 11) ≤ k_) := of_decide_eq_false cx2_
        have k9_ := hr_.1 k_.toNat (by omega)
        refine sm_T_go 6 (c1 := (95, [some (.inr (.inr (some (11, 0)))), some (.inr (.inr (some (2, cc_)))), some (.inl a2_), none, some (.inl bs_), some (.inl ls_), some (.inl ln_), some (.inl k_), none, none, none], [.inl k_, .inr (.inr (some (106, 0))), .inr (.inr (some (99, 0))), .inl ln_], S_)) rfl ?_
        refine sm_T_iald (n := 152) rfl rfl (by omega) (by omega) ?_
        have bx10_ : 0 ≤ S_.2.2.1 106 0 k_.toNat ∧ S_.2.2.1 106 0 k_.toNat ≤ 10161 := hI_.2 106 0 _
        refine sm_T_iald (n := 162) rfl rfl (by omega) (by omega) ?_
        have bx11_ : (-2147483648) ≤ S_.2.2.1 99 0 (S_.2.2.1 106 0 k_.toNat).toNat ∧ S_.2.2.1 99 0 (S_.2.2.1 106 0 k_.toNat).toNat ≤ 2147483647 := hI_.2 99 0 _
        refine sm_T_bin (w := (i_add ln_ (S_.2.2.1 99 0 (S_.2.2.1 106 0 k_.toNat).toNat))) rfl rfl ?_ -- pc_ 97
        have bx12_ := i_add_r ln_ (S_.2.2.1 99 0 (S_.2.2.1 106 0 k_.toNat).toNat)
        refine sm_T_go 1 (c1 := (100, [some (.inr (.inr (some (11, 0)))), some (.inr (.inr (some (2, cc_)))), some (.inl a2_), none, some (.inl bs_), some (.inl ls_), some (.inl (i_add ln_ (S_.2.2.1 99 0 (S_.2.2.1 106 0 k_.toNat).toNat))), some (.inl k_), none, none, none], [], S_)) rfl ?_
        refine sm_T_inc (a := 7) (z := 1) (v := k_) (w := k_ + 1) rfl rfl (by omega) (by omega) (by omega) ?_ -- pc_ 100
        refine sm_T_go 1 (c1 := (74, [some (.inr (.inr (some (11, 0)))), some (.inr (.inr (some (2, cc_)))), some (.inl a2_), none, some (.inl bs_), some (.inl ls_), some (.inl (i_add ln_ (S_.2.2.1 99 0 (S_.2.2.1 106 0 k_.toNat).toNat))), some (.inl (k_ + 1)), none, none, none], [], S_)) rfl ?_
        refine ih_.1 bs_ ls_ (i_add ln_ (S_.2.2.1 99 0 (S_.2.2.1 106 0 k_.toNat).toNat)) (k_ + 1) S_ hI_ hF_ ⟨?_, ?_, ?_, ?_, trivial⟩ ?_
        · omega
        · first | exact ht_
        · first | exact hr_
        · first | exact hn_
        · omega
    · rintro bs_ ls_ ln_ g_ S_ hI_ hF_ ⟨h0_, ht_, hr_, hn_, -⟩ hm_
      have z1_ : S_.1 2 cc_ 1 = S0_.1 2 cc_ 1 := hF_.1 2 cc_ 1 rfl
      have z2_ : S_.1 2 cc_ 2 = S0_.1 2 cc_ 2 := hF_.1 2 cc_ 2 rfl
      have cg9_ : 0 ≤ S_.1 2 cc_ 8 ∧ S_.1 2 cc_ 8 ≤ 150 := hI_.1 2 cc_ 8 rfl
      have ci_ : 0 ≤ S_.1 2 cc_ 1 ∧ S_.1 2 cc_ 1 ≤ 12 := hI_.1 2 cc_ 1 rfl
      have cr : 0 ≤ S_.1 2 cc_ 2 ∧ S_.1 2 cc_ 2 ≤ 6 := hI_.1 2 cc_ 2 rfl
      have bx1_ : 0 ≤ S_.1 2 cc_ 8 ∧ S_.1 2 cc_ 8 ≤ 150 := hI_.1 2 cc_ 8 rfl
      refine sm_T_go 3 (c1 := (127, [some (.inr (.inr (some (11, 0)))), some (.inr (.inr (some (2, cc_)))), some (.inl a2_), none, some (.inl bs_), some (.inl ls_), some (.inl ln_), some (.inl g_), none, none, none], [.inl (S_.1 2 cc_ 8), .inl g_], S_)) rfl ?_
      refine sm_T_br (a := 3) (z := 101) rfl (fun cx2_ => ?_) (fun cx2_ => ?_)
      · have cx2_ : (S_.1 2 cc_ 8) ≤ g_ := of_decide_eq_true cx2_
        refine sm_T_go 2 (c1 := (231, [some (.inr (.inr (some (11, 0)))), some (.inr (.inr (some (2, cc_)))), some (.inl a2_), none, some (.inl bs_), some (.inl ls_), some (.inl ln_), some (.inl 0), none, none, none], [], S_)) rfl ?_
        refine ih_.2.2.2 bs_ ls_ ln_ 0 S_ hI_ hF_ ⟨?_, ?_, ?_, ?_, trivial⟩ ?_
        · omega
        · first | exact ht_
        · first | exact hr_
        · first | exact hn_
        · omega
      · have cx2_ : ¬ ((S_.1 2 cc_ 8) ≤ g_) := of_decide_eq_false cx2_
        refine sm_T_go 1 (c1 := (131, [some (.inr (.inr (some (11, 0)))), some (.inr (.inr (some (2, cc_)))), some (.inl a2_), none, some (.inl bs_), some (.inl ls_), some (.inl ln_), some (.inl g_), none, none, none], [.inr (.inr (some (2, cc_)))], S_)) rfl ?_
        refine sm_T_cal (d1 := 0) (Q1 := vq_54 cc_ S_) rfl rfl (by decide) (vc_54 cc_ S_ hI_ ) (fun u_ Sx3_ px6_ => ?_)
        obtain ⟨rfl, vx8_, rfl, px6_⟩ := px6_
        have fg131_ := px6_.2
        refine sm_T_go 1 (c1 := (136, [some (.inr (.inr (some (11, 0)))), some (.inr (.inr (some (2, cc_)))), some (.inl a2_), none, some (.inl bs_), some (.inl ls_), some (.inl ln_), some (.inl g_), none, none, none], [.inl g_, .inl vx8_], S_)) rfl ?_
        refine sm_T_bin (w := vx8_ + g_) rfl (bi_add (by omega) (by omega) (by omega)) ?_ -- pc_ 136
        refine sm_T_go 5 (c1 := (145, [some (.inr (.inr (some (11, 0)))), some (.inr (.inr (some (2, cc_)))), some (.inl a2_), none, some (.inl bs_), some (.inl ls_), some (.inl ln_), some (.inl g_), some (.inl (vx8_ + g_)), some (.inl 0), some (.inl 0)], [], S_)) rfl ?_
        refine ih_.2.2.1 bs_ ls_ ln_ g_ (vx8_ + g_) 0 0 S_ hI_ hF_ ⟨?_, ?_, ?_, ?_, trivial⟩ ?_
        · omega
        · first | exact ht_
        · first | exact hr_
        · first | exact hn_
        · omega
    · rintro bs_ ls_ ln_ g_ nt_ fo_ k_ S_ hI_ hF_ ⟨h0_, ht_, hr_, hn_, -⟩ hm_
      have z1_ : S_.1 2 cc_ 1 = S0_.1 2 cc_ 1 := hF_.1 2 cc_ 1 rfl
      have z2_ : S_.1 2 cc_ 2 = S0_.1 2 cc_ 2 := hF_.1 2 cc_ 2 rfl
      have cg9_ : 0 ≤ S_.1 2 cc_ 8 ∧ S_.1 2 cc_ 8 ≤ 150 := hI_.1 2 cc_ 8 rfl
      have ci_ : 0 ≤ S_.1 2 cc_ 1 ∧ S_.1 2 cc_ 1 ≤ 12 := hI_.1 2 cc_ 1 rfl
      have cr : 0 ≤ S_.1 2 cc_ 2 ∧ S_.1 2 cc_ 2 ≤ 6 := hI_.1 2 cc_ 2 rfl
      refine sm_T_go 3 (c1 := (150, [some (.inr (.inr (some (11, 0)))), some (.inr (.inr (some (2, cc_)))), some (.inl a2_), none, some (.inl bs_), some (.inl ls_), some (.inl ln_), some (.inl g_), some (.inl nt_), some (.inl fo_), some (.inl k_)], [.inl g_, .inr (.inr (some (2, cc_))), .inl k_], S_)) rfl ?_
      refine sm_T_cal (d1 := 0) (Q1 := vq_59 g_ cc_ S_) rfl rfl (by decide) (vc_59 g_ cc_ S_ hI_ (by omega)) (fun u_ Sx1_ px4_ => ?_)
      obtain ⟨rfl, vx6_, rfl, px4_⟩ := px4_
      have gi150_ := px4_.1
      refine sm_T_br (a := 3) (z := 38) rfl (fun cx7_ => ?_) (fun cx7_ => ?_)
      · have cx7_ : vx6_ ≤ k_ := of_decide_eq_true cx7_
        refine sm_T_go 1 (c1 := (193, [some (.inr (.inr (some (11, 0)))), some (.inr (.inr (some (2, cc_)))), some (.inl a2_), none, some (.inl bs_), some (.inl ls_), some (.inl ln_), some (.inl g_), some (.inl nt_), some (.inl fo_), some (.inl k_)], [.inl fo_], S_)) rfl ?_
        refine sm_T_b0 (a := 0) (z := 29) rfl (fun cx8_ => ?_) (fun cx8_ => ?_)
        · have cx8_ : fo_ = 0 := of_decide_eq_true cx8_
          refine sm_T_inc (a := 7) (z := 1) (v := g_) (w := g_ + 1) rfl rfl (by omega) (by omega) (by omega) ?_ -- pc_ 222
          refine sm_T_go 1 (c1 := (121, [some (.inr (.inr (some (11, 0)))), some (.inr (.inr (some (2, cc_)))), some (.inl a2_), none, some (.inl bs_), some (.inl ls_), some (.inl ln_), some (.inl (g_ + 1)), some (.inl nt_), some (.inl fo_), some (.inl k_)], [], S_)) rfl ?_
          refine sm_T_wk [some (.inr (.inr (some (11, 0)))), some (.inr (.inr (some (2, cc_)))), some (.inl a2_), none, some (.inl bs_), some (.inl ls_), some (.inl ln_), some (.inl (g_ + 1)), none, none, none] (by exact ⟨rfl, rfl, rfl, rfl, rfl, rfl, rfl, trivial⟩) ?_
          refine ih_.2.1 bs_ ls_ ln_ (g_ + 1) S_ hI_ hF_ ⟨?_, ?_, ?_, ?_, trivial⟩ ?_
          · omega
          · first | exact ht_ | exact o219_
          · first | exact hr_ | exact r219_
          · first | exact hn_ | (rw [n219_]; exact hn_)
          · omega
        · have cx8_ : ¬ (fo_ = 0) := of_decide_eq_false cx8_
          refine sm_T_go 6 (c1 := (207, [some (.inr (.inr (some (11, 0)))), some (.inr (.inr (some (2, cc_)))), some (.inl a2_), none, some (.inl bs_), some (.inl ls_), some (.inl ln_), some (.inl g_), some (.inl nt_), some (.inl fo_), some (.inl k_)], [.inl nt_, .inr (.inr (some (99, 0))), .inl ln_, .inl nt_, .inr (.inr (some (11, 0)))], S_)) rfl ?_
          refine sm_T_iald (n := 162) rfl rfl (by omega) (by omega) ?_
          have bx9_ : (-2147483648) ≤ S_.2.2.1 99 0 nt_.toNat ∧ S_.2.2.1 99 0 nt_.toNat ≤ 2147483647 := hI_.2 99 0 _
          refine sm_T_bin (w := (i_add ln_ (S_.2.2.1 99 0 nt_.toNat))) rfl rfl ?_ -- pc_ 208
          have bx10_ := i_add_r ln_ (S_.2.2.1 99 0 nt_.toNat)
          refine sm_T_go 4 (c1 := (217, [some (.inr (.inr (some (11, 0)))), some (.inr (.inr (some (2, cc_)))), some (.inl a2_), none, some (.inl bs_), some (.inl ls_), some (.inl ln_), some (.inl g_), some (.inl nt_), some (.inl fo_), some (.inl k_)], [.inl nt_, .inl bs_, .inr (.inr (some (101, 0))), .inl (i_add ln_ (S_.2.2.1 99 0 nt_.toNat)), .inl nt_, .inr (.inr (some (11, 0)))], S_)) rfl ?_
          refine sm_T_bin (w := bs_ + nt_) rfl (bi_add (by omega) (by omega) (by omega)) ?_ -- pc_ 217
          refine sm_T_iald (n := 1944) rfl rfl (by omega) (by omega) ?_
          have bx11_ : (-2147483648) ≤ S_.2.2.1 101 0 (bs_ + nt_).toNat ∧ S_.2.2.1 101 0 (bs_ + nt_).toNat ≤ 2147483647 := hI_.2 101 0 _
          refine sm_T_cal (d1 := 1) (Q1 := vq_203 nt_ (i_add ln_ (S_.2.2.1 99 0 nt_.toNat)) (S_.2.2.1 101 0 (bs_ + nt_).toNat) S_) rfl rfl (by decide) (vc_203 nt_ (i_add ln_ (S_.2.2.1 99 0 nt_.toNat)) (S_.2.2.1 101 0 (bs_ + nt_).toNat) S_ hI_ (by exact ht_) (by exact hr_) (by omega) (by (intro u9_; exfalso; omega))) (fun u_ Sx12_ px15_ => ?_)
          obtain ⟨rfl, hIx13_, hFx14_, px15_⟩ := px15_
          have hFx16_ : ai_fr (sx_W vw_201) S0_ Sx12_ := ai_fr_tr hF_ (fr_le hFx14_ rfl)
          have o219_ := px15_
          have r219_ := ttr_fr hr_ hFx14_
          have n219_ := hFx14_.1 11 0 11 rfl
          refine sm_T_inc (a := 7) (z := 1) (v := g_) (w := g_ + 1) rfl rfl (by omega) (by omega) (by omega) ?_ -- pc_ 222
          refine sm_T_go 1 (c1 := (121, [some (.inr (.inr (some (11, 0)))), some (.inr (.inr (some (2, cc_)))), some (.inl a2_), none, some (.inl bs_), some (.inl ls_), some (.inl ln_), some (.inl (g_ + 1)), some (.inl nt_), some (.inl fo_), some (.inl k_)], [], Sx12_)) rfl ?_
          refine sm_T_wk [some (.inr (.inr (some (11, 0)))), some (.inr (.inr (some (2, cc_)))), some (.inl a2_), none, some (.inl bs_), some (.inl ls_), some (.inl ln_), some (.inl (g_ + 1)), none, none, none] (by exact ⟨rfl, rfl, rfl, rfl, rfl, rfl, rfl, trivial⟩) ?_
          refine ih_.2.1 bs_ ls_ ln_ (g_ + 1) Sx12_ hIx13_ hFx16_ ⟨?_, ?_, ?_, ?_, trivial⟩ ?_
          · omega
          · first | exact ht_ | exact o219_
          · first | exact hr_ | exact r219_
          · first | exact hn_ | (rw [n219_]; exact hn_)
          · omega
      · have cx7_ : ¬ (vx6_ ≤ k_) := of_decide_eq_false cx7_
        refine sm_T_go 1 (c1 := (158, [some (.inr (.inr (some (11, 0)))), some (.inr (.inr (some (2, cc_)))), some (.inl a2_), none, some (.inl bs_), some (.inl ls_), some (.inl ln_), some (.inl g_), some (.inl nt_), some (.inl fo_), some (.inl k_)], [.inl fo_], S_)) rfl ?_
        refine sm_T_b0 (a := 1) (z := 20) rfl (fun cx17_ => ?_) (fun cx17_ => ?_)
        · have cx17_ : fo_ ≠ 0 := of_decide_eq_true cx17_
          refine sm_T_go 3 (c1 := (185, [some (.inr (.inr (some (11, 0)))), some (.inr (.inr (some (2, cc_)))), some (.inl a2_), none, some (.inl bs_), some (.inl ls_), some (.inl ln_), some (.inl g_), some (.inl nt_), some (.inl 1), some (.inl k_)], [], S_)) rfl ?_
          refine sm_T_inc (a := 10) (z := 1) (v := k_) (w := k_ + 1) rfl rfl (by omega) (by omega) (by omega) ?_ -- pc_ 185
          refine sm_T_go 1 (c1 := (145, [some (.inr (.inr (some (11, 0)))), some (.inr (.inr (some (2, cc_)))), some (.inl a2_), none, some (.inl bs_), some (.inl ls_), some (.inl ln_), some (.inl g_), some (.inl nt_), some (.inl 1), some (.inl (k_ + 1))], [], S_)) rfl ?_
          refine ih_.2.2.1 bs_ ls_ ln_ g_ nt_ 1 (k_ + 1) S_ hI_ hF_ ⟨?_, ?_, ?_, ?_, trivial⟩ ?_
          · omega
          · first | exact ht_
          · first | exact hr_
          · first | exact hn_
          · omega
        · have cx17_ : ¬ (fo_ ≠ 0) := of_decide_eq_false cx17_
          refine sm_T_go 4 (c1 := (168, [some (.inr (.inr (some (11, 0)))), some (.inr (.inr (some (2, cc_)))), some (.inl a2_), none, some (.inl bs_), some (.inl ls_), some (.inl ln_), some (.inl g_), some (.inl nt_), some (.inl fo_), some (.inl k_)], [.inl g_, .inl 3, .inr (.inr (some (36, (0 + cc_))))], S_)) rfl ?_
          refine sm_T_bin (w := 3 * g_) rfl (bi_mul (by omega) (by omega) (by omega)) ?_ -- pc_ 168
          refine sm_T_go 1 (c1 := (171, [some (.inr (.inr (some (11, 0)))), some (.inr (.inr (some (2, cc_)))), some (.inl a2_), none, some (.inl bs_), some (.inl ls_), some (.inl ln_), some (.inl g_), some (.inl nt_), some (.inl fo_), some (.inl k_)], [.inl k_, .inl (3 * g_), .inr (.inr (some (36, (0 + cc_))))], S_)) rfl ?_
          refine sm_T_bin (w := 3 * g_ + k_) rfl (bi_add (by omega) (by omega) (by omega)) ?_ -- pc_ 171
          refine sm_T_iald (n := 450) rfl rfl (by omega) (by omega) ?_
          have bx18_ : 0 ≤ S_.2.2.1 36 (0 + cc_) (3 * g_ + k_).toNat ∧ S_.2.2.1 36 (0 + cc_) (3 * g_ + k_).toNat ≤ 161 := hI_.2 36 (0 + cc_) _
          refine sm_T_go 1 (c1 := (175, [some (.inr (.inr (some (11, 0)))), some (.inr (.inr (some (2, cc_)))), some (.inl a2_), none, some (.inl bs_), some (.inl ls_), some (.inl ln_), some (.inl g_), some (.inl nt_), some (.inl fo_), some (.inl k_)], [.inl ls_, .inl (S_.2.2.1 36 (0 + cc_) (3 * g_ + k_).toNat)], S_)) rfl ?_
          refine sm_T_br (a := 1) (z := 7) rfl (fun cx19_ => ?_) (fun cx19_ => ?_)
          · have cx19_ : (S_.2.2.1 36 (0 + cc_) (3 * g_ + k_).toNat) ≠ ls_ := of_decide_eq_true cx19_
            refine sm_T_go 2 (c1 := (185, [some (.inr (.inr (some (11, 0)))), some (.inr (.inr (some (2, cc_)))), some (.inl a2_), none, some (.inl bs_), some (.inl ls_), some (.inl ln_), some (.inl g_), some (.inl nt_), some (.inl 0), some (.inl k_)], [], S_)) rfl ?_
            refine sm_T_inc (a := 10) (z := 1) (v := k_) (w := k_ + 1) rfl rfl (by omega) (by omega) (by omega) ?_ -- pc_ 185
            refine sm_T_go 1 (c1 := (145, [some (.inr (.inr (some (11, 0)))), some (.inr (.inr (some (2, cc_)))), some (.inl a2_), none, some (.inl bs_), some (.inl ls_), some (.inl ln_), some (.inl g_), some (.inl nt_), some (.inl 0), some (.inl (k_ + 1))], [], S_)) rfl ?_
            refine ih_.2.2.1 bs_ ls_ ln_ g_ nt_ 0 (k_ + 1) S_ hI_ hF_ ⟨?_, ?_, ?_, ?_, trivial⟩ ?_
            · omega
            · first | exact ht_
            · first | exact hr_
            · first | exact hn_
            · omega
          · have cx19_ : ¬ ((S_.2.2.1 36 (0 + cc_) (3 * g_ + k_).toNat) ≠ ls_) := of_decide_eq_false cx19_
            refine sm_T_go 3 (c1 := (185, [some (.inr (.inr (some (11, 0)))), some (.inr (.inr (some (2, cc_)))), some (.inl a2_), none, some (.inl bs_), some (.inl ls_), some (.inl ln_), some (.inl g_), some (.inl nt_), some (.inl 1), some (.inl k_)], [], S_)) rfl ?_
            refine sm_T_inc (a := 10) (z := 1) (v := k_) (w := k_ + 1) rfl rfl (by omega) (by omega) (by omega) ?_ -- pc_ 185
            refine sm_T_go 1 (c1 := (145, [some (.inr (.inr (some (11, 0)))), some (.inr (.inr (some (2, cc_)))), some (.inl a2_), none, some (.inl bs_), some (.inl ls_), some (.inl ln_), some (.inl g_), some (.inl nt_), some (.inl 1), some (.inl (k_ + 1))], [], S_)) rfl ?_
            refine ih_.2.2.1 bs_ ls_ ln_ g_ nt_ 1 (k_ + 1) S_ hI_ hF_ ⟨?_, ?_, ?_, ?_, trivial⟩ ?_
            · omega
            · first | exact ht_
            · first | exact hr_
            · first | exact hn_
            · omega
    · rintro bs_ ls_ ln_ e_ S_ hI_ hF_ ⟨h0_, ht_, hr_, hn_, -⟩ hm_
      have z1_ : S_.1 2 cc_ 1 = S0_.1 2 cc_ 1 := hF_.1 2 cc_ 1 rfl
      have z2_ : S_.1 2 cc_ 2 = S0_.1 2 cc_ 2 := hF_.1 2 cc_ 2 rfl
      have cg9_ : 0 ≤ S_.1 2 cc_ 8 ∧ S_.1 2 cc_ 8 ≤ 150 := hI_.1 2 cc_ 8 rfl
      have ci_ : 0 ≤ S_.1 2 cc_ 1 ∧ S_.1 2 cc_ 1 ≤ 12 := hI_.1 2 cc_ 1 rfl
      have cr : 0 ≤ S_.1 2 cc_ 2 ∧ S_.1 2 cc_ 2 ≤ 6 := hI_.1 2 cc_ 2 rfl
      have co_ : 0 ≤ S_.1 2 cc_ 3 ∧ S_.1 2 cc_ 3 ≤ 16 := hI_.1 2 cc_ 3 rfl
      refine sm_T_go 2 (c1 := (234, [some (.inr (.inr (some (11, 0)))), some (.inr (.inr (some (2, cc_)))), some (.inl a2_), none, some (.inl bs_), some (.inl ls_), some (.inl ln_), some (.inl e_), none, none, none], [.inr (.inr (some (2, cc_))), .inl e_], S_)) rfl ?_
      refine sm_T_cal (d1 := 0) (Q1 := vq_57 cc_ S_) rfl rfl (by decide) (vc_57 cc_ S_ hI_ ) (fun u_ Sx1_ px4_ => ?_)
      obtain ⟨rfl, vx6_, rfl, px4_⟩ := px4_
      have nt234_ := px4_.2
      refine sm_T_br (a := 3) (z := 65) rfl (fun cx7_ => ?_) (fun cx7_ => ?_)
      · have cx7_ : vx6_ ≤ e_ := of_decide_eq_true cx7_
        refine sm_T_rv rfl ⟨_, _, rfl, rfl, hI_, hF_, ?_⟩
        exact ht_
      · have cx7_ : ¬ (vx6_ ≤ e_) := of_decide_eq_false cx7_
        refine sm_T_go 2 (c1 := (243, [some (.inr (.inr (some (11, 0)))), some (.inr (.inr (some (2, cc_)))), some (.inl a2_), none, some (.inl bs_), some (.inl ls_), some (.inl ln_), some (.inl e_), none, none, none], [.inl e_, .inr (.inr (some (2, cc_)))], S_)) rfl ?_
        refine sm_T_cal (d1 := 0) (Q1 := vq_58 e_ cc_ S_) rfl rfl (by decide) (vc_58 e_ cc_ S_ hI_ (by omega)) (fun u_ Sx8_ px11_ => ?_)
        obtain ⟨rfl, vx13_, rfl, px11_⟩ := px11_
        have en243_ := px11_
        refine sm_T_go 1 (c1 := (248, [some (.inr (.inr (some (11, 0)))), some (.inr (.inr (some (2, cc_)))), some (.inl a2_), none, some (.inl bs_), some (.inl ls_), some (.inl ln_), some (.inl e_), none, none, none], [.inl ls_, .inl vx13_], S_)) rfl ?_
        refine sm_T_br (a := 1) (z := 48) rfl (fun cx14_ => ?_) (fun cx14_ => ?_)
        · have cx14_ : vx13_ ≠ ls_ := of_decide_eq_true cx14_
          refine sm_T_inc (a := 7) (z := 1) (v := e_) (w := e_ + 1) rfl rfl (by omega) (by omega) (by omega) ?_ -- pc_ 296
          refine sm_T_go 1 (c1 := (231, [some (.inr (.inr (some (11, 0)))), some (.inr (.inr (some (2, cc_)))), some (.inl a2_), none, some (.inl bs_), some (.inl ls_), some (.inl ln_), some (.inl (e_ + 1)), none, none, none], [], S_)) rfl ?_
          refine ih_.2.2.2 bs_ ls_ ln_ (e_ + 1) S_ hI_ hF_ ⟨?_, ?_, ?_, ?_, trivial⟩ ?_
          · omega
          · first | exact ht_ | exact o293_
          · first | exact hr_ | exact r293_
          · first | exact hn_ | (rw [n293_]; exact hn_)
          · omega
        · have cx14_ : ¬ (vx13_ ≠ ls_) := of_decide_eq_false cx14_
          have f9_ : S_.2.2.1 106 0 (0 : Int).toNat < 12 := hr_.2 (by omega)
          refine sm_T_go 5 (c1 := (260, [some (.inr (.inr (some (11, 0)))), some (.inr (.inr (some (2, cc_)))), some (.inl a2_), none, some (.inl bs_), some (.inl ls_), some (.inl ln_), some (.inl e_), none, none, none], [.inl 0, .inr (.inr (some (106, 0))), .inr (.inr (some (39, (0 + cc_))))], S_)) rfl ?_
          refine sm_T_iald (n := 152) rfl rfl (by omega) (by omega) ?_
          have bx15_ : 0 ≤ S_.2.2.1 106 0 (0 : Int).toNat ∧ S_.2.2.1 106 0 (0 : Int).toNat ≤ 10161 := hI_.2 106 0 _
          refine sm_T_iald (n := 12) rfl rfl (by omega) (by omega) ?_
          have bx16_ : 0 ≤ S_.2.2.1 39 (0 + cc_) (S_.2.2.1 106 0 (0 : Int).toNat).toNat ∧ S_.2.2.1 39 (0 + cc_) (S_.2.2.1 106 0 (0 : Int).toNat).toNat ≤ 4194303 := hI_.2 39 (0 + cc_) _
          refine sm_T_go 1 (c1 := (264, [some (.inr (.inr (some (11, 0)))), some (.inr (.inr (some (2, cc_)))), some (.inl a2_), none, some (.inl bs_), some (.inl ls_), some (.inl ln_), some (.inl e_), none, none, none], [.inl e_, .inl (S_.2.2.1 39 (0 + cc_) (S_.2.2.1 106 0 (0 : Int).toNat).toNat)], S_)) rfl ?_
          refine sm_T_bin (w := (i_shr (S_.2.2.1 39 (0 + cc_) (S_.2.2.1 106 0 (0 : Int).toNat).toNat) e_)) rfl rfl ?_ -- pc_ 264
          first | have bx17_ := i_shr_p (x_ := (S_.2.2.1 39 (0 + cc_) (S_.2.2.1 106 0 (0 : Int).toNat).toNat)) (e_ := e_) (by omega) (by omega) (by omega) | have bx17_ := i_shr_n (S_.2.2.1 39 (0 + cc_) (S_.2.2.1 106 0 (0 : Int).toNat).toNat) e_
          refine sm_T_go 1 (c1 := (266, [some (.inr (.inr (some (11, 0)))), some (.inr (.inr (some (2, cc_)))), some (.inl a2_), none, some (.inl bs_), some (.inl ls_), some (.inl ln_), some (.inl e_), none, none, none], [.inl 1, .inl (i_shr (S_.2.2.1 39 (0 + cc_) (S_.2.2.1 106 0 (0 : Int).toNat).toNat) e_)], S_)) rfl ?_
          refine sm_T_bin (w := ((i_shr (S_.2.2.1 39 (0 + cc_) (S_.2.2.1 106 0 (0 : Int).toNat).toNat) e_) % 2)) rfl (bi_msk (k := 1) (by decide)) ?_ -- pc_ 266
          refine sm_T_b0 (a := 1) (z := 29) rfl (fun cx18_ => ?_) (fun cx18_ => ?_)
          · have cx18_ : ((i_shr (S_.2.2.1 39 (0 + cc_) (S_.2.2.1 106 0 (0 : Int).toNat).toNat) e_) % 2) ≠ 0 := of_decide_eq_true cx18_
            refine sm_T_inc (a := 7) (z := 1) (v := e_) (w := e_ + 1) rfl rfl (by omega) (by omega) (by omega) ?_ -- pc_ 296
            refine sm_T_go 1 (c1 := (231, [some (.inr (.inr (some (11, 0)))), some (.inr (.inr (some (2, cc_)))), some (.inl a2_), none, some (.inl bs_), some (.inl ls_), some (.inl ln_), some (.inl (e_ + 1)), none, none, none], [], S_)) rfl ?_
            refine ih_.2.2.2 bs_ ls_ ln_ (e_ + 1) S_ hI_ hF_ ⟨?_, ?_, ?_, ?_, trivial⟩ ?_
            · omega
            · first | exact ht_ | exact o293_
            · first | exact hr_ | exact r293_
            · first | exact hn_ | (rw [n293_]; exact hn_)
            · omega
          · have cx18_ : ¬ (((i_shr (S_.2.2.1 39 (0 + cc_) (S_.2.2.1 106 0 (0 : Int).toNat).toNat) e_) % 2) ≠ 0) := of_decide_eq_false cx18_
            refine sm_T_go 3 (c1 := (276, [some (.inr (.inr (some (11, 0)))), some (.inr (.inr (some (2, cc_)))), some (.inl a2_), none, some (.inl bs_), some (.inl ls_), some (.inl ln_), some (.inl e_), none, none, none], [.inl e_, .inl 10000, .inr (.inr (some (11, 0)))], S_)) rfl ?_
            refine sm_T_bin (w := e_ + 10000) rfl (bi_add (by omega) (by omega) (by omega)) ?_ -- pc_ 276
            have bx19_ : 0 ≤ S_.1 2 cc_ 3 ∧ S_.1 2 cc_ 3 ≤ 16 := hI_.1 2 cc_ 3 rfl
            refine sm_T_go 4 (c1 := (285, [some (.inr (.inr (some (11, 0)))), some (.inr (.inr (some (2, cc_)))), some (.inl a2_), none, some (.inl bs_), some (.inl ls_), some (.inl ln_), some (.inl e_), none, none, none], [.inl (S_.1 2 cc_ 3), .inl e_, .inl ln_, .inl (e_ + 10000), .inr (.inr (some (11, 0)))], S_)) rfl ?_
            refine sm_T_br (a := 3) (z := 7) rfl (fun cx20_ => ?_) (fun cx20_ => ?_)
            · have cx20_ : (S_.1 2 cc_ 3) ≤ e_ := of_decide_eq_true cx20_
              refine sm_T_go 1 (c1 := (293, [some (.inr (.inr (some (11, 0)))), some (.inr (.inr (some (2, cc_)))), some (.inl a2_), none, some (.inl bs_), some (.inl ls_), some (.inl ln_), some (.inl e_), none, none, none], [.inl 2, .inl ln_, .inl (e_ + 10000), .inr (.inr (some (11, 0)))], S_)) rfl ?_
              refine sm_T_cal (d1 := 1) (Q1 := vq_203 (e_ + 10000) ln_ 2 S_) rfl rfl (by decide) (vc_203 (e_ + 10000) ln_ 2 S_ hI_ (by exact ht_) (by exact hr_) (by omega) (by (intro u9_; exfalso; omega))) (fun u_ Sx21_ px24_ => ?_)
              obtain ⟨rfl, hIx22_, hFx23_, px24_⟩ := px24_
              have hFx25_ : ai_fr (sx_W vw_201) S0_ Sx21_ := ai_fr_tr hF_ (fr_le hFx23_ rfl)
              have ex26_ : Sx21_.1 2 cc_ 3 = S_.1 2 cc_ 3 := hFx23_.1 2 cc_ 3 rfl
              have o293_ := px24_
              have r293_ := ttr_fr hr_ hFx23_
              have n293_ := hFx23_.1 11 0 11 rfl
              refine sm_T_inc (a := 7) (z := 1) (v := e_) (w := e_ + 1) rfl rfl (by omega) (by omega) (by omega) ?_ -- pc_ 296
              refine sm_T_go 1 (c1 := (231, [some (.inr (.inr (some (11, 0)))), some (.inr (.inr (some (2, cc_)))), some (.inl a2_), none, some (.inl bs_), some (.inl ls_), some (.inl ln_), some (.inl (e_ + 1)), none, none, none], [], Sx21_)) rfl ?_
              refine ih_.2.2.2 bs_ ls_ ln_ (e_ + 1) Sx21_ hIx22_ hFx25_ ⟨?_, ?_, ?_, ?_, trivial⟩ ?_
              · omega
              · first | exact ht_ | exact o293_
              · first | exact hr_ | exact r293_
              · first | exact hn_ | (rw [n293_]; exact hn_)
              · omega
            · have cx20_ : ¬ ((S_.1 2 cc_ 3) ≤ e_) := of_decide_eq_false cx20_
              refine sm_T_go 2 (c1 := (293, [some (.inr (.inr (some (11, 0)))), some (.inr (.inr (some (2, cc_)))), some (.inl a2_), none, some (.inl bs_), some (.inl ls_), some (.inl ln_), some (.inl e_), none, none, none], [.inl 0, .inl ln_, .inl (e_ + 10000), .inr (.inr (some (11, 0)))], S_)) rfl ?_
              refine sm_T_cal (d1 := 1) (Q1 := vq_203 (e_ + 10000) ln_ 0 S_) rfl rfl (by decide) (vc_203 (e_ + 10000) ln_ 0 S_ hI_ (by exact ht_) (by exact hr_) (by omega) (by (intro u9_; exfalso; omega))) (fun u_ Sx27_ px30_ => ?_)
              obtain ⟨rfl, hIx28_, hFx29_, px30_⟩ := px30_
              have hFx31_ : ai_fr (sx_W vw_201) S0_ Sx27_ := ai_fr_tr hF_ (fr_le hFx29_ rfl)
              have ex32_ : Sx27_.1 2 cc_ 3 = S_.1 2 cc_ 3 := hFx29_.1 2 cc_ 3 rfl
              have o293_ := px30_
              have r293_ := ttr_fr hr_ hFx29_
              have n293_ := hFx29_.1 11 0 11 rfl
              refine sm_T_inc (a := 7) (z := 1) (v := e_) (w := e_ + 1) rfl rfl (by omega) (by omega) (by omega) ?_ -- pc_ 296
              refine sm_T_go 1 (c1 := (231, [some (.inr (.inr (some (11, 0)))), some (.inr (.inr (some (2, cc_)))), some (.inl a2_), none, some (.inl bs_), some (.inl ls_), some (.inl ln_), some (.inl (e_ + 1)), none, none, none], [], Sx27_)) rfl ?_
              refine ih_.2.2.2 bs_ ls_ ln_ (e_ + 1) Sx27_ hIx28_ hFx31_ ⟨?_, ?_, ?_, ?_, trivial⟩ ?_
              · omega
              · first | exact ht_ | exact o293_
              · first | exact hr_ | exact r293_
              · first | exact hn_ | (rw [n293_]; exact hn_)
              · omega
set_option maxHeartbeats 2000000 in
set_option maxRecDepth 20000 in
theorem vc_201 {sc_ : Nat × (Nat → Int)} (a2_ : Int) (cc_ : Nat) (S0_ : sm_S) (hI_ : gi S0_) (hs_ : S0_.1 2 cc_ 1 + S0_.1 2 cc_ 2 ≤ 12) (hp_ : tpo S0_) (h2_ : 0 ≤ a2_ ∧ a2_ < S0_.1 11 0 5) (hl_ : S0_.2.2.1 105 0 (152 * (S0_.2.2.1 102 0 a2_.toNat) + (S0_.2.2.1 104 0 (S0_.2.2.1 102 0 a2_.toNat).toNat) - 1).toNat < 10000) : sm_T (mt_P sc_) 2 201 (0, [some (.inr (.inr (some (11, 0)))), some (.inr (.inr (some (2, cc_)))), some (.inl a2_), none, none, none, none, none, none, none, none], [], S0_) (fun ro9_ => ∃ u_ S1_, ro9_ = (.inl u_, S1_, 0) ∧ vq_201 a2_ cc_ S0_ u_ S1_) := by
  have hF_ : ai_fr (sx_W vw_201) S0_ S0_ := ai_fr_rf
  have p40_ := hp_.1
  have co_ : 0 ≤ S0_.2.2.1 102 0 a2_.toNat ∧ S0_.2.2.1 102 0 a2_.toNat ≤ 40 := hI_.2 102 0 _
  have t9_ := hp_.2 a2_.toNat (by omega) (by omega)
  have t1_ := t9_.1
  have t2_ := t9_.2.1
  have t3_ := t9_.2.2.1
  have t4_ := t9_.2.2.2.1
  have t5_ := t9_.2.2.2.2
  rw [show 152 * (S0_.2.2.1 102 0 a2_.toNat).toNat + ((S0_.2.2.1 104 0 (S0_.2.2.1 102 0 a2_.toNat).toNat) - 1).toNat = (152 * (S0_.2.2.1 102 0 a2_.toNat) + (S0_.2.2.1 104 0 (S0_.2.2.1 102 0 a2_.toNat).toNat) - 1).toNat by omega] at t5_
  refine sm_T_go 3 (c1 := (5, [some (.inr (.inr (some (11, 0)))), some (.inr (.inr (some (2, cc_)))), some (.inl a2_), none, none, none, none, none, none, none, none], [.inl a2_, .inr (.inr (some (102, 0)))], S0_)) rfl ?_
  refine sm_T_iald (n := 41) rfl rfl (by omega) (by omega) ?_
  have bx1_ : 0 ≤ S0_.2.2.1 102 0 a2_.toNat ∧ S0_.2.2.1 102 0 a2_.toNat ≤ 40 := hI_.2 102 0 _
  refine sm_T_go 5 (c1 := (13, [some (.inr (.inr (some (11, 0)))), some (.inr (.inr (some (2, cc_)))), some (.inl a2_), some (.inl (S0_.2.2.1 102 0 a2_.toNat)), none, none, none, none, none, none, none], [.inl (S0_.2.2.1 102 0 a2_.toNat), .inr (.inr (some (104, 0))), .inr (.inr (some (11, 0)))], S0_)) rfl ?_
  refine sm_T_iald (n := 41) rfl rfl (by omega) (by omega) ?_
  have bx2_ : 0 ≤ S0_.2.2.1 104 0 (S0_.2.2.1 102 0 a2_.toNat).toNat ∧ S0_.2.2.1 104 0 (S0_.2.2.1 102 0 a2_.toNat).toNat ≤ 152 := hI_.2 104 0 _
  have hIx3_ : gi (sm_pI S0_ 11 0 11 (S0_.2.2.1 104 0 (S0_.2.2.1 102 0 a2_.toNat).toNat)) := gi_pI hI_ (show 0 ≤ (S0_.2.2.1 104 0 (S0_.2.2.1 102 0 a2_.toNat).toNat) ∧ (S0_.2.2.1 104 0 (S0_.2.2.1 102 0 a2_.toNat).toNat) ≤ 152 from ⟨by omega, by omega⟩)
  have hFx4_ : ai_fr (sx_W vw_201) S0_ (sm_pI S0_ 11 0 11 (S0_.2.2.1 104 0 (S0_.2.2.1 102 0 a2_.toNat).toNat)) := ai_fr_tr hF_ (ai_fr_pI rfl)
  refine sm_T_go 5 (c1 := (25, [some (.inr (.inr (some (11, 0)))), some (.inr (.inr (some (2, cc_)))), some (.inl a2_), some (.inl (S0_.2.2.1 102 0 a2_.toNat)), none, none, none, none, none, none, none], [.inl 152, .inl (S0_.2.2.1 102 0 a2_.toNat), .inr (.inr (some (105, 0)))], sm_pI S0_ 11 0 11 (S0_.2.2.1 104 0 (S0_.2.2.1 102 0 a2_.toNat).toNat))) rfl ?_
  refine sm_T_bin (w := 152 * (S0_.2.2.1 102 0 a2_.toNat)) rfl (bi_mul (by omega) (by omega) (by omega)) ?_ -- pc_ 25
  refine sm_T_go 5 (c1 := (35, [some (.inr (.inr (some (11, 0)))), some (.inr (.inr (some (2, cc_)))), some (.inl a2_), some (.inl (S0_.2.2.1 102 0 a2_.toNat)), none, none, none, none, none, none, none], [.inl (S0_.2.2.1 104 0 (S0_.2.2.1 102 0 a2_.toNat).toNat), .inl 0, .inr (.inr (some (106, 0))), .inl (152 * (S0_.2.2.1 102 0 a2_.toNat)), .inr (.inr (some (105, 0)))], sm_pI S0_ 11 0 11 (S0_.2.2.1 104 0 (S0_.2.2.1 102 0 a2_.toNat).toNat))) rfl ?_
  refine sm_T_nt (u := none) (S1 := sm_acI (sm_pI S0_ 11 0 11 (S0_.2.2.1 104 0 (S0_.2.2.1 102 0 a2_.toNat).toNat)) 105 0 106 0 (152 * (S0_.2.2.1 102 0 a2_.toNat)).toNat (0 : Int).toNat (S0_.2.2.1 104 0 (S0_.2.2.1 102 0 a2_.toNat).toNat).toNat) rfl rfl (nt_acI (sc := sc_) (t := 105) (i := 0) (t' := 106) (i' := 0) (x := 152 * (S0_.2.2.1 102 0 a2_.toNat)) (y := 0) (m := (S0_.2.2.1 104 0 (S0_.2.2.1 102 0 a2_.toNat).toNat)) (n := 6232) (n1 := 152) rfl rfl (by omega) (by omega) (by omega) (by omega) (by omega)) ?_
  have hIx5_ : gi (sm_acI (sm_pI S0_ 11 0 11 (S0_.2.2.1 104 0 (S0_.2.2.1 102 0 a2_.toNat).toNat)) 105 0 106 0 (152 * (S0_.2.2.1 102 0 a2_.toNat)).toNat (0 : Int).toNat (S0_.2.2.1 104 0 (S0_.2.2.1 102 0 a2_.toNat).toNat).toNat) := gi_ac hIx3_ (by decide) (by decide)
  have hFx6_ : ai_fr (sx_W vw_201) S0_ (sm_acI (sm_pI S0_ 11 0 11 (S0_.2.2.1 104 0 (S0_.2.2.1 102 0 a2_.toNat).toNat)) 105 0 106 0 (152 * (S0_.2.2.1 102 0 a2_.toNat)).toNat (0 : Int).toNat (S0_.2.2.1 104 0 (S0_.2.2.1 102 0 a2_.toNat).toNat).toNat) := ai_fr_tr hFx4_ (fr_ac rfl)
  refine sm_T_go 2 (c1 := (40, [some (.inr (.inr (some (11, 0)))), some (.inr (.inr (some (2, cc_)))), some (.inl a2_), some (.inl (S0_.2.2.1 102 0 a2_.toNat)), none, none, none, none, none, none, none], [.inl a2_, .inr (.inr (some (11, 0)))], sm_acI (sm_pI S0_ 11 0 11 (S0_.2.2.1 104 0 (S0_.2.2.1 102 0 a2_.toNat).toNat)) 105 0 106 0 (152 * (S0_.2.2.1 102 0 a2_.toNat)).toNat (0 : Int).toNat (S0_.2.2.1 104 0 (S0_.2.2.1 102 0 a2_.toNat).toNat).toNat)) rfl ?_
  refine sm_T_cal (d1 := 0) (Q1 := vq_202 a2_ (sm_acI (sm_pI S0_ 11 0 11 (S0_.2.2.1 104 0 (S0_.2.2.1 102 0 a2_.toNat).toNat)) 105 0 106 0 (152 * (S0_.2.2.1 102 0 a2_.toNat)).toNat (0 : Int).toNat (S0_.2.2.1 104 0 (S0_.2.2.1 102 0 a2_.toNat).toNat).toNat)) rfl rfl (by decide) (vc_202 a2_ (sm_acI (sm_pI S0_ 11 0 11 (S0_.2.2.1 104 0 (S0_.2.2.1 102 0 a2_.toNat).toNat)) 105 0 106 0 (152 * (S0_.2.2.1 102 0 a2_.toNat)).toNat (0 : Int).toNat (S0_.2.2.1 104 0 (S0_.2.2.1 102 0 a2_.toNat).toNat).toNat) hIx5_ (by (show 0 ≤ a2_ ∧ a2_ < S0_.1 11 0 5; omega)) (by exact hp_)) (fun u_ Sx7_ px10_ => ?_)
  obtain ⟨rfl, hIx8_, hFx9_, px10_⟩ := px10_
  have hFx11_ : ai_fr (sx_W vw_201) S0_ Sx7_ := ai_fr_tr hFx6_ (fr_le hFx9_ rfl)
  have r40_ := px10_
  have s40_ : Sx7_.1 11 0 11 = (S0_.2.2.1 104 0 (S0_.2.2.1 102 0 a2_.toNat).toNat) := hFx9_.1 11 0 11 rfl
  have w40_ := fr_arr (t := 106) (i := 0) hFx9_ rfl
  have v40_ : ∀ j_ : Nat, (j_ : Int) < (S0_.2.2.1 104 0 (S0_.2.2.1 102 0 a2_.toNat).toNat) → Sx7_.2.2.1 106 0 j_ = S0_.2.2.1 105 0 (152 * (S0_.2.2.1 102 0 a2_.toNat).toNat + j_) := fun j_ hj_ => by (rw [w40_, sm_acI_at, cp_at (b_ := (0 : Int).toNat) (Nat.zero_le _) (by show j_ < 0 + Int.toNat _; omega)]; rw [rd_fa]; exact congrArg _ (by show Int.toNat _ + (j_ - 0) = _; omega))
  have T40_ : ttr Sx7_ := ⟨fun j_ hj_ => by (rw [s40_] at hj_; rw [v40_ j_ hj_]; by_cases y9_ : (j_ : Int) < (S0_.2.2.1 104 0 (S0_.2.2.1 102 0 a2_.toNat).toNat) - 1; exact t4_ j_ y9_; (rw [show 152 * (S0_.2.2.1 102 0 a2_.toNat).toNat + j_ = (152 * (S0_.2.2.1 102 0 a2_.toNat) + (S0_.2.2.1 104 0 (S0_.2.2.1 102 0 a2_.toNat).toNat) - 1).toNat by omega]; omega)), fun _ => by (rw [v40_ 0 (by omega), Nat.add_zero]; exact t3_)⟩
  have a40_ : Sx7_.2.2.1 106 0 (0 : Int).toNat < 12 := T40_.2 (by omega)
  have b40_ := T40_.1 ((S0_.2.2.1 104 0 (S0_.2.2.1 102 0 a2_.toNat).toNat) - 1).toNat (by omega)
  rw [show ((S0_.2.2.1 104 0 (S0_.2.2.1 102 0 a2_.toNat).toNat) - 1).toNat = (Sx7_.1 11 0 11 - 1).toNat by omega] at b40_
  have c40_ : 0 ≤ Sx7_.2.2.1 106 0 0 ∧ Sx7_.2.2.1 106 0 0 ≤ 10161 := hIx8_.2 106 0 _
  refine sm_T_go 3 (c1 := (48, [some (.inr (.inr (some (11, 0)))), some (.inr (.inr (some (2, cc_)))), some (.inl a2_), some (.inl (S0_.2.2.1 102 0 a2_.toNat)), none, none, none, none, none, none, none], [.inl 0, .inr (.inr (some (106, 0)))], Sx7_)) rfl ?_
  refine sm_T_iald (n := 152) rfl rfl (by omega) (by omega) ?_
  have bx12_ : 0 ≤ Sx7_.2.2.1 106 0 (0 : Int).toNat ∧ Sx7_.2.2.1 106 0 (0 : Int).toNat ≤ 10161 := hIx8_.2 106 0 _
  refine sm_T_go 1 (c1 := (52, [some (.inr (.inr (some (11, 0)))), some (.inr (.inr (some (2, cc_)))), some (.inl a2_), some (.inl (S0_.2.2.1 102 0 a2_.toNat)), none, none, none, none, none, none, none], [.inl 162, .inl (Sx7_.2.2.1 106 0 (0 : Int).toNat)], Sx7_)) rfl ?_
  refine sm_T_bin (w := 162 * (Sx7_.2.2.1 106 0 (0 : Int).toNat)) rfl (bi_mul (by omega) (by omega) (by omega)) ?_ -- pc_ 52
  have bx13_ : 0 ≤ Sx7_.1 11 0 11 ∧ Sx7_.1 11 0 11 ≤ 152 := hIx8_.1 11 0 11 rfl
  refine sm_T_go 6 (c1 := (64, [some (.inr (.inr (some (11, 0)))), some (.inr (.inr (some (2, cc_)))), some (.inl a2_), some (.inl (S0_.2.2.1 102 0 a2_.toNat)), some (.inl (162 * (Sx7_.2.2.1 106 0 (0 : Int).toNat))), none, none, none, none, none, none], [.inl 1, .inl (Sx7_.1 11 0 11), .inr (.inr (some (106, 0)))], Sx7_)) rfl ?_
  refine sm_T_bin (w := (Sx7_.1 11 0 11) - 1) rfl (bi_sub (by omega) (by omega) (by omega)) ?_ -- pc_ 64
  refine sm_T_iald (n := 152) rfl rfl (by omega) (by omega) ?_
  have bx14_ : 0 ≤ Sx7_.2.2.1 106 0 ((Sx7_.1 11 0 11) - 1).toNat ∧ Sx7_.2.2.1 106 0 ((Sx7_.1 11 0 11) - 1).toNat ≤ 10161 := hIx8_.2 106 0 _
  refine sm_T_go 5 (c1 := (74, [some (.inr (.inr (some (11, 0)))), some (.inr (.inr (some (2, cc_)))), some (.inl a2_), some (.inl (S0_.2.2.1 102 0 a2_.toNat)), some (.inl (162 * (Sx7_.2.2.1 106 0 (0 : Int).toNat))), some (.inl (Sx7_.2.2.1 106 0 ((Sx7_.1 11 0 11) - 1).toNat)), some (.inl 0), some (.inl 0), none, none, none], [], Sx7_)) rfl ?_
  refine sm_T_wk [some (.inr (.inr (some (11, 0)))), some (.inr (.inr (some (2, cc_)))), some (.inl a2_), none, some (.inl (162 * (Sx7_.2.2.1 106 0 (0 : Int).toNat))), some (.inl (Sx7_.2.2.1 106 0 ((Sx7_.1 11 0 11) - 1).toNat)), some (.inl 0), some (.inl 0), none, none, none] (by exact ⟨rfl, rfl, rfl, rfl, rfl, rfl, rfl, trivial⟩) ?_
  refine (vl_201 a2_ cc_ S0_ hs_ hp_ h2_ hl_ _).1 (162 * (Sx7_.2.2.1 106 0 (0 : Int).toNat)) (Sx7_.2.2.1 106 0 ((Sx7_.1 11 0 11) - 1).toNat) 0 0 Sx7_ hIx8_ hFx11_ ⟨?_, ?_, ?_, ?_, trivial⟩ (Nat.lt_succ_self _)
  · omega
  · exact r40_
  · exact T40_
  · (rw [s40_]; exact ⟨t1_, t2_⟩)
end
/-! 99.zm3b -/
section
/-! Times.findPaths -/
def vw_199 : sx_Wl := ([(11, 4), (11, 5), (11, 11)], [99, 101, 102, 103, 104, 105, 106], [(11, 3)])
def vq_199 (cc_ : Nat) (S0_ : sm_S) (u_ : Option sm_V) (S1_ : sm_S) : Prop := u_ = none ∧ gi S1_ ∧ ai_fr (sx_W vw_199) S0_ S1_ ∧ (tpo S1_)
set_option maxHeartbeats 2000000 in
set_option maxRecDepth 20000 in
theorem vl_199 {sc_ : Nat × (Nat → Int)} (cc_ : Nat) (S0_ : sm_S) (hs_ : S0_.1 2 cc_ 1 + S0_.1 2 cc_ 2 ≤ 12) (hp_ : tpo S0_) : ∀ nn_ : Nat, (∀ (k_ : Int) (S_ : sm_S), gi S_ → ai_fr (sx_W vw_199) S0_ S_ → ((0 ≤ k_ ∧ k_ ≤ 41 ∧ S_.1 11 0 5 = 0) ∧ True) → ((9000000 - k_).toNat) < nn_ → sm_T (mt_P sc_) 3 199 (56, [some (.inr (.inr (some (11, 0)))), some (.inr (.inr (some (2, cc_)))), some (.inl k_), none, none], [], S_) (fun ro9_ => ∃ u_ S1_, ro9_ = (.inl u_, S1_, 0) ∧ vq_199 cc_ S0_ u_ S1_)) ∧ (∀ (n_ : Int) (S_ : sm_S), gi S_ → ai_fr (sx_W vw_199) S0_ S_ → ((0 ≤ n_ ∧ n_ ≤ 12) ∧ (tpo S_) ∧ True) → ((5000000 - n_).toNat) < nn_ → sm_T (mt_P sc_) 3 199 (77, [some (.inr (.inr (some (11, 0)))), some (.inr (.inr (some (2, cc_)))), some (.inl n_), none, none], [], S_) (fun ro9_ => ∃ u_ S1_, ro9_ = (.inl u_, S1_, 0) ∧ vq_199 cc_ S0_ u_ S1_)) ∧ (∀ (dn_ : Int) (gd_ : Int) (S_ : sm_S), gi S_ → ai_fr (sx_W vw_199) S0_ S_ → ((0 ≤ dn_ ∧ dn_ ≤ 41 ∧ 0 ≤ gd_ ∧ gd_ ≤ 1000000) ∧ (tpo S_) ∧ True) → ((2000000 - gd_).toNat) < nn_ → sm_T (mt_P sc_) 3 199 (123, [some (.inr (.inr (some (11, 0)))), some (.inr (.inr (some (2, cc_)))), some (.inl dn_), some (.inl gd_), none], [], S_) (fun ro9_ => ∃ u_ S1_, ro9_ = (.inl u_, S1_, 0) ∧ vq_199 cc_ S0_ u_ S1_)) := by
  intro nn_
  induction nn_ with
  | zero => exact ⟨fun _ _ _ _ _ h_ => absurd h_ (Nat.not_lt_zero _), fun _ _ _ _ _ h_ => absurd h_ (Nat.not_lt_zero _), fun _ _ _ _ _ _ h_ => absurd h_ (Nat.not_lt_zero _)⟩
  | succ nn_ ih_ =>
    refine ⟨?_, ?_, ?_⟩
    · rintro k_ S_ hI_ hF_ ⟨h0_, -⟩ hm_
      have z1_ : S_.1 2 cc_ 1 = S0_.1 2 cc_ 1 := hF_.1 2 cc_ 1 rfl
      have z2_ : S_.1 2 cc_ 2 = S0_.1 2 cc_ 2 := hF_.1 2 cc_ 2 rfl
      have cg9_ : 0 ≤ S_.1 2 cc_ 8 ∧ S_.1 2 cc_ 8 ≤ 150 := hI_.1 2 cc_ 8 rfl
      have ci_ : 0 ≤ S_.1 2 cc_ 1 ∧ S_.1 2 cc_ 1 ≤ 12 := hI_.1 2 cc_ 1 rfl
      have cr : 0 ≤ S_.1 2 cc_ 2 ∧ S_.1 2 cc_ 2 ≤ 6 := hI_.1 2 cc_ 2 rfl
      refine sm_T_go 2 (c1 := (59, [some (.inr (.inr (some (11, 0)))), some (.inr (.inr (some (2, cc_)))), some (.inl k_), none, none], [.inl 40, .inl k_], S_)) rfl ?_
      refine sm_T_br (a := 4) (z := 16) rfl (fun cx1_ => ?_) (fun cx1_ => ?_)
      · have cx1_ : 40 < k_ := of_decide_eq_true cx1_
        refine sm_T_go 2 (c1 := (77, [some (.inr (.inr (some (11, 0)))), some (.inr (.inr (some (2, cc_)))), some (.inl 0), none, none], [], S_)) rfl ?_
        refine ih_.2.1 0 S_ hI_ hF_ ⟨?_, ?_, trivial⟩ ?_
        · omega
        · (refine ⟨by omega, fun i_ hi_ hn_ => ?_⟩; exfalso; omega)
        · omega
      · have cx1_ : ¬ (40 < k_) := of_decide_eq_false cx1_
        refine sm_T_go 4 (c1 := (68, [some (.inr (.inr (some (11, 0)))), some (.inr (.inr (some (2, cc_)))), some (.inl k_), none, none], [.inl k_, .inl k_, .inr (.inr (some (102, 0)))], S_)) rfl ?_
        refine sm_T_iast (n := 41) rfl rfl (by omega) (by omega) ?_
        have hIx2_ : gi (sm_aI S_ 102 0 k_.toNat k_) := gi_aI hI_ (show 0 ≤ k_ ∧ k_ ≤ 40 from ⟨by omega, by omega⟩)
        have hFx3_ : ai_fr (sx_W vw_199) S0_ (sm_aI S_ 102 0 k_.toNat k_) := ai_fr_tr hF_ (ai_fr_aI rfl)
        refine sm_T_inc (a := 2) (z := 1) (v := k_) (w := k_ + 1) rfl rfl (by omega) (by omega) (by omega) ?_ -- pc_ 69
        refine sm_T_go 1 (c1 := (56, [some (.inr (.inr (some (11, 0)))), some (.inr (.inr (some (2, cc_)))), some (.inl (k_ + 1)), none, none], [], sm_aI S_ 102 0 k_.toNat k_)) rfl ?_
        refine ih_.1 (k_ + 1) (sm_aI S_ 102 0 k_.toNat k_) hIx2_ hFx3_ ⟨?_, trivial⟩ ?_
        · (refine ⟨by omega, by omega, ?_⟩; show S_.1 11 0 5 = 0; omega)
        · omega
    · rintro n_ S_ hI_ hF_ ⟨h0_, ht_, -⟩ hm_
      have z1_ : S_.1 2 cc_ 1 = S0_.1 2 cc_ 1 := hF_.1 2 cc_ 1 rfl
      have z2_ : S_.1 2 cc_ 2 = S0_.1 2 cc_ 2 := hF_.1 2 cc_ 2 rfl
      have cg9_ : 0 ≤ S_.1 2 cc_ 8 ∧ S_.1 2 cc_ 8 ≤ 150 := hI_.1 2 cc_ 8 rfl
      have ci_ : 0 ≤ S_.1 2 cc_ 1 ∧ S_.1 2 cc_ 1 ≤ 12 := hI_.1 2 cc_ 1 rfl
      have cr : 0 ≤ S_.1 2 cc_ 2 ∧ S_.1 2 cc_ 2 ≤ 6 := hI_.1 2 cc_ 2 rfl
      refine sm_T_go 2 (c1 := (79, [some (.inr (.inr (some (11, 0)))), some (.inr (.inr (some (2, cc_)))), some (.inl n_), none, none], [.inr (.inr (some (2, cc_))), .inl n_], S_)) rfl ?_
      refine sm_T_cal (d1 := 0) (Q1 := vq_54 cc_ S_) rfl rfl (by decide) (vc_54 cc_ S_ hI_ ) (fun u_ Sx1_ px4_ => ?_)
      obtain ⟨rfl, vx6_, rfl, px4_⟩ := px4_
      have fg79_ := px4_.2
      refine sm_T_br (a := 3) (z := 37) rfl (fun cx7_ => ?_) (fun cx7_ => ?_)
      · have cx7_ : vx6_ ≤ n_ := of_decide_eq_true cx7_
        refine sm_T_go 4 (c1 := (123, [some (.inr (.inr (some (11, 0)))), some (.inr (.inr (some (2, cc_)))), some (.inl 0), some (.inl 0), none], [], S_)) rfl ?_
        refine ih_.2.2 0 0 S_ hI_ hF_ ⟨?_, ?_, trivial⟩ ?_
        · omega
        · exact ht_
        · omega
      · have cx7_ : ¬ (vx6_ ≤ n_) := of_decide_eq_false cx7_
        have hIx8_ : gi (sm_pI S_ 11 0 11 0) := gi_pI hI_ (show 0 ≤ 0 ∧ 0 ≤ 152 from ⟨by omega, by omega⟩)
        have hFx9_ : ai_fr (sx_W vw_199) S0_ (sm_pI S_ 11 0 11 0) := ai_fr_tr hF_ (ai_fr_pI rfl)
        refine sm_T_go 8 (c1 := (97, [some (.inr (.inr (some (11, 0)))), some (.inr (.inr (some (2, cc_)))), some (.inl n_), none, none], [.inl n_, .inr (.inr (some (99, 0))), .inl n_, .inr (.inr (some (11, 0)))], sm_pI S_ 11 0 11 0)) rfl ?_
        refine sm_T_iald (n := 162) rfl rfl (by omega) (by omega) ?_
        have bx10_ : (-2147483648) ≤ S_.2.2.1 99 0 n_.toNat ∧ S_.2.2.1 99 0 n_.toNat ≤ 2147483647 := hI_.2 99 0 _
        refine sm_T_go 4 (c1 := (106, [some (.inr (.inr (some (11, 0)))), some (.inr (.inr (some (2, cc_)))), some (.inl n_), none, none], [.inl 162, .inl n_, .inr (.inr (some (101, 0))), .inl (S_.2.2.1 99 0 n_.toNat), .inl n_, .inr (.inr (some (11, 0)))], sm_pI S_ 11 0 11 0)) rfl ?_
        refine sm_T_bin (w := 162 * n_) rfl (bi_mul (by omega) (by omega) (by omega)) ?_ -- pc_ 106
        refine sm_T_go 1 (c1 := (108, [some (.inr (.inr (some (11, 0)))), some (.inr (.inr (some (2, cc_)))), some (.inl n_), none, none], [.inl n_, .inl (162 * n_), .inr (.inr (some (101, 0))), .inl (S_.2.2.1 99 0 n_.toNat), .inl n_, .inr (.inr (some (11, 0)))], sm_pI S_ 11 0 11 0)) rfl ?_
        refine sm_T_bin (w := 163 * n_) rfl (bi_add (by omega) (by omega) (by omega)) ?_ -- pc_ 108
        refine sm_T_iald (n := 1944) rfl rfl (by omega) (by omega) ?_
        have bx11_ : (-2147483648) ≤ S_.2.2.1 101 0 (163 * n_).toNat ∧ S_.2.2.1 101 0 (163 * n_).toNat ≤ 2147483647 := hI_.2 101 0 _
        refine sm_T_go 0 (c1 := (110, [some (.inr (.inr (some (11, 0)))), some (.inr (.inr (some (2, cc_)))), some (.inl n_), none, none], [.inl (S_.2.2.1 101 0 (163 * n_).toNat), .inl (S_.2.2.1 99 0 n_.toNat), .inl n_, .inr (.inr (some (11, 0)))], sm_pI S_ 11 0 11 0)) rfl ?_
        refine sm_T_cal (d1 := 1) (Q1 := vq_203 n_ (S_.2.2.1 99 0 n_.toNat) (S_.2.2.1 101 0 (163 * n_).toNat) (sm_pI S_ 11 0 11 0)) rfl rfl (by decide) (vc_203 n_ (S_.2.2.1 99 0 n_.toNat) (S_.2.2.1 101 0 (163 * n_).toNat) (sm_pI S_ 11 0 11 0) hIx8_ (by exact ht_) (by exact ⟨fun j_ hj_ => absurd hj_ (by show ¬ ((j_ : Int) < 0); omega), fun hj_ => absurd hj_ (by show ¬ ((0 : Int) < 0); omega)⟩) (by omega) (by (intro _; omega))) (fun u_ Sx12_ px15_ => ?_)
        obtain ⟨rfl, hIx13_, hFx14_, px15_⟩ := px15_
        have hFx16_ : ai_fr (sx_W vw_199) S0_ Sx12_ := ai_fr_tr hFx9_ (fr_le hFx14_ rfl)
        have o110_ := px15_
        refine sm_T_inc (a := 2) (z := 1) (v := n_) (w := n_ + 1) rfl rfl (by omega) (by omega) (by omega) ?_ -- pc_ 113
        refine sm_T_go 1 (c1 := (77, [some (.inr (.inr (some (11, 0)))), some (.inr (.inr (some (2, cc_)))), some (.inl (n_ + 1)), none, none], [], Sx12_)) rfl ?_
        refine ih_.2.1 (n_ + 1) Sx12_ hIx13_ hFx16_ ⟨?_, ?_, trivial⟩ ?_
        · omega
        · exact o110_
        · omega
    · rintro dn_ gd_ S_ hI_ hF_ ⟨h0_, ht_, -⟩ hm_
      have z1_ : S_.1 2 cc_ 1 = S0_.1 2 cc_ 1 := hF_.1 2 cc_ 1 rfl
      have z2_ : S_.1 2 cc_ 2 = S0_.1 2 cc_ 2 := hF_.1 2 cc_ 2 rfl
      have cg9_ : 0 ≤ S_.1 2 cc_ 8 ∧ S_.1 2 cc_ 8 ≤ 150 := hI_.1 2 cc_ 8 rfl
      have ci_ : 0 ≤ S_.1 2 cc_ 1 ∧ S_.1 2 cc_ 1 ≤ 12 := hI_.1 2 cc_ 1 rfl
      have cr : 0 ≤ S_.1 2 cc_ 2 ∧ S_.1 2 cc_ 2 ≤ 6 := hI_.1 2 cc_ 2 rfl
      have cp_ : 0 ≤ S_.1 11 0 5 ∧ S_.1 11 0 5 ≤ 41 := hI_.1 11 0 5 rfl
      refine sm_T_go 1 (c1 := (124, [some (.inr (.inr (some (11, 0)))), some (.inr (.inr (some (2, cc_)))), some (.inl dn_), some (.inl gd_), none], [.inl gd_], S_)) rfl ?_
      refine sm_T_nt (u := some (.inl 1000000)) (S1 := S_) rfl rfl rfl ?_
      refine sm_T_br (a := 3) (z := 64) rfl (fun cx1_ => ?_) (fun cx1_ => ?_)
      · have cx1_ : 1000000 ≤ gd_ := of_decide_eq_true cx1_
        refine sm_T_rv rfl ⟨_, _, rfl, rfl, hI_, hF_, ?_⟩
        exact ht_
      · have cx1_ : ¬ (1000000 ≤ gd_) := of_decide_eq_false cx1_
        have bx2_ : 0 ≤ S_.1 11 0 5 ∧ S_.1 11 0 5 ≤ 41 := hI_.1 11 0 5 rfl
        refine sm_T_go 3 (c1 := (134, [some (.inr (.inr (some (11, 0)))), some (.inr (.inr (some (2, cc_)))), some (.inl dn_), some (.inl gd_), none], [.inl (S_.1 11 0 5), .inl dn_], S_)) rfl ?_
        refine sm_T_br (a := 3) (z := 56) rfl (fun cx3_ => ?_) (fun cx3_ => ?_)
        · have cx3_ : (S_.1 11 0 5) ≤ dn_ := of_decide_eq_true cx3_
          refine sm_T_rv rfl ⟨_, _, rfl, rfl, hI_, hF_, ?_⟩
          exact ht_
        · have cx3_ : ¬ ((S_.1 11 0 5) ≤ dn_) := of_decide_eq_false cx3_
          have t9_ := ht_.2 dn_.toNat (by omega) (by omega)
          have t1_ := t9_.1
          have t2_ := t9_.2.1
          have c9_ : 0 ≤ S_.2.2.1 102 0 dn_.toNat ∧ S_.2.2.1 102 0 dn_.toNat ≤ 40 := hI_.2 102 0 _
          refine sm_T_go 3 (c1 := (142, [some (.inr (.inr (some (11, 0)))), some (.inr (.inr (some (2, cc_)))), some (.inl dn_), some (.inl gd_), none], [.inl dn_, .inr (.inr (some (102, 0)))], S_)) rfl ?_
          refine sm_T_iald (n := 41) rfl rfl (by omega) (by omega) ?_
          have bx4_ : 0 ≤ S_.2.2.1 102 0 dn_.toNat ∧ S_.2.2.1 102 0 dn_.toNat ≤ 40 := hI_.2 102 0 _
          refine sm_T_go 5 (c1 := (154, [some (.inr (.inr (some (11, 0)))), some (.inr (.inr (some (2, cc_)))), some (.inl dn_), some (.inl gd_), some (.inl (S_.2.2.1 102 0 dn_.toNat))], [.inl 152, .inl (S_.2.2.1 102 0 dn_.toNat), .inr (.inr (some (105, 0)))], S_)) rfl ?_
          refine sm_T_bin (w := 152 * (S_.2.2.1 102 0 dn_.toNat)) rfl (bi_mul (by omega) (by omega) (by omega)) ?_ -- pc_ 154
          refine sm_T_go 3 (c1 := (161, [some (.inr (.inr (some (11, 0)))), some (.inr (.inr (some (2, cc_)))), some (.inl dn_), some (.inl gd_), some (.inl (S_.2.2.1 102 0 dn_.toNat))], [.inl (S_.2.2.1 102 0 dn_.toNat), .inr (.inr (some (104, 0))), .inl (152 * (S_.2.2.1 102 0 dn_.toNat)), .inr (.inr (some (105, 0)))], S_)) rfl ?_
          refine sm_T_iald (n := 41) rfl rfl (by omega) (by omega) ?_
          have bx5_ : 0 ≤ S_.2.2.1 104 0 (S_.2.2.1 102 0 dn_.toNat).toNat ∧ S_.2.2.1 104 0 (S_.2.2.1 102 0 dn_.toNat).toNat ≤ 152 := hI_.2 104 0 _
          refine sm_T_bin (w := 152 * (S_.2.2.1 102 0 dn_.toNat) + (S_.2.2.1 104 0 (S_.2.2.1 102 0 dn_.toNat).toNat)) rfl (bi_add (by omega) (by omega) (by omega)) ?_ -- pc_ 162
          refine sm_T_go 1 (c1 := (164, [some (.inr (.inr (some (11, 0)))), some (.inr (.inr (some (2, cc_)))), some (.inl dn_), some (.inl gd_), some (.inl (S_.2.2.1 102 0 dn_.toNat))], [.inl 1, .inl (152 * (S_.2.2.1 102 0 dn_.toNat) + (S_.2.2.1 104 0 (S_.2.2.1 102 0 dn_.toNat).toNat)), .inr (.inr (some (105, 0)))], S_)) rfl ?_
          refine sm_T_bin (w := 152 * (S_.2.2.1 102 0 dn_.toNat) + (S_.2.2.1 104 0 (S_.2.2.1 102 0 dn_.toNat).toNat) - 1) rfl (bi_sub (by omega) (by omega) (by omega)) ?_ -- pc_ 164
          refine sm_T_iald (n := 6232) rfl rfl (by omega) (by omega) ?_
          have bx6_ : 0 ≤ S_.2.2.1 105 0 (152 * (S_.2.2.1 102 0 dn_.toNat) + (S_.2.2.1 104 0 (S_.2.2.1 102 0 dn_.toNat).toNat) - 1).toNat ∧ S_.2.2.1 105 0 (152 * (S_.2.2.1 102 0 dn_.toNat) + (S_.2.2.1 104 0 (S_.2.2.1 102 0 dn_.toNat).toNat) - 1).toNat ≤ 10161 := hI_.2 105 0 _
          refine sm_T_go 1 (c1 := (169, [some (.inr (.inr (some (11, 0)))), some (.inr (.inr (some (2, cc_)))), some (.inl dn_), some (.inl gd_), some (.inl (S_.2.2.1 102 0 dn_.toNat))], [.inl 10000, .inl (S_.2.2.1 105 0 (152 * (S_.2.2.1 102 0 dn_.toNat) + (S_.2.2.1 104 0 (S_.2.2.1 102 0 dn_.toNat).toNat) - 1).toNat)], S_)) rfl ?_
          refine sm_T_br (a := 2) (z := 9) rfl (fun cx7_ => ?_) (fun cx7_ => ?_)
          · have cx7_ : (S_.2.2.1 105 0 (152 * (S_.2.2.1 102 0 dn_.toNat) + (S_.2.2.1 104 0 (S_.2.2.1 102 0 dn_.toNat).toNat) - 1).toNat) < 10000 := of_decide_eq_true cx7_
            refine sm_T_go 3 (c1 := (181, [some (.inr (.inr (some (11, 0)))), some (.inr (.inr (some (2, cc_)))), some (.inl dn_), some (.inl gd_), some (.inl (S_.2.2.1 102 0 dn_.toNat))], [.inl dn_, .inr (.inr (some (2, cc_))), .inr (.inr (some (11, 0)))], S_)) rfl ?_
            refine sm_T_cal (d1 := 2) (Q1 := vq_201 dn_ cc_ S_) rfl rfl (by decide) (vc_201 dn_ cc_ S_ hI_ (by omega) (by exact ht_) (by omega) (by omega)) (fun u_ Sx8_ px11_ => ?_)
            obtain ⟨rfl, hIx9_, hFx10_, px11_⟩ := px11_
            have hFx12_ : ai_fr (sx_W vw_199) S0_ Sx8_ := ai_fr_tr hF_ (fr_le hFx10_ rfl)
            have o181_ := px11_
            refine sm_T_inc (a := 3) (z := 1) (v := gd_) (w := gd_ + 1) rfl rfl (by omega) (by omega) (by omega) ?_ -- pc_ 184
            refine sm_T_go 1 (c1 := (123, [some (.inr (.inr (some (11, 0)))), some (.inr (.inr (some (2, cc_)))), some (.inl dn_), some (.inl (gd_ + 1)), some (.inl (S_.2.2.1 102 0 dn_.toNat))], [], Sx8_)) rfl ?_
            refine sm_T_wk [some (.inr (.inr (some (11, 0)))), some (.inr (.inr (some (2, cc_)))), some (.inl dn_), some (.inl (gd_ + 1)), none] (by exact ⟨rfl, rfl, rfl, rfl, trivial⟩) ?_
            refine ih_.2.2 dn_ (gd_ + 1) Sx8_ hIx9_ hFx12_ ⟨?_, ?_, trivial⟩ ?_
            · omega
            · first | exact ht_ | exact o181_
            · omega
          · have cx7_ : ¬ ((S_.2.2.1 105 0 (152 * (S_.2.2.1 102 0 dn_.toNat) + (S_.2.2.1 104 0 (S_.2.2.1 102 0 dn_.toNat).toNat) - 1).toNat) < 10000) := of_decide_eq_false cx7_
            refine sm_T_inc (a := 2) (z := 1) (v := dn_) (w := dn_ + 1) rfl rfl (by omega) (by omega) (by omega) ?_ -- pc_ 172
            refine sm_T_go 1 (c1 := (184, [some (.inr (.inr (some (11, 0)))), some (.inr (.inr (some (2, cc_)))), some (.inl (dn_ + 1)), some (.inl gd_), some (.inl (S_.2.2.1 102 0 dn_.toNat))], [], S_)) rfl ?_
            refine sm_T_inc (a := 3) (z := 1) (v := gd_) (w := gd_ + 1) rfl rfl (by omega) (by omega) (by omega) ?_ -- pc_ 184
            refine sm_T_go 1 (c1 := (123, [some (.inr (.inr (some (11, 0)))), some (.inr (.inr (some (2, cc_)))), some (.inl (dn_ + 1)), some (.inl (gd_ + 1)), some (.inl (S_.2.2.1 102 0 dn_.toNat))], [], S_)) rfl ?_
            refine sm_T_wk [some (.inr (.inr (some (11, 0)))), some (.inr (.inr (some (2, cc_)))), some (.inl (dn_ + 1)), some (.inl (gd_ + 1)), none] (by exact ⟨rfl, rfl, rfl, rfl, trivial⟩) ?_
            refine ih_.2.2 (dn_ + 1) (gd_ + 1) S_ hI_ hF_ ⟨?_, ?_, trivial⟩ ?_
            · omega
            · first | exact ht_ | exact o181_
            · omega
set_option maxHeartbeats 2000000 in
set_option maxRecDepth 20000 in
theorem vc_199 {sc_ : Nat × (Nat → Int)} (cc_ : Nat) (S0_ : sm_S) (hI_ : gi S0_) (hs_ : S0_.1 2 cc_ 1 + S0_.1 2 cc_ 2 ≤ 12) (hp_ : tpo S0_) : sm_T (mt_P sc_) 3 199 (0, [some (.inr (.inr (some (11, 0)))), some (.inr (.inr (some (2, cc_)))), none, none, none], [], S0_) (fun ro9_ => ∃ u_ S1_, ro9_ = (.inl u_, S1_, 0) ∧ vq_199 cc_ S0_ u_ S1_) := by
  have hF_ : ai_fr (sx_W vw_199) S0_ S0_ := ai_fr_rf
  refine sm_T_go 1 (c1 := (1, [some (.inr (.inr (some (11, 0)))), some (.inr (.inr (some (2, cc_)))), none, none, none], [.inr (.inr (some (11, 0)))], S0_)) rfl ?_
  cases qx1_ : S0_.2.1 11 0 3 with
  | none =>
    refine sm_T_gr rfl rfl qx1_ ?_
    refine sm_T_go 1 (c1 := (5, [some (.inr (.inr (some (11, 0)))), some (.inr (.inr (some (2, cc_)))), none, none, none], [.inr (.inr (some (2, cc_))), .inr (.inr none)], S0_)) rfl ?_
    refine sm_T_acn (x_ := none) (y_ := some (2, cc_)) rfl rfl (fun cx3_ => ?_) (fun cx3_ => ?_)
    · cases cx3_
    · skip
      have hIx4_ : gi (sm_pR S0_ 11 0 3 (some cc_)) := gi_pR hI_
      have hFx5_ : ai_fr (sx_W vw_199) S0_ (sm_pR S0_ 11 0 3 (some cc_)) := ai_fr_tr hF_ (ai_fr_pR rfl)
      have bx6_ : (-2147483648) ≤ S0_.1 0 (0 + cc_) 16 ∧ S0_.1 0 (0 + cc_) 16 ≤ 2147483647 := hI_.1 0 (0 + cc_) 16 rfl
      have hIx7_ : gi (sm_pI (sm_pR S0_ 11 0 3 (some cc_)) 11 0 4 (S0_.1 0 (0 + cc_) 16)) := gi_pI hIx4_ (show (-2147483648) ≤ (S0_.1 0 (0 + cc_) 16) ∧ (S0_.1 0 (0 + cc_) 16) ≤ 2147483647 from ⟨by omega, by omega⟩)
      have hFx8_ : ai_fr (sx_W vw_199) S0_ (sm_pI (sm_pR S0_ 11 0 3 (some cc_)) 11 0 4 (S0_.1 0 (0 + cc_) 16)) := ai_fr_tr hFx5_ (ai_fr_pI rfl)
      refine sm_T_go 10 (c1 := (41, [some (.inr (.inr (some (11, 0)))), some (.inr (.inr (some (2, cc_)))), none, none, none], [.inr (.inr (some (2, cc_))), .inr (.inr (some (11, 0)))], sm_pI (sm_pR S0_ 11 0 3 (some cc_)) 11 0 4 (S0_.1 0 (0 + cc_) 16))) rfl ?_
      refine sm_T_cal (d1 := 1) (Q1 := vq_196 cc_ (sm_pI (sm_pR S0_ 11 0 3 (some cc_)) 11 0 4 (S0_.1 0 (0 + cc_) 16))) rfl rfl (by decide) (vc_196 cc_ (sm_pI (sm_pR S0_ 11 0 3 (some cc_)) 11 0 4 (S0_.1 0 (0 + cc_) 16)) hIx7_ (by exact hs_)) (fun u_ Sx9_ px12_ => ?_)
      obtain ⟨rfl, hIx10_, hFx11_, px12_⟩ := px12_
      have hFx13_ : ai_fr (sx_W vw_199) S0_ Sx9_ := ai_fr_tr hFx8_ (fr_le hFx11_ rfl)
      refine sm_T_go 2 (c1 := (46, [some (.inr (.inr (some (11, 0)))), some (.inr (.inr (some (2, cc_)))), none, none, none], [.inr (.inr (some (2, cc_))), .inr (.inr (some (11, 0)))], Sx9_)) rfl ?_
      refine sm_T_cal (d1 := 1) (Q1 := vq_200 cc_ Sx9_) rfl rfl (by decide) (vc_200 cc_ Sx9_ hIx10_ (by (have q1_ := hFx13_.1 2 cc_ 1 rfl; have q2_ := hFx13_.1 2 cc_ 2 rfl; omega))) (fun u_ Sx14_ px17_ => ?_)
      obtain ⟨rfl, hIx15_, hFx16_, px17_⟩ := px17_
      have hFx18_ : ai_fr (sx_W vw_199) S0_ Sx14_ := ai_fr_tr hFx13_ (fr_le hFx16_ rfl)
      have hIx19_ : gi (sm_pI Sx14_ 11 0 5 0) := gi_pI hIx15_ (show 0 ≤ 0 ∧ 0 ≤ 41 from ⟨by omega, by omega⟩)
      have hFx20_ : ai_fr (sx_W vw_199) S0_ (sm_pI Sx14_ 11 0 5 0) := ai_fr_tr hFx18_ (ai_fr_pI rfl)
      refine sm_T_go 5 (c1 := (56, [some (.inr (.inr (some (11, 0)))), some (.inr (.inr (some (2, cc_)))), some (.inl 0), none, none], [], sm_pI Sx14_ 11 0 5 0)) rfl ?_
      refine (vl_199 cc_ S0_ hs_ hp_ _).1 0 (sm_pI Sx14_ 11 0 5 0) hIx19_ hFx20_ ⟨?_, trivial⟩ (Nat.lt_succ_self _)
      · (refine ⟨by omega, by omega, rfl⟩)
  | some jx2_ =>
    refine sm_T_gr rfl rfl qx1_ ?_
    refine sm_T_go 1 (c1 := (5, [some (.inr (.inr (some (11, 0)))), some (.inr (.inr (some (2, cc_)))), none, none, none], [.inr (.inr (some (2, cc_))), .inr (.inr (some (2, jx2_)))], S0_)) rfl ?_
    refine sm_T_acn (x_ := some (2, jx2_)) (y_ := some (2, cc_)) rfl rfl (fun cx21_ => ?_) (fun cx21_ => ?_)
    · have cx21_ : jx2_ = cc_ := congrArg Prod.snd (Option.some.inj cx21_)
      have bx22_ : (-2147483648) ≤ S0_.1 11 0 4 ∧ S0_.1 11 0 4 ≤ 2147483647 := hI_.1 11 0 4 rfl
      have bx23_ : (-2147483648) ≤ S0_.1 0 (0 + cc_) 16 ∧ S0_.1 0 (0 + cc_) 16 ≤ 2147483647 := hI_.1 0 (0 + cc_) 16 rfl
      refine sm_T_go 5 (c1 := (19, [some (.inr (.inr (some (11, 0)))), some (.inr (.inr (some (2, cc_)))), none, none, none], [.inl (S0_.1 0 (0 + cc_) 16), .inl (S0_.1 11 0 4)], S0_)) rfl ?_
      refine sm_T_br (a := 1) (z := 4) rfl (fun cx24_ => ?_) (fun cx24_ => ?_)
      · have cx24_ : (S0_.1 11 0 4) ≠ (S0_.1 0 (0 + cc_) 16) := of_decide_eq_true cx24_
        have hIx25_ : gi (sm_pR S0_ 11 0 3 (some cc_)) := gi_pR hI_
        have hFx26_ : ai_fr (sx_W vw_199) S0_ (sm_pR S0_ 11 0 3 (some cc_)) := ai_fr_tr hF_ (ai_fr_pR rfl)
        have hIx27_ : gi (sm_pI (sm_pR S0_ 11 0 3 (some cc_)) 11 0 4 (S0_.1 0 (0 + cc_) 16)) := gi_pI hIx25_ (show (-2147483648) ≤ (S0_.1 0 (0 + cc_) 16) ∧ (S0_.1 0 (0 + cc_) 16) ≤ 2147483647 from ⟨by omega, by omega⟩)
        have hFx28_ : ai_fr (sx_W vw_199) S0_ (sm_pI (sm_pR S0_ 11 0 3 (some cc_)) 11 0 4 (S0_.1 0 (0 + cc_) 16)) := ai_fr_tr hFx26_ (ai_fr_pI rfl)
        refine sm_T_go 10 (c1 := (41, [some (.inr (.inr (some (11, 0)))), some (.inr (.inr (some (2, cc_)))), none, none, none], [.inr (.inr (some (2, cc_))), .inr (.inr (some (11, 0)))], sm_pI (sm_pR S0_ 11 0 3 (some cc_)) 11 0 4 (S0_.1 0 (0 + cc_) 16))) rfl ?_
        refine sm_T_cal (d1 := 1) (Q1 := vq_196 cc_ (sm_pI (sm_pR S0_ 11 0 3 (some cc_)) 11 0 4 (S0_.1 0 (0 + cc_) 16))) rfl rfl (by decide) (vc_196 cc_ (sm_pI (sm_pR S0_ 11 0 3 (some cc_)) 11 0 4 (S0_.1 0 (0 + cc_) 16)) hIx27_ (by exact hs_)) (fun u_ Sx29_ px32_ => ?_)
        obtain ⟨rfl, hIx30_, hFx31_, px32_⟩ := px32_
        have hFx33_ : ai_fr (sx_W vw_199) S0_ Sx29_ := ai_fr_tr hFx28_ (fr_le hFx31_ rfl)
        refine sm_T_go 2 (c1 := (46, [some (.inr (.inr (some (11, 0)))), some (.inr (.inr (some (2, cc_)))), none, none, none], [.inr (.inr (some (2, cc_))), .inr (.inr (some (11, 0)))], Sx29_)) rfl ?_
        refine sm_T_cal (d1 := 1) (Q1 := vq_200 cc_ Sx29_) rfl rfl (by decide) (vc_200 cc_ Sx29_ hIx30_ (by (have q1_ := hFx33_.1 2 cc_ 1 rfl; have q2_ := hFx33_.1 2 cc_ 2 rfl; omega))) (fun u_ Sx34_ px37_ => ?_)
        obtain ⟨rfl, hIx35_, hFx36_, px37_⟩ := px37_
        have hFx38_ : ai_fr (sx_W vw_199) S0_ Sx34_ := ai_fr_tr hFx33_ (fr_le hFx36_ rfl)
        have hIx39_ : gi (sm_pI Sx34_ 11 0 5 0) := gi_pI hIx35_ (show 0 ≤ 0 ∧ 0 ≤ 41 from ⟨by omega, by omega⟩)
        have hFx40_ : ai_fr (sx_W vw_199) S0_ (sm_pI Sx34_ 11 0 5 0) := ai_fr_tr hFx38_ (ai_fr_pI rfl)
        refine sm_T_go 5 (c1 := (56, [some (.inr (.inr (some (11, 0)))), some (.inr (.inr (some (2, cc_)))), some (.inl 0), none, none], [], sm_pI Sx34_ 11 0 5 0)) rfl ?_
        refine (vl_199 cc_ S0_ hs_ hp_ _).1 0 (sm_pI Sx34_ 11 0 5 0) hIx39_ hFx40_ ⟨?_, trivial⟩ (Nat.lt_succ_self _)
        · (refine ⟨by omega, by omega, rfl⟩)
      · have cx24_ : ¬ ((S0_.1 11 0 4) ≠ (S0_.1 0 (0 + cc_) 16)) := of_decide_eq_false cx24_
        refine sm_T_rv rfl ⟨_, _, rfl, rfl, hI_, hF_, ?_⟩
        exact hp_
    · skip
      have hIx41_ : gi (sm_pR S0_ 11 0 3 (some cc_)) := gi_pR hI_
      have hFx42_ : ai_fr (sx_W vw_199) S0_ (sm_pR S0_ 11 0 3 (some cc_)) := ai_fr_tr hF_ (ai_fr_pR rfl)
      have bx43_ : (-2147483648) ≤ S0_.1 0 (0 + cc_) 16 ∧ S0_.1 0 (0 + cc_) 16 ≤ 2147483647 := hI_.1 0 (0 + cc_) 16 rfl
      have hIx44_ : gi (sm_pI (sm_pR S0_ 11 0 3 (some cc_)) 11 0 4 (S0_.1 0 (0 + cc_) 16)) := gi_pI hIx41_ (show (-2147483648) ≤ (S0_.1 0 (0 + cc_) 16) ∧ (S0_.1 0 (0 + cc_) 16) ≤ 2147483647 from ⟨by omega, by omega⟩)
      have hFx45_ : ai_fr (sx_W vw_199) S0_ (sm_pI (sm_pR S0_ 11 0 3 (some cc_)) 11 0 4 (S0_.1 0 (0 + cc_) 16)) := ai_fr_tr hFx42_ (ai_fr_pI rfl)
      refine sm_T_go 10 (c1 := (41, [some (.inr (.inr (some (11, 0)))), some (.inr (.inr (some (2, cc_)))), none, none, none], [.inr (.inr (some (2, cc_))), .inr (.inr (some (11, 0)))], sm_pI (sm_pR S0_ 11 0 3 (some cc_)) 11 0 4 (S0_.1 0 (0 + cc_) 16))) rfl ?_
      refine sm_T_cal (d1 := 1) (Q1 := vq_196 cc_ (sm_pI (sm_pR S0_ 11 0 3 (some cc_)) 11 0 4 (S0_.1 0 (0 + cc_) 16))) rfl rfl (by decide) (vc_196 cc_ (sm_pI (sm_pR S0_ 11 0 3 (some cc_)) 11 0 4 (S0_.1 0 (0 + cc_) 16)) hIx44_ (by exact hs_)) (fun u_ Sx46_ px49_ => ?_)
      obtain ⟨rfl, hIx47_, hFx48_, px49_⟩ := px49_
      have hFx50_ : ai_fr (sx_W vw_199) S0_ Sx46_ := ai_fr_tr hFx45_ (fr_le hFx48_ rfl)
      refine sm_T_go 2 (c1 := (46, [some (.inr (.inr (some (11, 0)))), some (.inr (.inr (some (2, cc_)))), none, none, none], [.inr (.inr (some (2, cc_))), .inr (.inr (some (11, 0)))], Sx46_)) rfl ?_
      refine sm_T_cal (d1 := 1) (Q1 := vq_200 cc_ Sx46_) rfl rfl (by decide) (vc_200 cc_ Sx46_ hIx47_ (by (have q1_ := hFx50_.1 2 cc_ 1 rfl; have q2_ := hFx50_.1 2 cc_ 2 rfl; omega))) (fun u_ Sx51_ px54_ => ?_)
      obtain ⟨rfl, hIx52_, hFx53_, px54_⟩ := px54_
      have hFx55_ : ai_fr (sx_W vw_199) S0_ Sx51_ := ai_fr_tr hFx50_ (fr_le hFx53_ rfl)
      have hIx56_ : gi (sm_pI Sx51_ 11 0 5 0) := gi_pI hIx52_ (show 0 ≤ 0 ∧ 0 ≤ 41 from ⟨by omega, by omega⟩)
      have hFx57_ : ai_fr (sx_W vw_199) S0_ (sm_pI Sx51_ 11 0 5 0) := ai_fr_tr hFx55_ (ai_fr_pI rfl)
      refine sm_T_go 5 (c1 := (56, [some (.inr (.inr (some (11, 0)))), some (.inr (.inr (some (2, cc_)))), some (.inl 0), none, none], [], sm_pI Sx51_ 11 0 5 0)) rfl ?_
      refine (vl_199 cc_ S0_ hs_ hp_ _).1 0 (sm_pI Sx51_ 11 0 5 0) hIx56_ hFx57_ ⟨?_, trivial⟩ (Nat.lt_succ_self _)
      · (refine ⟨by omega, by omega, rfl⟩)
end
/-! 99.zn1a -/
section
/-! cells over a graph: nodes; written by wip/p55/gen/vg -/

/-! cells over a_ graph -/
theorem swx {x_ b_ : Int} (h_ : 0 ≤ x_ ∧ x_ ≤ 2025) (hb_ : 0 ≤ b_ ∧ b_ ≤ 1) : 0 ≤ i_xor x_ b_ ∧ i_xor x_ b_ ≤ 2025 := by
  have q_ := i_xb (x_ := x_) (b_ := b_) (by omega) hb_
  omega
/-! Mapper.lowNode -/
def vw_92 : sx_Wl := ([], [], [])
def vq_92 (a1_ : Int) (dd_ : Nat) (S0_ : sm_S) (u_ : Option sm_V) (S1_ : sm_S) : Prop := S0_ = S1_ ∧ ∃ v_ : Int, u_ = some (.inl v_) ∧ ((0 ≤ v_ ∧ v_ ≤ 1012) ∧ ∀ F_ : Nat, dgr dd_ F_ S0_ → swp dd_ F_ S0_ → (F_ : Int) ≤ a1_ → a1_ < S0_.1 3 dd_ 4 → v_ = (srp dd_ S0_ (S0_.2.2.1 42 (0 + dd_) a1_.toNat) : Int))
set_option maxHeartbeats 400000 in
theorem vc_92 {sc_ : Nat × (Nat → Int)} (a1_ : Int) (dd_ : Nat) (S0_ : sm_S) (hI_ : gi S0_) (hd_ : S0_.2.1 6 0 0 = some dd_) (h1_ : 0 ≤ a1_ ∧ a1_ ≤ 1012) : sm_T (mt_P sc_) 1 92 (0, [some (.inr (.inr (some (6, 0)))), some (.inl a1_)], [], S0_) (fun ro9_ => ∃ u_ S1_, ro9_ = (.inl u_, S1_, 0) ∧ vq_92 a1_ dd_ S0_ u_ S1_) := by
  have hF_ : ai_fr (sx_W vw_92) S0_ S0_ := ai_fr_rf
  refine sm_T_go 1 (c1 := (1, [some (.inr (.inr (some (6, 0)))), some (.inl a1_)], [.inr (.inr (some (6, 0)))], S0_)) rfl ?_
  refine sm_T_gr rfl rfl ((hF_.2.1 6 0 0 rfl).trans hd_) ?_
  refine sm_T_go 1 (c1 := (5, [some (.inr (.inr (some (6, 0)))), some (.inl a1_)], [.inr (.inr (some (6, 0))), .inr (.inr (some (3, dd_)))], S0_)) rfl ?_
  refine sm_T_gr rfl rfl ((hF_.2.1 6 0 0 rfl).trans hd_) ?_
  refine sm_T_go 2 (c1 := (12, [some (.inr (.inr (some (6, 0)))), some (.inl a1_)], [.inl a1_, .inr (.inr (some (42, (0 + dd_)))), .inr (.inr (some (3, dd_)))], S0_)) rfl ?_
  refine sm_T_iald (n := 1013) rfl rfl (by omega) (by omega) ?_
  have bx1_ : 0 ≤ S0_.2.2.1 42 (0 + dd_) a1_.toNat ∧ S0_.2.2.1 42 (0 + dd_) a1_.toNat ≤ 2025 := hI_.2 42 (0 + dd_) _
  refine sm_T_cal (d1 := 0) (Q1 := vq_64 (S0_.2.2.1 42 (0 + dd_) a1_.toNat) dd_ S0_) rfl rfl (by decide) (vc_64 (S0_.2.2.1 42 (0 + dd_) a1_.toNat) dd_ S0_ hI_ (by omega)) (fun u_ Sx2_ px5_ => ?_)
  obtain ⟨rfl, vx7_, rfl, px5_⟩ := px5_
  have e13_ := px5_
  have c44_ : 0 ≤ S0_.2.2.1 44 (0 + dd_) (S0_.2.2.1 42 (0 + dd_) a1_.toNat / 2).toNat ∧ S0_.2.2.1 44 (0 + dd_) (S0_.2.2.1 42 (0 + dd_) a1_.toNat / 2).toNat ≤ 2025 := hI_.2 44 (0 + dd_) _
  have x13_ := swx c44_ (show 0 ≤ S0_.2.2.1 42 (0 + dd_) a1_.toNat % 2 ∧ S0_.2.2.1 42 (0 + dd_) a1_.toNat % 2 ≤ 1 by omega)
  refine sm_T_go 1 (c1 := (17, [some (.inr (.inr (some (6, 0)))), some (.inl a1_)], [.inl 1, .inl vx7_], S0_)) rfl ?_
  refine sm_T_bin (w := (vx7_ / 2)) rfl (bi_shr (k := 1) (by decide) (by omega) (by omega)) ?_ -- pc_ 17
  refine sm_T_ri rfl ⟨_, _, rfl, rfl, _, rfl, ?_⟩
  refine ⟨by omega, fun F_ hg_ hs_ u_ w_ => ?_⟩
  have n13_ : S0_.1 3 dd_ 4 ≤ 1013 := (hI_.1 3 dd_ 4 rfl).2
  have g9_ := hg_.2.2 a1_.toNat (by omega) (by omega)
  have s9_ := swl_n hs_ (l_ := S0_.2.2.1 42 (0 + dd_) a1_.toNat) (by omega) (by omega) (by omega)
  rw [e13_]
  exact s9_.1
end
/-! 99.zn1b -/
section
/-! Mapper.highNode -/
def vw_93 : sx_Wl := ([], [], [])
def vq_93 (a1_ : Int) (dd_ : Nat) (S0_ : sm_S) (u_ : Option sm_V) (S1_ : sm_S) : Prop := S0_ = S1_ ∧ ∃ v_ : Int, u_ = some (.inl v_) ∧ ((0 ≤ v_ ∧ v_ ≤ 1012) ∧ ∀ F_ : Nat, dgr dd_ F_ S0_ → swp dd_ F_ S0_ → (F_ : Int) ≤ a1_ → a1_ < S0_.1 3 dd_ 4 → v_ = (srp dd_ S0_ (S0_.2.2.1 43 (0 + dd_) a1_.toNat) : Int))
set_option maxHeartbeats 400000 in
theorem vc_93 {sc_ : Nat × (Nat → Int)} (a1_ : Int) (dd_ : Nat) (S0_ : sm_S) (hI_ : gi S0_) (hd_ : S0_.2.1 6 0 0 = some dd_) (h1_ : 0 ≤ a1_ ∧ a1_ ≤ 1012) : sm_T (mt_P sc_) 1 93 (0, [some (.inr (.inr (some (6, 0)))), some (.inl a1_)], [], S0_) (fun ro9_ => ∃ u_ S1_, ro9_ = (.inl u_, S1_, 0) ∧ vq_93 a1_ dd_ S0_ u_ S1_) := by
  have hF_ : ai_fr (sx_W vw_93) S0_ S0_ := ai_fr_rf
  refine sm_T_go 1 (c1 := (1, [some (.inr (.inr (some (6, 0)))), some (.inl a1_)], [.inr (.inr (some (6, 0)))], S0_)) rfl ?_
  refine sm_T_gr rfl rfl ((hF_.2.1 6 0 0 rfl).trans hd_) ?_
  refine sm_T_go 1 (c1 := (5, [some (.inr (.inr (some (6, 0)))), some (.inl a1_)], [.inr (.inr (some (6, 0))), .inr (.inr (some (3, dd_)))], S0_)) rfl ?_
  refine sm_T_gr rfl rfl ((hF_.2.1 6 0 0 rfl).trans hd_) ?_
  refine sm_T_go 2 (c1 := (12, [some (.inr (.inr (some (6, 0)))), some (.inl a1_)], [.inl a1_, .inr (.inr (some (43, (0 + dd_)))), .inr (.inr (some (3, dd_)))], S0_)) rfl ?_
  refine sm_T_iald (n := 1013) rfl rfl (by omega) (by omega) ?_
  have bx1_ : 0 ≤ S0_.2.2.1 43 (0 + dd_) a1_.toNat ∧ S0_.2.2.1 43 (0 + dd_) a1_.toNat ≤ 2025 := hI_.2 43 (0 + dd_) _
  refine sm_T_cal (d1 := 0) (Q1 := vq_64 (S0_.2.2.1 43 (0 + dd_) a1_.toNat) dd_ S0_) rfl rfl (by decide) (vc_64 (S0_.2.2.1 43 (0 + dd_) a1_.toNat) dd_ S0_ hI_ (by omega)) (fun u_ Sx2_ px5_ => ?_)
  obtain ⟨rfl, vx7_, rfl, px5_⟩ := px5_
  have e13_ := px5_
  have c44_ : 0 ≤ S0_.2.2.1 44 (0 + dd_) (S0_.2.2.1 43 (0 + dd_) a1_.toNat / 2).toNat ∧ S0_.2.2.1 44 (0 + dd_) (S0_.2.2.1 43 (0 + dd_) a1_.toNat / 2).toNat ≤ 2025 := hI_.2 44 (0 + dd_) _
  have x13_ := swx c44_ (show 0 ≤ S0_.2.2.1 43 (0 + dd_) a1_.toNat % 2 ∧ S0_.2.2.1 43 (0 + dd_) a1_.toNat % 2 ≤ 1 by omega)
  refine sm_T_go 1 (c1 := (17, [some (.inr (.inr (some (6, 0)))), some (.inl a1_)], [.inl 1, .inl vx7_], S0_)) rfl ?_
  refine sm_T_bin (w := (vx7_ / 2)) rfl (bi_shr (k := 1) (by decide) (by omega) (by omega)) ?_ -- pc_ 17
  refine sm_T_ri rfl ⟨_, _, rfl, rfl, _, rfl, ?_⟩
  refine ⟨by omega, fun F_ hg_ hs_ u_ w_ => ?_⟩
  have n13_ : S0_.1 3 dd_ 4 ≤ 1013 := (hI_.1 3 dd_ 4 rfl).2
  have g9_ := hg_.2.2 a1_.toNat (by omega) (by omega)
  have s9_ := swl_n hs_ (l_ := S0_.2.2.1 43 (0 + dd_) a1_.toNat) (by omega) (by omega) (by omega)
  rw [e13_]
  exact s9_.1
end
/-! 99.zn1c -/
section
/-! Mapper.isLeaf -/
def vw_94 : sx_Wl := ([], [], [])
def vq_94 (a1_ : Int) (dd_ : Nat) (S0_ : sm_S) (u_ : Option sm_V) (S1_ : sm_S) : Prop := S0_ = S1_ ∧ ∃ v_ : Int, u_ = some (.inl v_) ∧ ((v_ = 1 ∧ (a1_ < 1 + S0_.1 3 dd_ 1 + S0_.1 3 dd_ 2 ∨ S0_.2.2.1 60 0 a1_.toNat ≠ 0)) ∨ (v_ = 0 ∧ 1 + S0_.1 3 dd_ 1 + S0_.1 3 dd_ 2 ≤ a1_ ∧ S0_.2.2.1 60 0 a1_.toNat = 0))
set_option maxHeartbeats 400000 in
theorem vc_94 {sc_ : Nat × (Nat → Int)} (a1_ : Int) (dd_ : Nat) (S0_ : sm_S) (hI_ : gi S0_) (hd_ : S0_.2.1 6 0 0 = some dd_) (h1_ : 0 ≤ a1_ ∧ a1_ ≤ 1012) : sm_T (mt_P sc_) 1 94 (0, [some (.inr (.inr (some (6, 0)))), some (.inl a1_)], [], S0_) (fun ro9_ => ∃ u_ S1_, ro9_ = (.inl u_, S1_, 0) ∧ vq_94 a1_ dd_ S0_ u_ S1_) := by
  have hF_ : ai_fr (sx_W vw_94) S0_ S0_ := ai_fr_rf
  have c1_ : 0 ≤ S0_.1 3 dd_ 1 ∧ S0_.1 3 dd_ 1 ≤ 320 := hI_.1 3 dd_ 1 rfl
  have c2_ : 0 ≤ S0_.1 3 dd_ 2 ∧ S0_.1 3 dd_ 2 ≤ 100000 := hI_.1 3 dd_ 2 rfl
  refine sm_T_go 2 (c1 := (2, [some (.inr (.inr (some (6, 0)))), some (.inl a1_)], [.inr (.inr (some (6, 0))), .inl a1_], S0_)) rfl ?_
  refine sm_T_gr rfl rfl ((hF_.2.1 6 0 0 rfl).trans hd_) ?_
  refine sm_T_cal (d1 := 0) (Q1 := vq_63 dd_ S0_) rfl rfl (by decide) (vc_63 dd_ S0_ hI_ (by omega)) (fun u_ Sx1_ px4_ => ?_)
  obtain ⟨rfl, vx6_, rfl, px4_⟩ := px4_
  have f5_ := px4_
  refine sm_T_br (a := 2) (z := 12) rfl (fun cx7_ => ?_) (fun cx7_ => ?_)
  · have cx7_ : a1_ < vx6_ := of_decide_eq_true cx7_
    refine sm_T_go 2 (c1 := (25, [some (.inr (.inr (some (6, 0)))), some (.inl a1_)], [.inl 1], S0_)) rfl ?_
    refine sm_T_rz rfl (by omega) ⟨_, _, rfl, rfl, _, rfl, ?_⟩
    omega
  · have cx7_ : ¬ (a1_ < vx6_) := of_decide_eq_false cx7_
    refine sm_T_go 3 (c1 := (16, [some (.inr (.inr (some (6, 0)))), some (.inl a1_)], [.inl a1_, .inr (.inr (some (60, 0)))], S0_)) rfl ?_
    refine sm_T_iald (n := 1013) rfl rfl (by omega) (by omega) ?_
    have bx8_ : (-2147483648) ≤ S0_.2.2.1 60 0 a1_.toNat ∧ S0_.2.2.1 60 0 a1_.toNat ≤ 2147483647 := hI_.2 60 0 _
    refine sm_T_b0 (a := 0) (z := 7) rfl (fun cx9_ => ?_) (fun cx9_ => ?_)
    · have cx9_ : (S0_.2.2.1 60 0 a1_.toNat) = 0 := of_decide_eq_true cx9_
      refine sm_T_go 1 (c1 := (25, [some (.inr (.inr (some (6, 0)))), some (.inl a1_)], [.inl 0], S0_)) rfl ?_
      refine sm_T_rz rfl (by omega) ⟨_, _, rfl, rfl, _, rfl, ?_⟩
      omega
    · have cx9_ : ¬ ((S0_.2.2.1 60 0 a1_.toNat) = 0) := of_decide_eq_false cx9_
      refine sm_T_go 2 (c1 := (25, [some (.inr (.inr (some (6, 0)))), some (.inl a1_)], [.inl 1], S0_)) rfl ?_
      refine sm_T_rz rfl (by omega) ⟨_, _, rfl, rfl, _, rfl, ?_⟩
      omega
def plo (a_ b_ c_ : Int) : Int := if a_ = 2 then st_at 4 (3 * b_ + c_) else st_at 4 (3 * b_ + c_ + 6)
theorem pl2 {i_ : Int} (h_ : i_ = 0 ∨ i_ = 1 ∨ i_ = 3 ∨ i_ = 4) : 0 ≤ st_at 4 i_ ∧ st_at 4 i_ ≤ 1 := by
  rcases h_ with h_ | h_ | h_ | h_ <;> rw [h_] <;> decide
theorem pl3 {i_ : Int} (h_ : 0 ≤ i_ ∧ i_ ≤ 23) : 0 ≤ st_at 4 i_ ∧ st_at 4 i_ ≤ 2 := by
  have c_ : ∀ k_ : Fin 24, 0 ≤ st_at 4 ((k_.val : Nat) : Int) ∧ st_at 4 ((k_.val : Nat) : Int) ≤ 2 := by decide
  have q_ := c_ ⟨i_.toNat, by omega⟩
  rw [show (((⟨i_.toNat, by omega⟩ : Fin 24).val : Nat) : Int) = i_ from by show ((i_.toNat : Nat) : Int) = i_; omega] at q_
  exact q_
end
/-! 99.zn1d -/
section
/-! Mapper.placeOf -/
def vw_98 : sx_Wl := ([], [], [])
def vq_98 (a0_ : Int) (a1_ : Int) (a2_ : Int) (S0_ : sm_S) (u_ : Option sm_V) (S1_ : sm_S) : Prop := S0_ = S1_ ∧ ∃ v_ : Int, u_ = some (.inl v_) ∧ ((0 ≤ v_ ∧ v_ ≤ a0_ - 1) ∧ v_ = plo a0_ a1_ a2_)
set_option maxHeartbeats 400000 in
theorem vc_98 {sc_ : Nat × (Nat → Int)} (a0_ : Int) (a1_ : Int) (a2_ : Int) (S0_ : sm_S) (hI_ : gi S0_) (h0_ : (a0_ = 2 ∧ 0 ≤ a1_ ∧ a1_ ≤ 1 ∧ 0 ≤ a2_ ∧ a2_ ≤ 1) ∨ (a0_ = 3 ∧ 0 ≤ a1_ ∧ a1_ ≤ 5 ∧ 0 ≤ a2_ ∧ a2_ ≤ 2)) : sm_T (mt_P sc_) 0 98 (0, [some (.inl a0_), some (.inl a1_), some (.inl a2_)], [], S0_) (fun ro9_ => ∃ u_ S1_, ro9_ = (.inl u_, S1_, 0) ∧ vq_98 a0_ a1_ a2_ S0_ u_ S1_) := by
  have hF_ : ai_fr (sx_W vw_98) S0_ S0_ := ai_fr_rf
  refine sm_T_nt (u := some (.inr (.inr (some (300, 0))))) (S1 := S0_) rfl rfl rfl ?_
  refine sm_T_go 3 (c1 := (6, [some (.inl a0_), some (.inl a1_), some (.inl a2_)], [.inl 2, .inl a0_, .inl 3, .inr (.inr (some (300, 0)))], S0_)) rfl ?_
  refine sm_T_br (a := 1) (z := 7) rfl (fun cx1_ => ?_) (fun cx1_ => ?_)
  · have cx1_ : a0_ ≠ 2 := of_decide_eq_true cx1_
    refine sm_T_go 2 (c1 := (15, [some (.inl a0_), some (.inl a1_), some (.inl a2_)], [.inl a1_, .inl 2, .inl 3, .inr (.inr (some (300, 0)))], S0_)) rfl ?_
    refine sm_T_bin (w := a1_ + 2) rfl (bi_add (by omega) (by omega) (by omega)) ?_ -- pc_ 15
    refine sm_T_bin (w := 3 * a1_ + 6) rfl (bi_mul (by omega) (by omega) (by omega)) ?_ -- pc_ 16
    refine sm_T_go 1 (c1 := (18, [some (.inl a0_), some (.inl a1_), some (.inl a2_)], [.inl a2_, .inl (3 * a1_ + 6), .inr (.inr (some (300, 0)))], S0_)) rfl ?_
    refine sm_T_bin (w := 3 * a1_ + a2_ + 6) rfl (bi_add (by omega) (by omega) (by omega)) ?_ -- pc_ 18
    refine sm_T_nt (u := some (.inl (st_at 4 (3 * a1_ + a2_ + 6)))) (S1 := S0_) rfl rfl (nt_st (sc := sc_) (j := 4) (n := 24) (by decide) rfl rfl (by omega) (by omega)) ?_
    refine sm_T_ri rfl ⟨_, _, rfl, rfl, _, rfl, ?_⟩
    first | (have z9_ := pl2 (i_ := 3 * a1_ + a2_) (by omega); exact ⟨by omega, by unfold plo; rw [if_pos (by omega)]⟩) | (have z9_ := pl3 (i_ := 3 * a1_ + a2_ + 6) (by omega); exact ⟨by omega, by unfold plo; rw [if_neg (by omega)]⟩)
  · have cx1_ : ¬ (a0_ ≠ 2) := of_decide_eq_false cx1_
    refine sm_T_go 2 (c1 := (16, [some (.inl a0_), some (.inl a1_), some (.inl a2_)], [.inl a1_, .inl 3, .inr (.inr (some (300, 0)))], S0_)) rfl ?_
    refine sm_T_bin (w := 3 * a1_) rfl (bi_mul (by omega) (by omega) (by omega)) ?_ -- pc_ 16
    refine sm_T_go 1 (c1 := (18, [some (.inl a0_), some (.inl a1_), some (.inl a2_)], [.inl a2_, .inl (3 * a1_), .inr (.inr (some (300, 0)))], S0_)) rfl ?_
    refine sm_T_bin (w := 3 * a1_ + a2_) rfl (bi_add (by omega) (by omega) (by omega)) ?_ -- pc_ 18
    refine sm_T_nt (u := some (.inl (st_at 4 (3 * a1_ + a2_)))) (S1 := S0_) rfl rfl (nt_st (sc := sc_) (j := 4) (n := 24) (by decide) rfl rfl (by omega) (by omega)) ?_
    refine sm_T_ri rfl ⟨_, _, rfl, rfl, _, rfl, ?_⟩
    first | (have z9_ := pl2 (i_ := 3 * a1_ + a2_) (by omega); exact ⟨by omega, by unfold plo; rw [if_pos (by omega)]⟩) | (have z9_ := pl3 (i_ := 3 * a1_ + a2_ + 6) (by omega); exact ⟨by omega, by unfold plo; rw [if_neg (by omega)]⟩)
end
/-! 99.zn1f -/
section
/-! Mapper.isBefore -/
/-- members and cuts: nodes of_ a_ kind -/
def mms (P_ : Int → Prop) (S_ : sm_S) (k_ h_ : Int) : Prop := ∀ i_ : Nat, (i_ : Int) ≤ k_ → (i_ : Int) ≠ h_ → P_ (S_.2.2.1 68 0 i_)
def mcs (P_ : Int → Prop) (S_ : sm_S) : Prop := ∀ c_ : Nat, (c_ : Int) < S_.1 6 0 11 → P_ (S_.2.2.1 65 0 (3 * c_)) ∧ P_ (S_.2.2.1 65 0 (3 * c_ + 1)) ∧ (S_.2.2.1 65 0 (3 * c_ + 2) = -1 ∨ P_ (S_.2.2.1 65 0 (3 * c_ + 2)))
theorem mms_mv {P_ : Int → Prop} {S_ : sm_S} {k_ h_ : Int} (g_ : mms P_ S_ k_ h_) (h0_ : 1 ≤ h_ ∧ h_ ≤ k_) : mms P_ (sm_aI S_ 68 0 h_.toNat (S_.2.2.1 68 0 (h_ - 1).toNat)) k_ (h_ - 1) := by
  intro i_ hi_ hn_
  rw [rd_eq]
  by_cases y_ : i_ = h_.toNat
  · rw [if_pos y_]; exact g_ (h_ - 1).toNat (by omega) (by omega)
  · rw [if_neg y_]; exact g_ i_ hi_ (by omega)
end
/-! 99.zn2a -/
section
/-! what is needed; written by wip/p55/gen/vg -/

/-! what a_ needed node is_ made of_ -/
theorem nd_p {dd_ F_ : Nat} {S_ : sm_S} {u_ : Nat → Int} {x_ : Nat} (hg_ : dgr dd_ F_ S_) (hs_ : swp dd_ F_ S_) (hk_ : mkd dd_ F_ S_ u_) (n13_ : S_.1 3 dd_ 4 ≤ 1013) (h1_ : F_ ≤ x_) (h2_ : (x_ : Int) < S_.1 3 dd_ 4) (h3_ : u_ x_ = 1) :
    (1 ≤ srp dd_ S_ (S_.2.2.1 42 (0 + dd_) x_) ∧ srp dd_ S_ (S_.2.2.1 42 (0 + dd_) x_) < x_ ∧ u_ (srp dd_ S_ (S_.2.2.1 42 (0 + dd_) x_)) = 1) ∧ (1 ≤ srp dd_ S_ (S_.2.2.1 43 (0 + dd_) x_) ∧ srp dd_ S_ (S_.2.2.1 43 (0 + dd_) x_) < x_ ∧ u_ (srp dd_ S_ (S_.2.2.1 43 (0 + dd_) x_)) = 1) ∧ srp dd_ S_ (S_.2.2.1 42 (0 + dd_) x_) ≠ srp dd_ S_ (S_.2.2.1 43 (0 + dd_) x_) := by
  have g_ := hg_.2.2 x_ h1_ h2_
  have a_ := srp_b hs_ (l_ := S_.2.2.1 42 (0 + dd_) x_) (by omega) (by omega)
  have b_ := srp_b hs_ (l_ := S_.2.2.1 43 (0 + dd_) x_) (by omega) (by omega)
  have c_ := hk_.2.2 x_ h1_ h2_ h3_
  have d_ : S_.2.2.1 44 (0 + dd_) x_ = 2 * (x_ : Int) := by
    rcases hk_.1 x_ (by omega) with z_ | z_
    · rw [z_] at h3_; exact absurd h3_ (by decide)
    · exact z_.2.2
  have e_ := (hs_.2 x_ h2_).2.2 h1_ d_
  have e1_ : (srp dd_ S_ (S_.2.2.1 42 (0 + dd_) x_) : Int) = S_.2.2.1 44 (0 + dd_) (S_.2.2.1 42 (0 + dd_) x_ / 2).toNat / 2 := by unfold srp; omega
  have e2_ : (srp dd_ S_ (S_.2.2.1 43 (0 + dd_) x_) : Int) = S_.2.2.1 44 (0 + dd_) (S_.2.2.1 43 (0 + dd_) x_ / 2).toNat / 2 := by unfold srp; omega
  obtain ⟨m1_, m2_, m3⟩ := e_
  exact ⟨⟨by omega, by omega, c_.1⟩, ⟨by omega, by omega, c_.2⟩, by omega⟩
/-- nodes below n_ that are_ needed -/
def npd (n_ : Int) (u_ : Nat → Int) (x_ : Int) : Prop := 1 ≤ x_ ∧ x_ < n_ ∧ u_ x_.toNat = 1
theorem mcs_fr {w_ : sx_Wl} {P_ : Int → Prop} {S_ S'_ : sm_S} (g_ : mcs P_ S_) (f_ : ai_fr (sx_W w_) S_ S'_) (a_ : (sx_W w_).2.1 65 = false := by rfl) (b_ : (sx_W w_).1 6 11 = false := by rfl) : mcs P_ S'_ := fun c_ hc_ => by
  rw [f_.1 6 0 11 b_] at hc_
  rw [(f_.2.2 65 a_ 0 (3 * c_)).1, (f_.2.2 65 a_ 0 (3 * c_ + 1)).1, (f_.2.2 65 a_ 0 (3 * c_ + 2)).1]
  exact g_ c_ hc_
theorem mms_0 {P_ : Int → Prop} {S_ : sm_S} : mms P_ S_ 0 0 := fun i_ hi_ hn_ => by exfalso; omega
theorem mcs_a {P_ : Int → Prop} {S_ : sm_S} (g_ : mcs P_ S_) {i_ k_ : Int} (hi_ : 0 ≤ i_ ∧ i_ < S_.1 6 0 11) (hk_ : 0 ≤ k_ ∧ k_ ≤ 2) (hn_ : S_.2.2.1 65 0 (3 * i_ + k_).toNat ≠ -1) : P_ (S_.2.2.1 65 0 (3 * i_ + k_).toNat) := by
  have q_ := g_ i_.toNat (by omega)
  have c_ : k_ = 0 ∨ k_ = 1 ∨ k_ = 2 := by omega
  rcases c_ with c_ | c_ | c_
  · rw [show (3 * i_ + k_).toNat = 3 * i_.toNat by omega]; exact q_.1
  · rw [show (3 * i_ + k_).toNat = 3 * i_.toNat + 1 by omega]; exact q_.2.1
  · rw [show (3 * i_ + k_).toNat = 3 * i_.toNat + 2 by omega] at hn_ ⊢
    exact q_.2.2.resolve_left hn_
theorem vt3 {k_ : Int} (h_ : 0 ≤ k_ ∧ k_ ≤ 2) : 0 ≤ st_at 3 k_ ∧ st_at 3 k_ ≤ 255 := by
  have c_ : k_ = 0 ∨ k_ = 1 ∨ k_ = 2 := by omega
  rcases c_ with c_ | c_ | c_ <;> rw [c_] <;> decide
/-! java/util/Arrays.fill -/
def vw_2m9 : sx_Wl := ([], [59], [])
def vq_2m9 (v0_ : Int) (S0_ : sm_S) (u_ : Option sm_V) (S1_ : sm_S) : Prop := u_ = none ∧ gi S1_ ∧ ai_fr (sx_W vw_2m9) S0_ S1_ ∧ (∀ j_, j_ < 1013 → S1_.2.2.1 59 0 j_ = v0_)
set_option maxHeartbeats 400000 in
theorem vl_2m9 {sc_ : Nat × (Nat → Int)} (v0_ : Int) (S0_ : sm_S) (hv_ : 0 ≤ v0_ ∧ v0_ ≤ 1) : ∀ nn_ : Nat, (∀ (k_ : Int) (S_ : sm_S), gi S_ → ai_fr (sx_W vw_2m9) S0_ S_ → ((0 ≤ k_ ∧ k_ ≤ 1013) ∧ (∀ j_, j_ < k_.toNat → S_.2.2.1 59 0 j_ = v0_) ∧ True) → ((1013 - k_).toNat) < nn_ → sm_T (mt_P sc_) 0 2 (5, [some (.inr (.inr (some (59, 0)))), some (.inl v0_), some (.inl k_), some (.inl 1013)], [], S_) (fun ro9_ => ∃ u_ S1_, ro9_ = (.inl u_, S1_, 0) ∧ vq_2m9 v0_ S0_ u_ S1_)) := by
  intro nn_
  induction nn_ with
  | zero => exact fun _ _ _ _ _ h_ => absurd h_ (Nat.not_lt_zero _)
  | succ nn_ ih_ =>
    rintro k_ S_ hI_ hF_ ⟨h0_, h1_, -⟩ hm_
    refine sm_T_go 2 (c1 := (7, [some (.inr (.inr (some (59, 0)))), some (.inl v0_), some (.inl k_), some (.inl 1013)], [.inl 1013, .inl k_], S_)) rfl ?_
    refine sm_T_br (a := 3) (z := 13) rfl (fun cx1_ => ?_) (fun cx1_ => ?_)
    · have cx1_ : 1013 ≤ k_ := of_decide_eq_true cx1_
      refine sm_T_rv rfl ⟨_, _, rfl, rfl, hI_, hF_, ?_⟩
      exact fun j_ hj_ => h1_ j_ (by omega)
    · have cx1_ : ¬ (1013 ≤ k_) := of_decide_eq_false cx1_
      refine sm_T_go 3 (c1 := (13, [some (.inr (.inr (some (59, 0)))), some (.inl v0_), some (.inl k_), some (.inl 1013)], [.inl v0_, .inl k_, .inr (.inr (some (59, 0)))], S_)) rfl ?_
      refine sm_T_iast (n := 1013) rfl rfl (by omega) (by omega) ?_
      have hIx2_ : gi (sm_aI S_ 59 0 k_.toNat v0_) := gi_aI hI_ (show 0 ≤ v0_ ∧ v0_ ≤ 1 from ⟨by omega, by omega⟩)
      have hFx3_ : ai_fr (sx_W vw_2m9) S0_ (sm_aI S_ 59 0 k_.toNat v0_) := ai_fr_tr hF_ (ai_fr_aI rfl)
      refine sm_T_inc (a := 2) (z := 1) (v := k_) (w := k_ + 1) rfl rfl (by omega) (by omega) (by omega) ?_ -- pc_ 14
      refine sm_T_go 1 (c1 := (5, [some (.inr (.inr (some (59, 0)))), some (.inl v0_), some (.inl (k_ + 1)), some (.inl 1013)], [], sm_aI S_ 59 0 k_.toNat v0_)) rfl ?_
      refine ih_ (k_ + 1) (sm_aI S_ 59 0 k_.toNat v0_) hIx2_ hFx3_ ⟨?_, ?_, trivial⟩ ?_
      · omega
      · intro j_ hj_
        rw [rd_eq]
        by_cases z_ : j_ = k_.toNat
        · rw [if_pos z_]
        · rw [if_neg z_]; exact h1_ j_ (by omega)
      · omega
set_option maxHeartbeats 400000 in
theorem vc_2m9 {sc_ : Nat × (Nat → Int)} (v0_ : Int) (S0_ : sm_S) (hI_ : gi S0_) (hv_ : 0 ≤ v0_ ∧ v0_ ≤ 1) : sm_T (mt_P sc_) 0 2 (0, [some (.inr (.inr (some (59, 0)))), some (.inl v0_), none, none], [], S0_) (fun ro9_ => ∃ u_ S1_, ro9_ = (.inl u_, S1_, 0) ∧ vq_2m9 v0_ S0_ u_ S1_) := by
  have hF_ : ai_fr (sx_W vw_2m9) S0_ S0_ := ai_fr_rf
  refine sm_T_go 5 (c1 := (5, [some (.inr (.inr (some (59, 0)))), some (.inl v0_), some (.inl 0), some (.inl 1013)], [], S0_)) rfl ?_
  refine (vl_2m9 v0_ S0_ hv_ _) 0 S0_ hI_ hF_ ⟨?_, ?_, trivial⟩ (Nat.lt_succ_self _)
  · omega
  · (intro j_ hj_; exact absurd hj_ (Nat.not_lt_zero _))
end
/-! 99.zn4a -/
section
/-! roots, tables over cuts; written by wip/p55/gen/vg -/
/-! java/util/Arrays.fill -/
def vw_2r0 : sx_Wl := ([], [60], [])
def vq_2r0 (v0_ : Int) (S0_ : sm_S) (u_ : Option sm_V) (S1_ : sm_S) : Prop := u_ = none ∧ gi S1_ ∧ ai_fr (sx_W vw_2r0) S0_ S1_ ∧ (∀ j_, j_ < 1013 → S1_.2.2.1 60 0 j_ = v0_)
set_option maxHeartbeats 400000 in
theorem vl_2r0 {sc_ : Nat × (Nat → Int)} (v0_ : Int) (S0_ : sm_S) (hv_ : (-2147483648) ≤ v0_ ∧ v0_ ≤ 2147483647) : ∀ nn_ : Nat, (∀ (k_ : Int) (S_ : sm_S), gi S_ → ai_fr (sx_W vw_2r0) S0_ S_ → ((0 ≤ k_ ∧ k_ ≤ 1013) ∧ (∀ j_, j_ < k_.toNat → S_.2.2.1 60 0 j_ = v0_) ∧ True) → ((1013 - k_).toNat) < nn_ → sm_T (mt_P sc_) 0 2 (5, [some (.inr (.inr (some (60, 0)))), some (.inl v0_), some (.inl k_), some (.inl 1013)], [], S_) (fun ro9_ => ∃ u_ S1_, ro9_ = (.inl u_, S1_, 0) ∧ vq_2r0 v0_ S0_ u_ S1_)) := by
  intro nn_
  induction nn_ with
  | zero => exact fun _ _ _ _ _ h_ => absurd h_ (Nat.not_lt_zero _)
  | succ nn_ ih_ =>
    rintro k_ S_ hI_ hF_ ⟨h0_, h1_, -⟩ hm_
    refine sm_T_go 2 (c1 := (7, [some (.inr (.inr (some (60, 0)))), some (.inl v0_), some (.inl k_), some (.inl 1013)], [.inl 1013, .inl k_], S_)) rfl ?_
    refine sm_T_br (a := 3) (z := 13) rfl (fun cx1_ => ?_) (fun cx1_ => ?_)
    · have cx1_ : 1013 ≤ k_ := of_decide_eq_true cx1_
      refine sm_T_rv rfl ⟨_, _, rfl, rfl, hI_, hF_, ?_⟩
      exact fun j_ hj_ => h1_ j_ (by omega)
    · have cx1_ : ¬ (1013 ≤ k_) := of_decide_eq_false cx1_
      refine sm_T_go 3 (c1 := (13, [some (.inr (.inr (some (60, 0)))), some (.inl v0_), some (.inl k_), some (.inl 1013)], [.inl v0_, .inl k_, .inr (.inr (some (60, 0)))], S_)) rfl ?_
      refine sm_T_iast (n := 1013) rfl rfl (by omega) (by omega) ?_
      have hIx2_ : gi (sm_aI S_ 60 0 k_.toNat v0_) := gi_aI hI_ (show (-2147483648) ≤ v0_ ∧ v0_ ≤ 2147483647 from ⟨by omega, by omega⟩)
      have hFx3_ : ai_fr (sx_W vw_2r0) S0_ (sm_aI S_ 60 0 k_.toNat v0_) := ai_fr_tr hF_ (ai_fr_aI rfl)
      refine sm_T_inc (a := 2) (z := 1) (v := k_) (w := k_ + 1) rfl rfl (by omega) (by omega) (by omega) ?_ -- pc_ 14
      refine sm_T_go 1 (c1 := (5, [some (.inr (.inr (some (60, 0)))), some (.inl v0_), some (.inl (k_ + 1)), some (.inl 1013)], [], sm_aI S_ 60 0 k_.toNat v0_)) rfl ?_
      refine ih_ (k_ + 1) (sm_aI S_ 60 0 k_.toNat v0_) hIx2_ hFx3_ ⟨?_, ?_, trivial⟩ ?_
      · omega
      · intro j_ hj_
        rw [rd_eq]
        by_cases z_ : j_ = k_.toNat
        · rw [if_pos z_]
        · rw [if_neg z_]; exact h1_ j_ (by omega)
      · omega
set_option maxHeartbeats 400000 in
theorem vc_2r0 {sc_ : Nat × (Nat → Int)} (v0_ : Int) (S0_ : sm_S) (hI_ : gi S0_) (hv_ : (-2147483648) ≤ v0_ ∧ v0_ ≤ 2147483647) : sm_T (mt_P sc_) 0 2 (0, [some (.inr (.inr (some (60, 0)))), some (.inl v0_), none, none], [], S0_) (fun ro9_ => ∃ u_ S1_, ro9_ = (.inl u_, S1_, 0) ∧ vq_2r0 v0_ S0_ u_ S1_) := by
  have hF_ : ai_fr (sx_W vw_2r0) S0_ S0_ := ai_fr_rf
  refine sm_T_go 5 (c1 := (5, [some (.inr (.inr (some (60, 0)))), some (.inl v0_), some (.inl 0), some (.inl 1013)], [], S0_)) rfl ?_
  refine (vl_2r0 v0_ S0_ hv_ _) 0 S0_ hI_ hF_ ⟨?_, ?_, trivial⟩ (Nat.lt_succ_self _)
  · omega
  · (intro j_ hj_; exact absurd hj_ (Nat.not_lt_zero _))

theorem rtv_b {dd_ F_ : Nat} {S_ : sm_S} {i_ : Int} (hr_ : drt dd_ S_) (hs_ : swp dd_ F_ S_) (h0_ : 0 ≤ i_) (h1_ : i_ < S_.1 3 dd_ 3 + S_.1 3 dd_ 2) : (0 ≤ rtv dd_ S_ i_ ∧ rtv dd_ S_ i_ < 2 * S_.1 3 dd_ 4) ∧ (srp dd_ S_ (rtv dd_ S_ i_) : Int) < S_.1 3 dd_ 4 := by
  have a_ : 0 ≤ rtv dd_ S_ i_ ∧ rtv dd_ S_ i_ < 2 * S_.1 3 dd_ 4 := by
    unfold rtv
    split
    · exact hr_.2.1 i_.toNat (by omega)
    · exact hr_.2.2 (i_ - S_.1 3 dd_ 3).toNat (by omega)
  have b_ := srp_b hs_ a_.1 a_.2
  exact ⟨a_, by omega⟩
end
/-! 99.zn5a -/
section
/-! views of cells; written by wip/p55/gen/vg -/

/-! views of_ cells -/
theorem vsh {x_ k_ : Int} (hx_ : 0 ≤ x_ ∧ x_ ≤ 1) (hk_ : 0 ≤ k_ ∧ k_ ≤ 2) : 0 ≤ i_shl x_ k_ ∧ i_shl x_ k_ < 2 ^ 3 := by
  have a_ : x_ = 0 ∨ x_ = 1 := by omega
  have b_ : k_ = 0 ∨ k_ = 1 ∨ k_ = 2 := by omega
  rcases a_ with a_ | a_ <;> rcases b_ with b_ | b_ | b_ <;> rw [a_, b_] <;> decide
theorem vpw {e_ : Int} (h_ : e_ = 2 ∨ e_ = 3) : (e_ = 2 ∧ i_shl 1 e_ = 4 ∧ i_shl 2 e_ = 8) ∨ (e_ = 3 ∧ i_shl 1 e_ = 8 ∧ i_shl 6 e_ = 48) := by
  rcases h_ with h_ | h_ <;> rw [h_]
  · left; decide
  · right; decide
theorem vor {v_ e_ : Int} (hv_ : 0 ≤ v_ ∧ v_ < 48) (h_ : e_ = 2 ∨ e_ = 3) : (e_ = 2 ∧ i_shr v_ e_ = v_ / 4) ∨ (e_ = 3 ∧ i_shr v_ e_ = v_ / 8) := by
  rcases h_ with h_ | h_
  · left; exact ⟨h_, by rw [h_, i_shrv (by decide) (by decide) (by omega)]; rfl⟩
  · right; exact ⟨h_, by rw [h_, i_shrv (by decide) (by decide) (by omega)]; rfl⟩
/-! Mapper.viewCells -/
end
/-! 99.zn6a -/
section
/-! ways of making a literal; written by wip/p55/gen/vg -/

/-! ways of_ making a_ literal -/
theorem tbit {v_ e_ k_ : Int} (hv_ : 0 ≤ v_ ∧ v_ < 48) (he_ : e_ = 2 ∨ e_ = 3) (hk_ : 0 ≤ k_ ∧ k_ < e_) : i_shr (i_and v_ (i_shl 1 e_ - 1)) k_ % 2 = i_shr v_ k_ % 2 := by
  have c2_ : ∀ j_ : Fin 48, ∀ i_ : Fin 2, i_shr (i_and ((j_.val : Nat) : Int) (i_shl 1 2 - 1)) ((i_.val : Nat) : Int) % 2 = i_shr ((j_.val : Nat) : Int) ((i_.val : Nat) : Int) % 2 := by decide +kernel
  have c3_ : ∀ j_ : Fin 48, ∀ i_ : Fin 3, i_shr (i_and ((j_.val : Nat) : Int) (i_shl 1 3 - 1)) ((i_.val : Nat) : Int) % 2 = i_shr ((j_.val : Nat) : Int) ((i_.val : Nat) : Int) % 2 := by decide +kernel
  have hv1_ : ((v_.toNat : Nat) : Int) = v_ := by omega
  have hk1_ : ((k_.toNat : Nat) : Int) = k_ := by omega
  rcases he_ with he_ | he_
  · have q_ := c2_ ⟨v_.toNat, by omega⟩ ⟨k_.toNat, by omega⟩
    simp only [hv1_, hk1_] at q_
    rw [he_]; exact q_
  · have q_ := c3_ ⟨v_.toNat, by omega⟩ ⟨k_.toNat, by omega⟩
    simp only [hv1_, hk1_] at q_
    rw [he_]; exact q_
theorem mcs_b {P_ : Int → Prop} {S_ : sm_S} (g_ : mcs P_ S_) {i_ k_ : Int} (hi_ : 0 ≤ i_ ∧ i_ < S_.1 6 0 11) (hk_ : 0 ≤ k_ ∧ k_ ≤ 2) (hn_ : k_ = 2 → S_.2.2.1 65 0 (3 * i_ + 2).toNat ≠ -1) : P_ (S_.2.2.1 65 0 (3 * i_ + k_).toNat) := by
  have q_ := g_ i_.toNat (by omega)
  have c_ : k_ = 0 ∨ k_ = 1 ∨ k_ = 2 := by omega
  rcases c_ with c_ | c_ | c_
  · rw [show (3 * i_ + k_).toNat = 3 * i_.toNat by omega]; exact q_.1
  · rw [show (3 * i_ + k_).toNat = 3 * i_.toNat + 1 by omega]; exact q_.2.1
  · have w_ := hn_ c_
    rw [show (3 * i_ + 2).toNat = 3 * i_.toNat + 2 by omega] at w_
    rw [show (3 * i_ + k_).toNat = 3 * i_.toNat + 2 by omega]
    exact q_.2.2.resolve_left w_
/-- a_ part may_ be_ made: node x_, turned or not; inverter iv_ -/
def wpt (F_ n_ iv_ : Int) (u_ r_ need : Nat → Int) (x_ t_ : Int) : Prop := npd n_ u_ x_ ∧ imq ((x_ < F_ ∨ r_ x_.toNat ≠ 0) ∧ t_ ≠ 0) (iv_ ≠ -1) ∧ imq (F_ ≤ x_ ∧ r_ x_.toNat = 0) (need (2 * x_ + t_).toNat < 268435456)
/-- a_ literal has_ no_ way_, or a_ cell with its_ parts -/
def wo3 (F_ n_ : Int) (ll_ : Nat) (S_ : sm_S) (l_ : Nat) : Prop := (S_.2.2.1 62 0 l_ = -1 ∧ S_.2.2.1 61 0 l_ = 268435456) ∨ (0 ≤ S_.2.2.1 62 0 l_ ∧ S_.2.2.1 61 0 l_ < 268435456 ∧ ∀ k_ : Nat, (k_ : Int) < S_.2.2.1 55 (0 + ll_) (S_.2.2.1 62 0 l_).toNat → wpt F_ n_ (S_.1 5 ll_ 2) (S_.2.2.1 59 0) (S_.2.2.1 60 0) (S_.2.2.1 61 0) (S_.2.2.1 64 0 (3 * l_ + k_)) (i_shr (S_.2.2.1 63 0 l_) (k_ : Int) % 2))
/-- only literal l_ has_ changed -/
def wfl (l_ : Nat) (S_ S'_ : sm_S) : Prop := (∀ j_, j_ ≠ l_ → S'_.2.2.1 61 0 j_ = S_.2.2.1 61 0 j_ ∧ S'_.2.2.1 62 0 j_ = S_.2.2.1 62 0 j_ ∧ S'_.2.2.1 63 0 j_ = S_.2.2.1 63 0 j_) ∧ ∀ j_, (j_ < 3 * l_ ∨ 3 * l_ + 3 ≤ j_) → S'_.2.2.1 64 0 j_ = S_.2.2.1 64 0 j_
theorem wfl_rf {l_ : Nat} {S_ : sm_S} : wfl l_ S_ S_ := ⟨fun _ _ => ⟨rfl, rfl, rfl⟩, fun _ _ => rfl⟩
theorem wpt_cg {F_ n_ iv_ : Int} {u_ r_ f_ g_ : Nat → Int} {x_ t_ : Int} (h_ : wpt F_ n_ iv_ u_ r_ f_ x_ t_) (ht_ : 0 ≤ t_ ∧ t_ ≤ 1) (e_ : ∀ j_ : Nat, (j_ : Int) < 2 * n_ → g_ j_ = f_ j_) : wpt F_ n_ iv_ u_ r_ g_ x_ t_ := by
  obtain ⟨a_, b_, c_⟩ := h_
  refine ⟨a_, b_, fun q_ => ?_⟩
  have a1_ := a_.1
  have a2_ := a_.2.1
  rw [e_ _ (by omega)]
  exact c_ q_
/-- another literal's way_ stays -/
theorem wo3_cg {F_ n_ : Int} {ll_ l_ m_ : Nat} {S_ S'_ : sm_S} (h_ : wo3 F_ n_ ll_ S_ l_) (g_ : wfl m_ S_ S'_) (ne_ : l_ ≠ m_) (hm_ : 2 * n_ ≤ (m_ : Int)) (e5_ : S'_.1 5 ll_ 2 = S_.1 5 ll_ 2) (e55_ : S'_.2.2.1 55 (0 + ll_) = S_.2.2.1 55 (0 + ll_)) (e59_ : S'_.2.2.1 59 0 = S_.2.2.1 59 0) (e60_ : S'_.2.2.1 60 0 = S_.2.2.1 60 0) (c55_ : ∀ k_, S_.2.2.1 55 (0 + ll_) k_ ≤ 3) : wo3 F_ n_ ll_ S'_ l_ := by
  unfold wo3
  rw [(g_.1 l_ ne_).1, (g_.1 l_ ne_).2.1, (g_.1 l_ ne_).2.2, e5_, e55_, e59_, e60_]
  rcases h_ with h_ | h_
  · exact Or.inl h_
  · refine Or.inr ⟨h_.1, h_.2.1, fun k_ hk_ => ?_⟩
    have w_ := c55_ (S_.2.2.1 62 0 l_).toNat
    rw [g_.2 (3 * l_ + k_) (by omega)]
    exact wpt_cg (h_.2.2 k_ hk_) (by omega) (fun j_ hj_ => (g_.1 j_ (by omega)).1)
/-! Mapper.offer -/
end
/-! 99.zn7a -/
section
/-! ways by a cut; written by wip/p55/gen/vg -/

/-! all_ ways of_ a_ node -/
/-- only the_ two_ literals of_ node n_ have changed -/
def wfn (n_ : Nat) (S_ S'_ : sm_S) : Prop := (∀ j_, j_ ≠ 2 * n_ → j_ ≠ 2 * n_ + 1 → S'_.2.2.1 61 0 j_ = S_.2.2.1 61 0 j_ ∧ S'_.2.2.1 62 0 j_ = S_.2.2.1 62 0 j_ ∧ S'_.2.2.1 63 0 j_ = S_.2.2.1 63 0 j_) ∧ ∀ j_, (j_ < 6 * n_ ∨ 6 * n_ + 6 ≤ j_) → S'_.2.2.1 64 0 j_ = S_.2.2.1 64 0 j_
theorem wfn_rf {n_ : Nat} {S_ : sm_S} : wfn n_ S_ S_ := ⟨fun _ _ _ => ⟨rfl, rfl, rfl⟩, fun _ _ => rfl⟩
theorem wfn_tr {n_ : Nat} {S_ S'_ S2_ : sm_S} (h_ : wfn n_ S_ S'_) (g_ : wfn n_ S'_ S2_) : wfn n_ S_ S2_ := ⟨fun j_ h1_ h2_ => ⟨(g_.1 j_ h1_ h2_).1.trans (h_.1 j_ h1_ h2_).1, (g_.1 j_ h1_ h2_).2.1.trans (h_.1 j_ h1_ h2_).2.1, (g_.1 j_ h1_ h2_).2.2.trans (h_.1 j_ h1_ h2_).2.2⟩, fun j_ hj_ => (g_.2 j_ hj_).trans (h_.2 j_ hj_)⟩
theorem wfn_l {n_ l_ : Nat} {S_ S'_ : sm_S} (h_ : wfl l_ S_ S'_) (e_ : l_ = 2 * n_ ∨ l_ = 2 * n_ + 1) : wfn n_ S_ S'_ := ⟨fun j_ h1_ h2_ => h_.1 j_ (by omega), fun j_ hj_ => h_.2 j_ (by omega)⟩
theorem wfn_fr {w_ : sx_Wl} {n_ : Nat} {S_ S'_ : sm_S} (g_ : ai_fr (sx_W w_) S_ S'_) (a1_ : (sx_W w_).2.1 61 = false := by rfl) (a2_ : (sx_W w_).2.1 62 = false := by rfl) (a3_ : (sx_W w_).2.1 63 = false := by rfl) (a4_ : (sx_W w_).2.1 64 = false := by rfl) : wfn n_ S_ S'_ := ⟨fun j_ _ _ => ⟨(g_.2.2 61 a1_ 0 j_).1, (g_.2.2 62 a2_ 0 j_).1, (g_.2.2 63 a3_ 0 j_).1⟩, fun j_ _ => (g_.2.2 64 a4_ 0 j_).1⟩
/-- a_ literal's way_, whatever it_ is_ -/
def wok (F_ n_ : Int) (ll_ : Nat) (S_ : sm_S) (l_ m_ : Nat) : Prop := wo3 F_ n_ ll_ S_ l_ ∨ (S_.2.2.1 62 0 l_ = -2 ∧ S_.2.2.1 61 0 l_ < 268435456 ∧ S_.1 5 ll_ 2 ≠ -1 ∧ 0 ≤ S_.2.2.1 62 0 m_)
theorem wo3_fr {w_ : sx_Wl} {F_ n_ : Int} {ll_ l_ : Nat} {S_ S'_ : sm_S} (h_ : wo3 F_ n_ ll_ S_ l_) (g_ : ai_fr (sx_W w_) S_ S'_) (a1_ : (sx_W w_).2.1 61 = false := by rfl) (a2_ : (sx_W w_).2.1 62 = false := by rfl) (a3_ : (sx_W w_).2.1 63 = false := by rfl) (a4_ : (sx_W w_).2.1 64 = false := by rfl) (a5_ : (sx_W w_).2.1 55 = false := by rfl) (a6_ : (sx_W w_).2.1 59 = false := by rfl) (a7_ : (sx_W w_).2.1 60 = false := by rfl) (f5_ : (sx_W w_).1 5 2 = false := by rfl) : wo3 F_ n_ ll_ S'_ l_ := by
  unfold wo3
  rw [fr_arr g_ a1_, fr_arr g_ a2_, fr_arr g_ a3_, fr_arr g_ a4_, fr_arr g_ a5_, fr_arr g_ a6_, fr_arr g_ a7_, g_.1 5 ll_ 2 f5_]
  exact h_
/-! Mapper.tryCut -/
end
/-! 99.zn8a -/
section
/-! all ways of a node; written by wip/p55/gen/vg -/

theorem mkd_fr {w_ : sx_Wl} {dd_ F_ : Nat} {S_ S'_ : sm_S} (h_ : mkd dd_ F_ S_ (S_.2.2.1 59 0)) (g_ : ai_fr (sx_W w_) S_ S'_) (h2_ : (sx_W w_).1 3 2 = false := by rfl) (h3_ : (sx_W w_).1 3 3 = false := by rfl) (h4_ : (sx_W w_).1 3 4 = false := by rfl) (a1_ : (sx_W w_).2.1 42 = false := by rfl) (a2_ : (sx_W w_).2.1 43 = false := by rfl) (a3_ : (sx_W w_).2.1 44 = false := by rfl) (a4_ : (sx_W w_).2.1 45 = false := by rfl) (a5_ : (sx_W w_).2.1 46 = false := by rfl) (a6_ : (sx_W w_).2.1 59 = false := by rfl) : mkd dd_ F_ S'_ (S'_.2.2.1 59 0) := by
  unfold mkd srp rtv
  rw [g_.1 3 dd_ 2 h2_, g_.1 3 dd_ 3 h3_, g_.1 3 dd_ 4 h4_, fr_arr g_ a1_, fr_arr g_ a2_, fr_arr g_ a3_, fr_arr g_ a4_, fr_arr g_ a5_, fr_arr g_ a6_]
  exact h_
/-- a_ literal of_ node n_ gets the_ inverted way_ of_ the_ other -/
theorem wok_iv {F_ n_ : Int} {ll_ l_ m_ : Nat} {S_ : sm_S} {z_ : Int} (h_ : wo3 F_ n_ ll_ S_ l_) (g_ : wo3 F_ n_ ll_ S_ m_) (ne_ : m_ ≠ l_) (hl_ : 2 * n_ ≤ (l_ : Int)) (iv_ : S_.1 5 ll_ 2 ≠ -1) (hz_ : z_ < S_.2.2.1 61 0 l_) (hm_ : S_.2.2.1 61 0 m_ ≤ z_) (c61_ : S_.2.2.1 61 0 l_ ≤ 268435456) (c55_ : ∀ k_, S_.2.2.1 55 (0 + ll_) k_ ≤ 3) :
    wok F_ n_ ll_ (sm_aI (sm_aI S_ 61 0 l_ z_) 62 0 l_ (-2)) l_ m_ ∧ wok F_ n_ ll_ (sm_aI (sm_aI S_ 61 0 l_ z_) 62 0 l_ (-2)) m_ l_ ∧ wfl l_ S_ (sm_aI (sm_aI S_ 61 0 l_ z_) 62 0 l_ (-2)) := by
  have r61_ : ∀ j_, (sm_aI (sm_aI S_ 61 0 l_ z_) 62 0 l_ (-2)).2.2.1 61 0 j_ = if j_ = l_ then z_ else S_.2.2.1 61 0 j_ := fun j_ => by rw [rd_ne (by decide), rd_eq]
  have r62_ : ∀ j_, (sm_aI (sm_aI S_ 61 0 l_ z_) 62 0 l_ (-2)).2.2.1 62 0 j_ = if j_ = l_ then -2 else S_.2.2.1 62 0 j_ := fun j_ => by rw [rd_eq, rd_ne (by decide)]
  have w_ : wfl l_ S_ (sm_aI (sm_aI S_ 61 0 l_ z_) 62 0 l_ (-2)) := by
    refine ⟨fun j_ hj_ => ?_, fun j_ hj_ => ?_⟩
    · rw [r61_, r62_, if_neg hj_, if_neg hj_, rd_ne (by decide), rd_ne (by decide)]; exact ⟨rfl, rfl, rfl⟩
    · rw [rd_ne (by decide), rd_ne (by decide)]
  refine ⟨Or.inr ⟨by rw [r62_, if_pos rfl], by rw [r61_, if_pos rfl]; omega, iv_, ?_⟩, Or.inl (wo3_cg g_ w_ ne_ hl_ rfl (by rw [rd_ne_ (by decide), rd_ne_ (by decide)]) (by rw [rd_ne_ (by decide), rd_ne_ (by decide)]) (by rw [rd_ne_ (by decide), rd_ne_ (by decide)]) c55_), w_⟩
  rw [r62_, if_neg ne_]
  rcases g_ with g_ | g_
  · omega
  · exact g_.1
/-! Mapper.findWays -/
end
/-! 99.zn9a -/
section
/-! tasks; written by wip/p55/gen/vg -/

/-! nets to_ be_ made: tasks -/
/-- literal 2 x_ + t_ can_ be_ made -/
def lwy (f_ : Int) (c_ : Nat → Int) (x_ t_ : Int) : Prop := (x_ < f_ ∧ t_ = 0) ∨ (f_ ≤ x_ ∧ c_ (2 * x_ + t_).toNat ≠ -1)
/-- a_ task that can_ be_ done -/
def gtk (f_ N_ iv_ : Int) (u_ c_ : Nat → Int) (t_ : Int) : Prop := 3 ≤ t_ ∧ t_ < 3 * N_ ∧ u_ (t_ / 3).toNat = 1 ∧ ((t_ % 3 = 2 ∧ iv_ ≠ -1 ∧ lwy f_ c_ (t_ / 3) 0) ∨ (t_ % 3 ≤ 1 ∧ lwy f_ c_ (t_ / 3) (t_ % 3)))
/-- tasks below have lower ranks -/
def grk (c_ : Nat → Int) (t_ : Int) : Int := 3 * (t_ / 3) + if t_ % 3 = 2 then 2 else if c_ (2 * (t_ / 3) + t_ % 3).toNat = -2 then 1 else 0
def pno (c_ inp_ : Nat → Int) (t_ : Int) : Int := if t_ % 3 = 2 then 1 else if c_ (2 * (t_ / 3) + t_ % 3).toNat < 0 then 1 else inp_ (c_ (2 * (t_ / 3) + t_ % 3).toNat).toNat
def ptn (nd_ : Nat → Int) (t_ k_ : Int) : Int := nd_ (6 * (t_ / 3) + 3 * (t_ % 3) + k_).toNat
def ptv (f_ : Int) (r_ c_ tu_ nd_ : Nat → Int) (t_ k_ : Int) : Int := if t_ % 3 = 2 then 3 * (t_ / 3) else if c_ (2 * (t_ / 3) + t_ % 3).toNat < 0 then 3 * (t_ / 3) + 1 - t_ % 3 else 3 * ptn nd_ t_ k_ + (if ptn nd_ t_ k_ < f_ ∨ r_ (ptn nd_ t_ k_).toNat ≠ 0 then 2 * (i_shr (tu_ (2 * (t_ / 3) + t_ % 3).toNat) k_ % 2) else i_shr (tu_ (2 * (t_ / 3) + t_ % 3).toNat) k_ % 2)
/-- all_ ways are_ found -/
def wal (f_ N_ : Int) (ll_ : Nat) (S_ : sm_S) : Prop := ∀ n_ : Nat, f_ ≤ (n_ : Int) → (n_ : Int) < N_ → S_.2.2.1 59 0 n_ = 1 → wok f_ n_ ll_ S_ (2 * n_) (2 * n_ + 1) ∧ wok f_ n_ ll_ S_ (2 * n_ + 1) (2 * n_) ∧ imq (S_.2.2.1 60 0 n_ ≠ 0) (S_.2.2.1 61 0 (2 * n_) < 268435456)
theorem grk_b (c_ : Nat → Int) (t_ : Int) : 3 * (t_ / 3) ≤ grk c_ t_ ∧ grk c_ t_ ≤ 3 * (t_ / 3) + 2 := by
  unfold grk
  split
  · omega
  · split <;> omega
theorem wok_c {f_ n_ : Int} {ll_ l_ m_ : Nat} {S_ : sm_S} (h_ : wok f_ n_ ll_ S_ l_ m_) (g_ : S_.2.2.1 61 0 l_ < 268435456) : S_.2.2.1 62 0 l_ ≠ -1 := by
  rcases h_ with (h_ | h_) | h_
  · omega
  · omega
  · omega
theorem wal_c {f_ N_ : Int} {ll_ : Nat} {S_ : sm_S} (h_ : wal f_ N_ ll_ S_) {x_ t_ : Int} (hf_ : 1 ≤ f_) (h1_ : f_ ≤ x_) (h2_ : x_ < N_) (hu_ : S_.2.2.1 59 0 x_.toNat = 1) (ht_ : 0 ≤ t_ ∧ t_ ≤ 1) (hn_ : S_.2.2.1 61 0 (2 * x_ + t_).toNat < 268435456) : S_.2.2.1 62 0 (2 * x_ + t_).toNat ≠ -1 := by
  have w_ := h_ x_.toNat (by omega) (by omega) hu_
  have c_ : t_ = 0 ∨ t_ = 1 := by omega
  rcases c_ with c_ | c_
  · rw [show (2 * x_ + t_).toNat = 2 * x_.toNat by omega] at hn_ ⊢
    exact wok_c w_.1 hn_
  · rw [show (2 * x_ + t_).toNat = 2 * x_.toNat + 1 by omega] at hn_ ⊢
    exact wok_c w_.2.1 hn_
theorem wal_w {f_ N_ : Int} {ll_ : Nat} {S_ : sm_S} (h_ : wal f_ N_ ll_ S_) {x_ t_ : Int} (hf_ : 1 ≤ f_) (h1_ : f_ ≤ x_) (h2_ : x_ < N_) (hu_ : S_.2.2.1 59 0 x_.toNat = 1) (ht_ : 0 ≤ t_ ∧ t_ ≤ 1) : wok f_ x_ ll_ S_ (2 * x_ + t_).toNat (2 * x_ + 1 - t_).toNat := by
  have w_ := h_ x_.toNat (by omega) (by omega) hu_
  rw [show ((x_.toNat : Nat) : Int) = x_ by omega] at w_
  have c_ : t_ = 0 ∨ t_ = 1 := by omega
  rcases c_ with c_ | c_
  · rw [show (2 * x_ + t_).toNat = 2 * x_.toNat by omega, show (2 * x_ + 1 - t_).toNat = 2 * x_.toNat + 1 by omega]; exact w_.1
  · rw [show (2 * x_ + t_).toNat = 2 * x_.toNat + 1 by omega, show (2 * x_ + 1 - t_).toNat = 2 * x_.toNat by omega]; exact w_.2.1
/-- a_ part of_ a_ task can_ be_ done -/
theorem gtk_p {f_ N_ : Int} {ll_ : Nat} {S_ : sm_S} {t_ k_ : Int} (h_ : wal f_ N_ ll_ S_) (hf_ : 1 ≤ f_) (g_ : gtk f_ N_ (S_.1 5 ll_ 2) (S_.2.2.1 59 0) (S_.2.2.1 62 0) t_) (hi_ : ¬ (t_ / 3 < f_ ∧ t_ % 3 = 0)) (hk_ : 0 ≤ k_ ∧ k_ < pno (S_.2.2.1 62 0) (S_.2.2.1 55 (0 + ll_)) t_) :
    gtk f_ N_ (S_.1 5 ll_ 2) (S_.2.2.1 59 0) (S_.2.2.1 62 0) (ptv f_ (S_.2.2.1 60 0) (S_.2.2.1 62 0) (S_.2.2.1 63 0) (S_.2.2.1 64 0) t_ k_) ∧ grk (S_.2.2.1 62 0) (ptv f_ (S_.2.2.1 60 0) (S_.2.2.1 62 0) (S_.2.2.1 63 0) (S_.2.2.1 64 0) t_ k_) < grk (S_.2.2.1 62 0) t_ := by
  obtain ⟨g1_, g2_, g3_, g4_⟩ := g_
  rcases g4_ with ⟨g4_, g5_, g6_⟩ | ⟨g4_, g6_⟩
  · have e_ : ptv f_ (S_.2.2.1 60 0) (S_.2.2.1 62 0) (S_.2.2.1 63 0) (S_.2.2.1 64 0) t_ k_ = 3 * (t_ / 3) := by unfold ptv; rw [if_pos g4_]
    rw [e_]
    refine ⟨⟨by omega, by omega, by rw [show 3 * (t_ / 3) / 3 = t_ / 3 by omega]; exact g3_, Or.inr ⟨by omega, by rw [show 3 * (t_ / 3) / 3 = t_ / 3 by omega, show 3 * (t_ / 3) % 3 = 0 by omega]; exact g6_⟩⟩, ?_⟩
    have r1_ : grk (S_.2.2.1 62 0) t_ = 3 * (t_ / 3) + 2 := by unfold grk; rw [if_pos g4_]
    rw [r1_]
    unfold grk
    rw [if_neg (by omega)]
    split <;> omega
  · have g7_ : f_ ≤ t_ / 3 ∧ S_.2.2.1 62 0 (2 * (t_ / 3) + t_ % 3).toNat ≠ -1 := by
      rcases g6_ with g6_ | g6_
      · exact absurd g6_ hi_
      · exact g6_
    have g8_ := wal_w h_ hf_ g7_.1 (by omega) g3_ (t_ := t_ % 3) (by omega)
    have n2_ : ¬ t_ % 3 = 2 := by omega
    rcases g8_ with (g8_ | g8_) | g8_
    · exact absurd g8_.1 g7_.2
    · have nc : ¬ S_.2.2.1 62 0 (2 * (t_ / 3) + t_ % 3).toNat < 0 := by have := g8_.1; omega
      unfold pno at hk_
      rw [if_neg n2_, if_neg nc] at hk_
      have p_ := g8_.2.2 k_.toNat (by omega)
      rw [show 3 * (2 * (t_ / 3) + t_ % 3).toNat + k_.toNat = (6 * (t_ / 3) + 3 * (t_ % 3) + k_).toNat by omega, show ((k_.toNat : Nat) : Int) = k_ by omega] at p_
      have e_ : ptv f_ (S_.2.2.1 60 0) (S_.2.2.1 62 0) (S_.2.2.1 63 0) (S_.2.2.1 64 0) t_ k_ = 3 * ptn (S_.2.2.1 64 0) t_ k_ + (if ptn (S_.2.2.1 64 0) t_ k_ < f_ ∨ S_.2.2.1 60 0 (ptn (S_.2.2.1 64 0) t_ k_).toNat ≠ 0 then 2 * (i_shr (S_.2.2.1 63 0 (2 * (t_ / 3) + t_ % 3).toNat) k_ % 2) else i_shr (S_.2.2.1 63 0 (2 * (t_ / 3) + t_ % 3).toNat) k_ % 2) := by unfold ptv; rw [if_neg n2_, if_neg nc]
      rw [e_]
      obtain ⟨x_, hx_⟩ : ∃ x_, x_ = ptn (S_.2.2.1 64 0) t_ k_ := ⟨_, rfl⟩
      obtain ⟨b_, hb_⟩ : ∃ b_, b_ = i_shr (S_.2.2.1 63 0 (2 * (t_ / 3) + t_ % 3).toNat) k_ % 2 := ⟨_, rfl⟩
      unfold ptn at hx_
      rw [← hx_, ← hb_] at p_
      unfold ptn
      rw [← hx_, ← hb_]
      have b1_ : b_ = 0 ∨ b_ = 1 := by omega
      obtain ⟨⟨p1_, p2_, p3_⟩, p4_, p5_⟩ := p_
      have rk_ : grk (S_.2.2.1 62 0) t_ ≥ 3 * (t_ / 3) := (grk_b _ _).1
      by_cases lf_ : x_ < f_ ∨ S_.2.2.1 60 0 x_.toNat ≠ 0
      · rw [if_pos lf_]
        have d1_ : (3 * x_ + 2 * b_) / 3 = x_ := by omega
        have lw_ : lwy f_ (S_.2.2.1 62 0) x_ 0 := by
          by_cases xf_ : x_ < f_
          · exact Or.inl ⟨xf_, rfl⟩
          · right
            have rt_ : S_.2.2.1 60 0 x_.toNat ≠ 0 := lf_.resolve_left xf_
            have w_ := (h_ x_.toNat (by omega) (by omega) p3_).2.2 rt_
            refine ⟨by omega, wal_c h_ hf_ (by omega) (by omega) p3_ (by omega) ?_⟩
            rw [show (2 * x_ + 0).toNat = 2 * x_.toNat by omega]; exact w_
        refine ⟨⟨by omega, by omega, by rw [d1_]; exact p3_, ?_⟩, ?_⟩
        · rw [d1_]
          rcases b1_ with b1_ | b1_
          · right
            rw [show (3 * x_ + 2 * b_) % 3 = 0 by omega]
            exact ⟨by decide, lw_⟩
          · left
            exact ⟨by omega, p4_ ⟨lf_, by omega⟩, lw_⟩
        · have q_ := (grk_b (S_.2.2.1 62 0) (3 * x_ + 2 * b_)).2
          rw [d1_] at q_
          omega
      · rw [if_neg lf_]
        have d1_ : (3 * x_ + b_) / 3 = x_ := by omega
        have d2_ : (3 * x_ + b_) % 3 = b_ := by omega
        have xf_ : f_ ≤ x_ ∧ S_.2.2.1 60 0 x_.toNat = 0 := by omega
        have w_ := p5_ xf_
        refine ⟨⟨by omega, by omega, by rw [d1_]; exact p3_, Or.inr ?_⟩, ?_⟩
        · rw [d1_, d2_]
          exact ⟨by omega, Or.inr ⟨xf_.1, wal_c h_ hf_ xf_.1 (by omega) p3_ (by omega) w_⟩⟩
        · have q_ := (grk_b (S_.2.2.1 62 0) (3 * x_ + b_)).2
          rw [d1_] at q_
          omega
    · have nc : S_.2.2.1 62 0 (2 * (t_ / 3) + t_ % 3).toNat < 0 := by have := g8_.1; omega
      have e_ : ptv f_ (S_.2.2.1 60 0) (S_.2.2.1 62 0) (S_.2.2.1 63 0) (S_.2.2.1 64 0) t_ k_ = 3 * (t_ / 3) + 1 - t_ % 3 := by unfold ptv; rw [if_neg n2_, if_pos nc]
      rw [e_]
      have d1_ : (3 * (t_ / 3) + 1 - t_ % 3) / 3 = t_ / 3 := by omega
      have d2_ : (3 * (t_ / 3) + 1 - t_ % 3) % 3 = 1 - t_ % 3 := by omega
      have w_ := g8_.2.2.2
      have iw_ : 2 * (t_ / 3) + (1 - t_ % 3) = 2 * (t_ / 3) + 1 - t_ % 3 := by omega
      refine ⟨⟨by omega, by omega, by rw [d1_]; exact g3_, Or.inr ⟨by omega, by rw [d1_, d2_]; exact Or.inr ⟨g7_.1, by rw [iw_]; omega⟩⟩⟩, ?_⟩
      have r1_ : grk (S_.2.2.1 62 0) t_ = 3 * (t_ / 3) + 1 := by unfold grk; rw [if_neg n2_, if_pos g8_.1]
      rw [r1_]
      unfold grk
      rw [d1_, d2_, iw_, if_neg (by omega), if_neg (by omega)]
      omega
theorem wok_fr {w_ : sx_Wl} {F_ n_ : Int} {ll_ l_ m_ : Nat} {S_ S'_ : sm_S} (h_ : wok F_ n_ ll_ S_ l_ m_) (g_ : ai_fr (sx_W w_) S_ S'_) (a1_ : (sx_W w_).2.1 61 = false := by rfl) (a2_ : (sx_W w_).2.1 62 = false := by rfl) (a3_ : (sx_W w_).2.1 63 = false := by rfl) (a4_ : (sx_W w_).2.1 64 = false := by rfl) (a5_ : (sx_W w_).2.1 55 = false := by rfl) (a6_ : (sx_W w_).2.1 59 = false := by rfl) (a7_ : (sx_W w_).2.1 60 = false := by rfl) (f5_ : (sx_W w_).1 5 2 = false := by rfl) : wok F_ n_ ll_ S'_ l_ m_ := by
  rcases h_ with h_ | h_
  · exact Or.inl (wo3_fr h_ g_ a1_ a2_ a3_ a4_ a5_ a6_ a7_ f5_)
  · right
    rw [fr_arr g_ a1_, fr_arr g_ a2_, g_.1 5 ll_ 2 f5_]
    exact h_
theorem wal_fr {w_ : sx_Wl} {f_ N_ : Int} {ll_ : Nat} {S_ S'_ : sm_S} (h_ : wal f_ N_ ll_ S_) (g_ : ai_fr (sx_W w_) S_ S'_) (a1_ : (sx_W w_).2.1 61 = false := by rfl) (a2_ : (sx_W w_).2.1 62 = false := by rfl) (a3_ : (sx_W w_).2.1 63 = false := by rfl) (a4_ : (sx_W w_).2.1 64 = false := by rfl) (a5_ : (sx_W w_).2.1 55 = false := by rfl) (a6_ : (sx_W w_).2.1 59 = false := by rfl) (a7_ : (sx_W w_).2.1 60 = false := by rfl) (f5_ : (sx_W w_).1 5 2 = false := by rfl) : wal f_ N_ ll_ S'_ := fun n_ h1_ h2_ h3_ => by
  rw [fr_arr g_ a6_] at h3_
  have q_ := h_ n_ h1_ h2_ h3_
  rw [fr_arr g_ a7_, fr_arr g_ a1_]
  exact ⟨wok_fr q_.1 g_ a1_ a2_ a3_ a4_ a5_ a6_ a7_ f5_, wok_fr q_.2.1 g_ a1_ a2_ a3_ a4_ a5_ a6_ a7_ f5_, q_.2.2⟩
/-! Mapper.partsOf -/
def vw_111 : sx_Wl := ([], [], [])
def vq_111 (a1_ : Int) (ll_ : Nat) (S0_ : sm_S) (u_ : Option sm_V) (S1_ : sm_S) : Prop := S0_ = S1_ ∧ ∃ v_ : Int, u_ = some (.inl v_) ∧ (v_ = pno (S0_.2.2.1 62 0) (S0_.2.2.1 55 (0 + ll_)) a1_ ∧ 0 ≤ v_ ∧ v_ ≤ 3)
set_option maxHeartbeats 400000 in
theorem vc_111 {sc_ : Nat × (Nat → Int)} (a1_ : Int) (ll_ : Nat) (S0_ : sm_S) (hI_ : gi S0_) (hc_ : S0_.2.1 6 0 1 = some ll_) (h1_ : 0 ≤ a1_ ∧ a1_ ≤ 3038) : sm_T (mt_P sc_) 0 111 (0, [some (.inr (.inr (some (6, 0)))), some (.inl a1_), none], [], S0_) (fun ro9_ => ∃ u_ S1_, ro9_ = (.inl u_, S1_, 0) ∧ vq_111 a1_ ll_ S0_ u_ S1_) := by
  have hF_ : ai_fr (sx_W vw_111) S0_ S0_ := ai_fr_rf
  refine sm_T_go 2 (c1 := (2, [some (.inr (.inr (some (6, 0)))), some (.inl a1_), none], [.inl 3, .inl a1_], S0_)) rfl ?_
  refine sm_T_bin (w := (a1_ % 3)) rfl (bi_rem (by omega) (by omega) (by omega) (by omega)) ?_ -- pc_ 2
  refine sm_T_go 1 (c1 := (4, [some (.inr (.inr (some (6, 0)))), some (.inl a1_), none], [.inl 2, .inl (a1_ % 3)], S0_)) rfl ?_
  refine sm_T_br (a := 1) (z := 8) rfl (fun cx1_ => ?_) (fun cx1_ => ?_)
  · have cx1_ : (a1_ % 3) ≠ 2 := of_decide_eq_true cx1_
    refine sm_T_go 5 (c1 := (19, [some (.inr (.inr (some (6, 0)))), some (.inl a1_), none], [.inl 3, .inl a1_, .inl 2, .inr (.inr (some (62, 0)))], S0_)) rfl ?_
    refine sm_T_bin (w := (a1_ / 3)) rfl (bi_div (by omega) (by omega) (by omega) (by omega)) ?_ -- pc_ 19
    refine sm_T_bin (w := 2 * (a1_ / 3)) rfl (bi_mul (by omega) (by omega) (by omega)) ?_ -- pc_ 20
    refine sm_T_go 2 (c1 := (23, [some (.inr (.inr (some (6, 0)))), some (.inl a1_), none], [.inl 3, .inl a1_, .inl (2 * (a1_ / 3)), .inr (.inr (some (62, 0)))], S0_)) rfl ?_
    refine sm_T_bin (w := (a1_ % 3)) rfl (bi_rem (by omega) (by omega) (by omega) (by omega)) ?_ -- pc_ 23
    refine sm_T_bin (w := 2 * (a1_ / 3) + (a1_ % 3)) rfl (bi_add (by omega) (by omega) (by omega)) ?_ -- pc_ 24
    refine sm_T_iald (n := 2026) rfl rfl (by omega) (by omega) ?_
    have bx2_ : (-2) ≤ S0_.2.2.1 62 0 (2 * (a1_ / 3) + (a1_ % 3)).toNat ∧ S0_.2.2.1 62 0 (2 * (a1_ / 3) + (a1_ % 3)).toNat ≤ 11 := hI_.2 62 0 _
    refine sm_T_go 2 (c1 := (28, [some (.inr (.inr (some (6, 0)))), some (.inl a1_), some (.inl (S0_.2.2.1 62 0 (2 * (a1_ / 3) + (a1_ % 3)).toNat))], [.inl (S0_.2.2.1 62 0 (2 * (a1_ / 3) + (a1_ % 3)).toNat)], S0_)) rfl ?_
    refine sm_T_b0 (a := 3) (z := 7) rfl (fun cx3_ => ?_) (fun cx3_ => ?_)
    · have cx3_ : 0 ≤ (S0_.2.2.1 62 0 (2 * (a1_ / 3) + (a1_ % 3)).toNat) := of_decide_eq_true cx3_
      refine sm_T_go 1 (c1 := (36, [some (.inr (.inr (some (6, 0)))), some (.inl a1_), some (.inl (S0_.2.2.1 62 0 (2 * (a1_ / 3) + (a1_ % 3)).toNat))], [.inr (.inr (some (6, 0)))], S0_)) rfl ?_
      refine sm_T_gr rfl rfl ((hF_.2.1 6 0 1 rfl).trans hc_) ?_
      refine sm_T_go 2 (c1 := (43, [some (.inr (.inr (some (6, 0)))), some (.inl a1_), some (.inl (S0_.2.2.1 62 0 (2 * (a1_ / 3) + (a1_ % 3)).toNat))], [.inl (S0_.2.2.1 62 0 (2 * (a1_ / 3) + (a1_ % 3)).toNat), .inr (.inr (some (55, (0 + ll_))))], S0_)) rfl ?_
      refine sm_T_iald (n := 12) rfl rfl (by omega) (by omega) ?_
      have bx4_ : 0 ≤ S0_.2.2.1 55 (0 + ll_) (S0_.2.2.1 62 0 (2 * (a1_ / 3) + (a1_ % 3)).toNat).toNat ∧ S0_.2.2.1 55 (0 + ll_) (S0_.2.2.1 62 0 (2 * (a1_ / 3) + (a1_ % 3)).toNat).toNat ≤ 3 := hI_.2 55 (0 + ll_) _
      refine sm_T_ri rfl ⟨_, _, rfl, rfl, _, rfl, ?_⟩
      refine ⟨?_, by omega⟩
      unfold pno
      first | (rw [if_pos (by omega)]) | (rw [if_neg (by omega), if_pos (by omega)]) | (rw [if_neg (by omega), if_neg (by omega)])
    · have cx3_ : ¬ (0 ≤ (S0_.2.2.1 62 0 (2 * (a1_ / 3) + (a1_ % 3)).toNat)) := of_decide_eq_false cx3_
      refine sm_T_go 2 (c1 := (44, [some (.inr (.inr (some (6, 0)))), some (.inl a1_), some (.inl (S0_.2.2.1 62 0 (2 * (a1_ / 3) + (a1_ % 3)).toNat))], [.inl 1], S0_)) rfl ?_
      refine sm_T_ri rfl ⟨_, _, rfl, rfl, _, rfl, ?_⟩
      refine ⟨?_, by omega⟩
      unfold pno
      first | (rw [if_pos (by omega)]) | (rw [if_neg (by omega), if_pos (by omega)]) | (rw [if_neg (by omega), if_neg (by omega)])
  · have cx1_ : ¬ ((a1_ % 3) ≠ 2) := of_decide_eq_false cx1_
    refine sm_T_go 7 (c1 := (44, [some (.inr (.inr (some (6, 0)))), some (.inl a1_), some (.inl (-2))], [.inl 1], S0_)) rfl ?_
    refine sm_T_ri rfl ⟨_, _, rfl, rfl, _, rfl, ?_⟩
    refine ⟨?_, by omega⟩
    unfold pno
    first | (rw [if_pos (by omega)]) | (rw [if_neg (by omega), if_pos (by omega)]) | (rw [if_neg (by omega), if_neg (by omega)])
end
/-! 99.zn9b -/
section
/-! Mapper.partAt -/
def vw_112 : sx_Wl := ([], [], [])
def vq_112 (a1_ : Int) (k_ : Int) (dd_ : Nat) (S0_ : sm_S) (u_ : Option sm_V) (S1_ : sm_S) : Prop := S0_ = S1_ ∧ ∃ v_ : Int, u_ = some (.inl v_) ∧ (v_ = ptv (1 + S0_.1 3 dd_ 1 + S0_.1 3 dd_ 2) (S0_.2.2.1 60 0) (S0_.2.2.1 62 0) (S0_.2.2.1 63 0) (S0_.2.2.1 64 0) a1_ k_)
set_option maxHeartbeats 400000 in
theorem vc_112 {sc_ : Nat × (Nat → Int)} (a1_ : Int) (k_ : Int) (dd_ : Nat) (S0_ : sm_S) (hI_ : gi S0_) (hd_ : S0_.2.1 6 0 0 = some dd_) (h1_ : 0 ≤ a1_ ∧ a1_ ≤ 3038) (h2_ : 0 ≤ k_ ∧ k_ ≤ 2) : sm_T (mt_P sc_) 2 112 (0, [some (.inr (.inr (some (6, 0)))), some (.inl a1_), some (.inl k_), none, none, none, none, none], [], S0_) (fun ro9_ => ∃ u_ S1_, ro9_ = (.inl u_, S1_, 0) ∧ vq_112 a1_ k_ dd_ S0_ u_ S1_) := by
  have hF_ : ai_fr (sx_W vw_112) S0_ S0_ := ai_fr_rf
  refine sm_T_go 2 (c1 := (2, [some (.inr (.inr (some (6, 0)))), some (.inl a1_), some (.inl k_), none, none, none, none, none], [.inl 3, .inl a1_], S0_)) rfl ?_
  refine sm_T_bin (w := (a1_ / 3)) rfl (bi_div (by omega) (by omega) (by omega) (by omega)) ?_ -- pc_ 2
  refine sm_T_go 3 (c1 := (6, [some (.inr (.inr (some (6, 0)))), some (.inl a1_), some (.inl k_), some (.inl (a1_ / 3)), none, none, none, none], [.inl 3, .inl a1_], S0_)) rfl ?_
  refine sm_T_bin (w := (a1_ % 3)) rfl (bi_rem (by omega) (by omega) (by omega) (by omega)) ?_ -- pc_ 6
  refine sm_T_go 3 (c1 := (12, [some (.inr (.inr (some (6, 0)))), some (.inl a1_), some (.inl k_), some (.inl (a1_ / 3)), some (.inl (a1_ % 3)), none, none, none], [.inl 2, .inl (a1_ % 3)], S0_)) rfl ?_
  refine sm_T_br (a := 1) (z := 7) rfl (fun cx1_ => ?_) (fun cx1_ => ?_)
  · have cx1_ : (a1_ % 3) ≠ 2 := of_decide_eq_true cx1_
    refine sm_T_go 2 (c1 := (21, [some (.inr (.inr (some (6, 0)))), some (.inl a1_), some (.inl k_), some (.inl (a1_ / 3)), some (.inl (a1_ % 3)), none, none, none], [.inl (a1_ / 3), .inl 2], S0_)) rfl ?_
    refine sm_T_bin (w := 2 * (a1_ / 3)) rfl (bi_mul (by omega) (by omega) (by omega)) ?_ -- pc_ 21
    refine sm_T_go 1 (c1 := (24, [some (.inr (.inr (some (6, 0)))), some (.inl a1_), some (.inl k_), some (.inl (a1_ / 3)), some (.inl (a1_ % 3)), none, none, none], [.inl (a1_ % 3), .inl (2 * (a1_ / 3))], S0_)) rfl ?_
    refine sm_T_bin (w := 2 * (a1_ / 3) + (a1_ % 3)) rfl (bi_add (by omega) (by omega) (by omega)) ?_ -- pc_ 24
    refine sm_T_go 4 (c1 := (33, [some (.inr (.inr (some (6, 0)))), some (.inl a1_), some (.inl k_), some (.inl (a1_ / 3)), some (.inl (a1_ % 3)), some (.inl (2 * (a1_ / 3) + (a1_ % 3))), none, none], [.inl (2 * (a1_ / 3) + (a1_ % 3)), .inr (.inr (some (62, 0)))], S0_)) rfl ?_
    refine sm_T_iald (n := 2026) rfl rfl (by omega) (by omega) ?_
    have bx2_ : (-2) ≤ S0_.2.2.1 62 0 (2 * (a1_ / 3) + (a1_ % 3)).toNat ∧ S0_.2.2.1 62 0 (2 * (a1_ / 3) + (a1_ % 3)).toNat ≤ 11 := hI_.2 62 0 _
    refine sm_T_b0 (a := 3) (z := 12) rfl (fun cx3_ => ?_) (fun cx3_ => ?_)
    · have cx3_ : 0 ≤ (S0_.2.2.1 62 0 (2 * (a1_ / 3) + (a1_ % 3)).toNat) := of_decide_eq_true cx3_
      refine sm_T_go 4 (c1 := (53, [some (.inr (.inr (some (6, 0)))), some (.inl a1_), some (.inl k_), some (.inl (a1_ / 3)), some (.inl (a1_ % 3)), some (.inl (2 * (a1_ / 3) + (a1_ % 3))), none, none], [.inl (2 * (a1_ / 3) + (a1_ % 3)), .inl 3, .inr (.inr (some (64, 0)))], S0_)) rfl ?_
      refine sm_T_bin (w := 6 * (a1_ / 3) + 3 * (a1_ % 3)) rfl (bi_mul (by omega) (by omega) (by omega)) ?_ -- pc_ 53
      refine sm_T_go 1 (c1 := (55, [some (.inr (.inr (some (6, 0)))), some (.inl a1_), some (.inl k_), some (.inl (a1_ / 3)), some (.inl (a1_ % 3)), some (.inl (2 * (a1_ / 3) + (a1_ % 3))), none, none], [.inl k_, .inl (6 * (a1_ / 3) + 3 * (a1_ % 3)), .inr (.inr (some (64, 0)))], S0_)) rfl ?_
      refine sm_T_bin (w := 6 * (a1_ / 3) + 3 * (a1_ % 3) + k_) rfl (bi_add (by omega) (by omega) (by omega)) ?_ -- pc_ 55
      refine sm_T_iald (n := 6078) rfl rfl (by omega) (by omega) ?_
      have bx4_ : 0 ≤ S0_.2.2.1 64 0 (6 * (a1_ / 3) + 3 * (a1_ % 3) + k_).toNat ∧ S0_.2.2.1 64 0 (6 * (a1_ / 3) + 3 * (a1_ % 3) + k_).toNat ≤ 1012 := hI_.2 64 0 _
      refine sm_T_go 4 (c1 := (65, [some (.inr (.inr (some (6, 0)))), some (.inl a1_), some (.inl k_), some (.inl (a1_ / 3)), some (.inl (a1_ % 3)), some (.inl (2 * (a1_ / 3) + (a1_ % 3))), some (.inl (S0_.2.2.1 64 0 (6 * (a1_ / 3) + 3 * (a1_ % 3) + k_).toNat)), none], [.inl (2 * (a1_ / 3) + (a1_ % 3)), .inr (.inr (some (63, 0)))], S0_)) rfl ?_
      refine sm_T_iald (n := 2026) rfl rfl (by omega) (by omega) ?_
      have bx5_ : 0 ≤ S0_.2.2.1 63 0 (2 * (a1_ / 3) + (a1_ % 3)).toNat ∧ S0_.2.2.1 63 0 (2 * (a1_ / 3) + (a1_ % 3)).toNat ≤ 15 := hI_.2 63 0 _
      refine sm_T_go 1 (c1 := (67, [some (.inr (.inr (some (6, 0)))), some (.inl a1_), some (.inl k_), some (.inl (a1_ / 3)), some (.inl (a1_ % 3)), some (.inl (2 * (a1_ / 3) + (a1_ % 3))), some (.inl (S0_.2.2.1 64 0 (6 * (a1_ / 3) + 3 * (a1_ % 3) + k_).toNat)), none], [.inl k_, .inl (S0_.2.2.1 63 0 (2 * (a1_ / 3) + (a1_ % 3)).toNat)], S0_)) rfl ?_
      refine sm_T_bin (w := (i_shr (S0_.2.2.1 63 0 (2 * (a1_ / 3) + (a1_ % 3)).toNat) k_)) rfl rfl ?_ -- pc_ 67
      have bx6_ := i_shr_p (x_ := (S0_.2.2.1 63 0 (2 * (a1_ / 3) + (a1_ % 3)).toNat)) (e_ := k_) (by omega) (by omega) (by omega)
      refine sm_T_go 1 (c1 := (69, [some (.inr (.inr (some (6, 0)))), some (.inl a1_), some (.inl k_), some (.inl (a1_ / 3)), some (.inl (a1_ % 3)), some (.inl (2 * (a1_ / 3) + (a1_ % 3))), some (.inl (S0_.2.2.1 64 0 (6 * (a1_ / 3) + 3 * (a1_ % 3) + k_).toNat)), none], [.inl 1, .inl (i_shr (S0_.2.2.1 63 0 (2 * (a1_ / 3) + (a1_ % 3)).toNat) k_)], S0_)) rfl ?_
      refine sm_T_bin (w := ((i_shr (S0_.2.2.1 63 0 (2 * (a1_ / 3) + (a1_ % 3)).toNat) k_) % 2)) rfl (bi_msk (k := 1) (by decide)) ?_ -- pc_ 69
      refine sm_T_go 3 (c1 := (75, [some (.inr (.inr (some (6, 0)))), some (.inl a1_), some (.inl k_), some (.inl (a1_ / 3)), some (.inl (a1_ % 3)), some (.inl (2 * (a1_ / 3) + (a1_ % 3))), some (.inl (S0_.2.2.1 64 0 (6 * (a1_ / 3) + 3 * (a1_ % 3) + k_).toNat)), some (.inl ((i_shr (S0_.2.2.1 63 0 (2 * (a1_ / 3) + (a1_ % 3)).toNat) k_) % 2))], [.inl (S0_.2.2.1 64 0 (6 * (a1_ / 3) + 3 * (a1_ % 3) + k_).toNat), .inl 3], S0_)) rfl ?_
      refine sm_T_bin (w := 3 * (S0_.2.2.1 64 0 (6 * (a1_ / 3) + 3 * (a1_ % 3) + k_).toNat)) rfl (bi_mul (by omega) (by omega) (by omega)) ?_ -- pc_ 75
      refine sm_T_go 2 (c1 := (79, [some (.inr (.inr (some (6, 0)))), some (.inl a1_), some (.inl k_), some (.inl (a1_ / 3)), some (.inl (a1_ % 3)), some (.inl (2 * (a1_ / 3) + (a1_ % 3))), some (.inl (S0_.2.2.1 64 0 (6 * (a1_ / 3) + 3 * (a1_ % 3) + k_).toNat)), some (.inl ((i_shr (S0_.2.2.1 63 0 (2 * (a1_ / 3) + (a1_ % 3)).toNat) k_) % 2))], [.inl (S0_.2.2.1 64 0 (6 * (a1_ / 3) + 3 * (a1_ % 3) + k_).toNat), .inr (.inr (some (6, 0))), .inl (3 * (S0_.2.2.1 64 0 (6 * (a1_ / 3) + 3 * (a1_ % 3) + k_).toNat))], S0_)) rfl ?_
      refine sm_T_cal (d1 := 1) (Q1 := vq_94 (S0_.2.2.1 64 0 (6 * (a1_ / 3) + 3 * (a1_ % 3) + k_).toNat) dd_ S0_) rfl rfl (by decide) (vc_94 (S0_.2.2.1 64 0 (6 * (a1_ / 3) + 3 * (a1_ % 3) + k_).toNat) dd_ S0_ hI_ (by exact hd_) (by omega)) (fun u_ Sx7_ px10_ => ?_)
      obtain ⟨rfl, vx12_, rfl, px10_⟩ := px10_
      have lf9_ := px10_
      refine sm_T_b0 (a := 0) (z := 10) rfl (fun cx13_ => ?_) (fun cx13_ => ?_)
      · have cx13_ : vx12_ = 0 := of_decide_eq_true cx13_
        refine sm_T_go 1 (c1 := (94, [some (.inr (.inr (some (6, 0)))), some (.inl a1_), some (.inl k_), some (.inl (a1_ / 3)), some (.inl (a1_ % 3)), some (.inl (2 * (a1_ / 3) + (a1_ % 3))), some (.inl (S0_.2.2.1 64 0 (6 * (a1_ / 3) + 3 * (a1_ % 3) + k_).toNat)), some (.inl ((i_shr (S0_.2.2.1 63 0 (2 * (a1_ / 3) + (a1_ % 3)).toNat) k_) % 2))], [.inl ((i_shr (S0_.2.2.1 63 0 (2 * (a1_ / 3) + (a1_ % 3)).toNat) k_) % 2), .inl (3 * (S0_.2.2.1 64 0 (6 * (a1_ / 3) + 3 * (a1_ % 3) + k_).toNat))], S0_)) rfl ?_
        refine sm_T_bin (w := 3 * (S0_.2.2.1 64 0 (6 * (a1_ / 3) + 3 * (a1_ % 3) + k_).toNat) + ((i_shr (S0_.2.2.1 63 0 (2 * (a1_ / 3) + (a1_ % 3)).toNat) k_) % 2)) rfl (bi_add (by omega) (by omega) (by omega)) ?_ -- pc_ 94
        refine sm_T_ri rfl ⟨_, _, rfl, rfl, _, rfl, ?_⟩
        unfold ptv ptn
        rw [if_neg (by omega), if_neg (by omega)]
        first | (rw [if_pos (by omega)]) | (rw [if_neg (by omega)])
      · have cx13_ : ¬ (vx12_ = 0) := of_decide_eq_false cx13_
        refine sm_T_go 2 (c1 := (88, [some (.inr (.inr (some (6, 0)))), some (.inl a1_), some (.inl k_), some (.inl (a1_ / 3)), some (.inl (a1_ % 3)), some (.inl (2 * (a1_ / 3) + (a1_ % 3))), some (.inl (S0_.2.2.1 64 0 (6 * (a1_ / 3) + 3 * (a1_ % 3) + k_).toNat)), some (.inl ((i_shr (S0_.2.2.1 63 0 (2 * (a1_ / 3) + (a1_ % 3)).toNat) k_) % 2))], [.inl ((i_shr (S0_.2.2.1 63 0 (2 * (a1_ / 3) + (a1_ % 3)).toNat) k_) % 2), .inl 2, .inl (3 * (S0_.2.2.1 64 0 (6 * (a1_ / 3) + 3 * (a1_ % 3) + k_).toNat))], S0_)) rfl ?_
        refine sm_T_bin (w := 2 * ((i_shr (S0_.2.2.1 63 0 (2 * (a1_ / 3) + (a1_ % 3)).toNat) k_) % 2)) rfl (bi_mul (by omega) (by omega) (by omega)) ?_ -- pc_ 88
        refine sm_T_go 1 (c1 := (94, [some (.inr (.inr (some (6, 0)))), some (.inl a1_), some (.inl k_), some (.inl (a1_ / 3)), some (.inl (a1_ % 3)), some (.inl (2 * (a1_ / 3) + (a1_ % 3))), some (.inl (S0_.2.2.1 64 0 (6 * (a1_ / 3) + 3 * (a1_ % 3) + k_).toNat)), some (.inl ((i_shr (S0_.2.2.1 63 0 (2 * (a1_ / 3) + (a1_ % 3)).toNat) k_) % 2))], [.inl (2 * ((i_shr (S0_.2.2.1 63 0 (2 * (a1_ / 3) + (a1_ % 3)).toNat) k_) % 2)), .inl (3 * (S0_.2.2.1 64 0 (6 * (a1_ / 3) + 3 * (a1_ % 3) + k_).toNat))], S0_)) rfl ?_
        refine sm_T_bin (w := 3 * (S0_.2.2.1 64 0 (6 * (a1_ / 3) + 3 * (a1_ % 3) + k_).toNat) + 2 * ((i_shr (S0_.2.2.1 63 0 (2 * (a1_ / 3) + (a1_ % 3)).toNat) k_) % 2)) rfl (bi_add (by omega) (by omega) (by omega)) ?_ -- pc_ 94
        refine sm_T_ri rfl ⟨_, _, rfl, rfl, _, rfl, ?_⟩
        unfold ptv ptn
        rw [if_neg (by omega), if_neg (by omega)]
        first | (rw [if_pos (by omega)]) | (rw [if_neg (by omega)])
    · have cx3_ : ¬ (0 ≤ (S0_.2.2.1 62 0 (2 * (a1_ / 3) + (a1_ % 3)).toNat)) := of_decide_eq_false cx3_
      refine sm_T_go 2 (c1 := (39, [some (.inr (.inr (some (6, 0)))), some (.inl a1_), some (.inl k_), some (.inl (a1_ / 3)), some (.inl (a1_ % 3)), some (.inl (2 * (a1_ / 3) + (a1_ % 3))), none, none], [.inl (a1_ / 3), .inl 3], S0_)) rfl ?_
      refine sm_T_bin (w := 3 * (a1_ / 3)) rfl (bi_mul (by omega) (by omega) (by omega)) ?_ -- pc_ 39
      refine sm_T_go 1 (c1 := (41, [some (.inr (.inr (some (6, 0)))), some (.inl a1_), some (.inl k_), some (.inl (a1_ / 3)), some (.inl (a1_ % 3)), some (.inl (2 * (a1_ / 3) + (a1_ % 3))), none, none], [.inl 1, .inl (3 * (a1_ / 3))], S0_)) rfl ?_
      refine sm_T_bin (w := 3 * (a1_ / 3) + 1) rfl (bi_add (by omega) (by omega) (by omega)) ?_ -- pc_ 41
      refine sm_T_go 1 (c1 := (44, [some (.inr (.inr (some (6, 0)))), some (.inl a1_), some (.inl k_), some (.inl (a1_ / 3)), some (.inl (a1_ % 3)), some (.inl (2 * (a1_ / 3) + (a1_ % 3))), none, none], [.inl (a1_ % 3), .inl (3 * (a1_ / 3) + 1)], S0_)) rfl ?_
      refine sm_T_bin (w := 3 * (a1_ / 3) - (a1_ % 3) + 1) rfl (bi_sub (by omega) (by omega) (by omega)) ?_ -- pc_ 44
      refine sm_T_ri rfl ⟨_, _, rfl, rfl, _, rfl, ?_⟩
      unfold ptv
      rw [if_neg (by omega), if_pos (by omega)]
      omega
  · have cx1_ : ¬ ((a1_ % 3) ≠ 2) := of_decide_eq_false cx1_
    refine sm_T_go 2 (c1 := (17, [some (.inr (.inr (some (6, 0)))), some (.inl a1_), some (.inl k_), some (.inl (a1_ / 3)), some (.inl (a1_ % 3)), none, none, none], [.inl (a1_ / 3), .inl 3], S0_)) rfl ?_
    refine sm_T_bin (w := 3 * (a1_ / 3)) rfl (bi_mul (by omega) (by omega) (by omega)) ?_ -- pc_ 17
    refine sm_T_ri rfl ⟨_, _, rfl, rfl, _, rfl, ?_⟩
    unfold ptv
    rw [if_pos (by omega)]
end
/-! 99.zo1a -/
section
/-! tasks done; written by wip/p55/gen/vg -/

/-! tasks done -/
theorem gtk_iv {f_ N_ : Int} {ll_ : Nat} {S_ : sm_S} {t_ : Int} (h_ : wal f_ N_ ll_ S_) (hf_ : 1 ≤ f_) (g_ : gtk f_ N_ (S_.1 5 ll_ 2) (S_.2.2.1 59 0) (S_.2.2.1 62 0) t_) (hi_ : ¬ (t_ / 3 < f_ ∧ t_ % 3 = 0)) (q_ : t_ % 3 = 2 ∨ S_.2.2.1 62 0 (2 * (t_ / 3) + t_ % 3).toNat < 0) : S_.1 5 ll_ 2 ≠ -1 := by
  obtain ⟨g1_, g2_, g3_, g4_⟩ := g_
  rcases g4_ with ⟨g4_, g5_, g6_⟩ | ⟨g4_, g6_⟩
  · exact g5_
  · have g7_ : f_ ≤ t_ / 3 ∧ S_.2.2.1 62 0 (2 * (t_ / 3) + t_ % 3).toNat ≠ -1 := by
      rcases g6_ with g6_ | g6_
      · exact absurd g6_ hi_
      · exact g6_
    have g8_ := wal_w h_ hf_ g7_.1 (by omega) g3_ (t_ := t_ % 3) (by omega)
    rcases g8_ with (g8_ | g8_) | g8_
    · exact absurd g8_.1 g7_.2
    · have := g8_.1; omega
    · exact g8_.2.2.1
/-! Mapper.missingPart -/
end
/-! 99.zo3a -/
section
/-! all gates of a chip; written by wip/p55/gen/vg -/

/-! all_ gates of_ a_ chip -/
/-- the_ literal that stands for_ a_ root -/
def slv (dd_ : Nat) (S_ : sm_S) (i_ : Int) : Int := i_xor (S_.2.2.1 44 (0 + dd_) (rtv dd_ S_ i_ / 2).toNat) (rtv dd_ S_ i_ % 2)
/-- every root can_ be_ made -/
def rgt (dd_ ll_ : Nat) (S_ : sm_S) : Prop := ∀ i_ : Int, 0 ≤ i_ → i_ < S_.1 3 dd_ 3 + S_.1 3 dd_ 2 → 1 < slv dd_ S_ i_ → gtk (1 + S_.1 3 dd_ 1 + S_.1 3 dd_ 2) (S_.1 3 dd_ 4) (S_.1 5 ll_ 2) (S_.2.2.1 59 0) (S_.2.2.1 62 0) (3 * (slv dd_ S_ i_ / 2) + 2 * (slv dd_ S_ i_ % 2))
theorem rgt_of {dd_ F_ ll_ : Nat} {S_ : sm_S} (hg_ : dgr dd_ F_ S_) (hr_ : drt dd_ S_) (hs_ : swp dd_ F_ S_) (hk_ : mkd dd_ F_ S_ (S_.2.2.1 59 0)) (n13_ : S_.1 3 dd_ 4 ≤ 1013) (hrr_ : ∀ i_ : Int, 0 ≤ i_ → i_ < S_.1 3 dd_ 3 + S_.1 3 dd_ 2 → S_.2.2.1 60 0 (srp dd_ S_ (rtv dd_ S_ i_)) ≠ 0) (hw_ : wal (1 + S_.1 3 dd_ 1 + S_.1 3 dd_ 2) (S_.1 3 dd_ 4) ll_ S_) (hiv_ : S_.1 5 ll_ 2 ≠ -1 ∨ ∀ i_ : Int, 0 ≤ i_ → i_ < S_.1 3 dd_ 3 + S_.1 3 dd_ 2 → slv dd_ S_ i_ ≤ 1 ∨ slv dd_ S_ i_ % 2 = 0) : rgt dd_ ll_ S_ := by
  intro i_ h0_ h1_ h2_
  have a_ := rtv_b hr_ hs_ h0_ h1_
  have b_ := swl_n hs_ a_.1.1 a_.1.2 n13_
  have c_ := hk_.2.1 i_ h0_ h1_
  have r_ := hrr_ i_ h0_ h1_
  have e_ : slv dd_ S_ i_ / 2 = (srp dd_ S_ (rtv dd_ S_ i_) : Int) := b_.1
  obtain ⟨x_, hx_⟩ : ∃ x_, x_ = srp dd_ S_ (rtv dd_ S_ i_) := ⟨_, rfl⟩
  obtain ⟨l_, hl_⟩ : ∃ l_, l_ = slv dd_ S_ i_ := ⟨_, rfl⟩
  rw [← hx_] at a_ c_ r_ e_
  have hv_ : l_ % 2 = 1 → S_.1 5 ll_ 2 ≠ -1 := by
    intro q_
    rcases hiv_ with z_ | z_
    · exact z_
    · have y_ := z_ i_ h0_ h1_
      rw [← hl_] at y_
      omega
  rw [← hl_] at e_ h2_ ⊢
  have g1_ := hg_.1
  have d1_ : (3 * (l_ / 2) + 2 * (l_ % 2)) / 3 = l_ / 2 := by omega
  have lw_ : lwy (1 + S_.1 3 dd_ 1 + S_.1 3 dd_ 2) (S_.2.2.1 62 0) (l_ / 2) 0 := by
    by_cases xf_ : l_ / 2 < 1 + S_.1 3 dd_ 1 + S_.1 3 dd_ 2
    · exact Or.inl ⟨xf_, rfl⟩
    · right
      have w_ := (hw_ x_ (by omega) (by omega) c_).2.2 r_
      refine ⟨by omega, wal_c hw_ (by omega) (by omega) (by omega) (by rw [show (l_ / 2).toNat = x_ by omega]; exact c_) (by omega) ?_⟩
      rw [show (2 * (l_ / 2) + 0).toNat = 2 * x_ by omega]; exact w_
  refine ⟨by omega, by omega, by rw [d1_, show (l_ / 2).toNat = x_ by omega]; exact c_, ?_⟩
  rw [d1_]
  by_cases o_ : l_ % 2 = 1
  · left
    exact ⟨by omega, hv_ o_, lw_⟩
  · right
    rw [show (3 * (l_ / 2) + 2 * (l_ % 2)) % 3 = 0 by omega]
    exact ⟨by decide, lw_⟩
theorem cdf5 {cc_ ll_ : Nat} {S_ S'_ : sm_S} (h_ : cdf cc_ S_ S'_) (hl_ : ll_ < 3) : S'_.1 5 ll_ 2 = S_.1 5 ll_ 2 ∧ S'_.2.2.1 55 (0 + ll_) = S_.2.2.1 55 (0 + ll_) :=
  ⟨(h_ 5 rfl ll_ (by rw [show cof 5 = 3 from rfl]; omega)).1 2, (h_ 55 rfl (0 + ll_) (by rw [show cof 55 = 3 from rfl]; omega)).2⟩
theorem rgt_cd {w_ : sx_Wl} {dd_ ll_ cc_ : Nat} {S0_ S_ S'_ : sm_S} (h_ : rgt dd_ ll_ S_) (g_ : ai_fr (sx_W w_) S_ S'_) (c_ : cdf cc_ S0_ S_) (c'_ : cdf cc_ S0_ S'_) (hl_ : ll_ < 3) (h1_ : (sx_W w_).1 3 1 = false := by rfl) (h2_ : (sx_W w_).1 3 2 = false := by rfl) (h3_ : (sx_W w_).1 3 3 = false := by rfl) (h4_ : (sx_W w_).1 3 4 = false := by rfl) (a3_ : (sx_W w_).2.1 44 = false := by rfl) (a4_ : (sx_W w_).2.1 45 = false := by rfl) (a5_ : (sx_W w_).2.1 46 = false := by rfl) (a6_ : (sx_W w_).2.1 59 = false := by rfl) (a7_ : (sx_W w_).2.1 62 = false := by rfl) : rgt dd_ ll_ S'_ := by
  unfold rgt slv rtv
  rw [g_.1 3 dd_ 1 h1_, g_.1 3 dd_ 2 h2_, g_.1 3 dd_ 3 h3_, g_.1 3 dd_ 4 h4_, fr_arr g_ a3_, fr_arr g_ a4_, fr_arr g_ a5_, fr_arr g_ a6_, fr_arr g_ a7_, (cdf5 c'_ hl_).1, ← (cdf5 c_ hl_).1]
  exact h_
theorem wok_eq {F_ n_ : Int} {ll_ l_ m_ : Nat} {S_ S'_ : sm_S} (h_ : wok F_ n_ ll_ S_ l_ m_) (a1_ : S'_.2.2.1 61 0 = S_.2.2.1 61 0) (a2_ : S'_.2.2.1 62 0 = S_.2.2.1 62 0) (a3_ : S'_.2.2.1 63 0 = S_.2.2.1 63 0) (a4_ : S'_.2.2.1 64 0 = S_.2.2.1 64 0) (a5_ : S'_.2.2.1 55 (0 + ll_) = S_.2.2.1 55 (0 + ll_)) (a6_ : S'_.2.2.1 59 0 = S_.2.2.1 59 0) (a7_ : S'_.2.2.1 60 0 = S_.2.2.1 60 0) (a8_ : S'_.1 5 ll_ 2 = S_.1 5 ll_ 2) : wok F_ n_ ll_ S'_ l_ m_ := by
  unfold wok wo3
  rw [a1_, a2_, a3_, a4_, a5_, a6_, a7_, a8_]
  exact h_
theorem wal_cd {w_ : sx_Wl} {f_ N_ : Int} {ll_ cc_ : Nat} {S0_ S_ S'_ : sm_S} (h_ : wal f_ N_ ll_ S_) (g_ : ai_fr (sx_W w_) S_ S'_) (c_ : cdf cc_ S0_ S_) (c'_ : cdf cc_ S0_ S'_) (hl_ : ll_ < 3) (a1_ : (sx_W w_).2.1 61 = false := by rfl) (a2_ : (sx_W w_).2.1 62 = false := by rfl) (a3_ : (sx_W w_).2.1 63 = false := by rfl) (a4_ : (sx_W w_).2.1 64 = false := by rfl) (a6_ : (sx_W w_).2.1 59 = false := by rfl) (a7_ : (sx_W w_).2.1 60 = false := by rfl) : wal f_ N_ ll_ S'_ := fun n_ h1_ h2_ h3_ => by
  rw [fr_arr g_ a6_] at h3_
  have q_ := h_ n_ h1_ h2_ h3_
  have e5_ := (cdf5 c'_ hl_).1.trans (cdf5 c_ hl_).1.symm
  have e55_ := (cdf5 c'_ hl_).2.trans (cdf5 c_ hl_).2.symm
  rw [fr_arr g_ a7_, fr_arr g_ a1_]
  exact ⟨wok_eq q_.1 (fr_arr g_ a1_) (fr_arr g_ a2_) (fr_arr g_ a3_) (fr_arr g_ a4_) e55_ (fr_arr g_ a6_) (fr_arr g_ a7_) e5_, wok_eq q_.2.1 (fr_arr g_ a1_) (fr_arr g_ a2_) (fr_arr g_ a3_) (fr_arr g_ a4_) e55_ (fr_arr g_ a6_) (fr_arr g_ a7_) e5_, q_.2.2⟩
/-- ways of_ lower nodes stay -/
theorem wok_n {F_ : Int} {n_ k_ ll_ l_ m_ : Nat} {S_ S'_ : sm_S} (h_ : wok F_ (k_ : Int) ll_ S_ l_ m_) (g_ : wfn n_ S_ S'_) (hk_ : k_ < n_) (h1_ : l_ = 2 * k_ ∨ l_ = 2 * k_ + 1) (h2_ : m_ = 2 * k_ ∨ m_ = 2 * k_ + 1) (c55_ : ∀ k_, S_.2.2.1 55 (0 + ll_) k_ ≤ 3) (a5_ : S'_.2.2.1 55 (0 + ll_) = S_.2.2.1 55 (0 + ll_)) (a6_ : S'_.2.2.1 59 0 = S_.2.2.1 59 0) (a7_ : S'_.2.2.1 60 0 = S_.2.2.1 60 0) (a8_ : S'_.1 5 ll_ 2 = S_.1 5 ll_ 2) : wok F_ (k_ : Int) ll_ S'_ l_ m_ := by
  have el_ := g_.1 l_ (by omega) (by omega)
  have em_ := g_.1 m_ (by omega) (by omega)
  rcases h_ with (h_ | h_) | h_
  · left; left
    rw [el_.1, el_.2.1]; exact h_
  · left; right
    rw [el_.1, el_.2.1, el_.2.2, a5_, a6_, a7_, a8_]
    refine ⟨h_.1, h_.2.1, fun j_ hj_ => ?_⟩
    have w_ := c55_ (S_.2.2.1 62 0 l_).toNat
    rw [g_.2 (3 * l_ + j_) (by omega)]
    exact wpt_cg (h_.2.2 j_ hj_) (by omega) (fun q_ hq_ => (g_.1 q_ (by omega) (by omega)).1)
  · right
    rw [el_.1, el_.2.1, em_.2.1, a8_]; exact h_
theorem wal_s {f_ : Int} {n_ ll_ : Nat} {S_ S'_ : sm_S} (h_ : wal f_ (n_ : Int) ll_ S_) (g_ : wfn n_ S_ S'_) (w1_ : wok f_ (n_ : Int) ll_ S'_ (2 * n_) (2 * n_ + 1)) (w2_ : wok f_ (n_ : Int) ll_ S'_ (2 * n_ + 1) (2 * n_)) (c55_ : ∀ k_, S_.2.2.1 55 (0 + ll_) k_ ≤ 3) (a5_ : S'_.2.2.1 55 (0 + ll_) = S_.2.2.1 55 (0 + ll_)) (a6_ : S'_.2.2.1 59 0 = S_.2.2.1 59 0) (a7_ : S'_.2.2.1 60 0 = S_.2.2.1 60 0) (a8_ : S'_.1 5 ll_ 2 = S_.1 5 ll_ 2) (hn_ : S'_.2.2.1 60 0 n_ = 0 ∨ S'_.2.2.1 61 0 (2 * n_) < 268435456) : wal f_ ((n_ : Int) + 1) ll_ S'_ := fun k_ h1_ h2_ h3_ => by
  by_cases e_ : k_ = n_
  · subst e_
    exact ⟨w1_, w2_, fun q_ => hn_.resolve_left q_⟩
  · rw [a6_] at h3_
    have q_ := h_ k_ h1_ (by omega) h3_
    rw [a7_, (g_.1 (2 * k_) (by omega) (by omega)).1]
    exact ⟨wok_n q_.1 g_ (by omega) (by omega) (by omega) c55_ a5_ a6_ a7_ a8_, wok_n q_.2.1 g_ (by omega) (by omega) (by omega) c55_ a5_ a6_ a7_ a8_, q_.2.2⟩
/-! java/util/Arrays.fill -/
def vw_2q72 : sx_Wl := ([], [72], [])
def vq_2q72 (v0_ : Int) (S0_ : sm_S) (u_ : Option sm_V) (S1_ : sm_S) : Prop := u_ = none ∧ gi S1_ ∧ ai_fr (sx_W vw_2q72) S0_ S1_ ∧ (∀ j_, j_ < 3039 → S1_.2.2.1 72 0 j_ = v0_)
set_option maxHeartbeats 400000 in
theorem vl_2q72 {sc_ : Nat × (Nat → Int)} (v0_ : Int) (S0_ : sm_S) (hv_ : (-1) ≤ v0_ ∧ v0_ ≤ 161) : ∀ nn_ : Nat, (∀ (k_ : Int) (S_ : sm_S), gi S_ → ai_fr (sx_W vw_2q72) S0_ S_ → ((0 ≤ k_ ∧ k_ ≤ 3039) ∧ (∀ j_, j_ < k_.toNat → S_.2.2.1 72 0 j_ = v0_) ∧ True) → ((3039 - k_).toNat) < nn_ → sm_T (mt_P sc_) 0 2 (5, [some (.inr (.inr (some (72, 0)))), some (.inl v0_), some (.inl k_), some (.inl 3039)], [], S_) (fun ro9_ => ∃ u_ S1_, ro9_ = (.inl u_, S1_, 0) ∧ vq_2q72 v0_ S0_ u_ S1_)) := by
  intro nn_
  induction nn_ with
  | zero => exact fun _ _ _ _ _ h_ => absurd h_ (Nat.not_lt_zero _)
  | succ nn_ ih_ =>
    rintro k_ S_ hI_ hF_ ⟨h0_, h1_, -⟩ hm_
    refine sm_T_go 2 (c1 := (7, [some (.inr (.inr (some (72, 0)))), some (.inl v0_), some (.inl k_), some (.inl 3039)], [.inl 3039, .inl k_], S_)) rfl ?_
    refine sm_T_br (a := 3) (z := 13) rfl (fun cx1_ => ?_) (fun cx1_ => ?_)
    · have cx1_ : 3039 ≤ k_ := of_decide_eq_true cx1_
      refine sm_T_rv rfl ⟨_, _, rfl, rfl, hI_, hF_, ?_⟩
      exact fun j_ hj_ => h1_ j_ (by omega)
    · have cx1_ : ¬ (3039 ≤ k_) := of_decide_eq_false cx1_
      refine sm_T_go 3 (c1 := (13, [some (.inr (.inr (some (72, 0)))), some (.inl v0_), some (.inl k_), some (.inl 3039)], [.inl v0_, .inl k_, .inr (.inr (some (72, 0)))], S_)) rfl ?_
      refine sm_T_iast (n := 3039) rfl rfl (by omega) (by omega) ?_
      have hIx2_ : gi (sm_aI S_ 72 0 k_.toNat v0_) := gi_aI hI_ (show (-1) ≤ v0_ ∧ v0_ ≤ 161 from ⟨by omega, by omega⟩)
      have hFx3_ : ai_fr (sx_W vw_2q72) S0_ (sm_aI S_ 72 0 k_.toNat v0_) := ai_fr_tr hF_ (ai_fr_aI rfl)
      refine sm_T_inc (a := 2) (z := 1) (v := k_) (w := k_ + 1) rfl rfl (by omega) (by omega) (by omega) ?_ -- pc_ 14
      refine sm_T_go 1 (c1 := (5, [some (.inr (.inr (some (72, 0)))), some (.inl v0_), some (.inl (k_ + 1)), some (.inl 3039)], [], sm_aI S_ 72 0 k_.toNat v0_)) rfl ?_
      refine ih_ (k_ + 1) (sm_aI S_ 72 0 k_.toNat v0_) hIx2_ hFx3_ ⟨?_, ?_, trivial⟩ ?_
      · omega
      · intro j_ hj_
        rw [rd_eq]
        by_cases z_ : j_ = k_.toNat
        · rw [if_pos z_]
        · rw [if_neg z_]; exact h1_ j_ (by omega)
      · omega
set_option maxHeartbeats 400000 in
theorem vc_2q72 {sc_ : Nat × (Nat → Int)} (v0_ : Int) (S0_ : sm_S) (hI_ : gi S0_) (hv_ : (-1) ≤ v0_ ∧ v0_ ≤ 161) : sm_T (mt_P sc_) 0 2 (0, [some (.inr (.inr (some (72, 0)))), some (.inl v0_), none, none], [], S0_) (fun ro9_ => ∃ u_ S1_, ro9_ = (.inl u_, S1_, 0) ∧ vq_2q72 v0_ S0_ u_ S1_) := by
  have hF_ : ai_fr (sx_W vw_2q72) S0_ S0_ := ai_fr_rf
  refine sm_T_go 5 (c1 := (5, [some (.inr (.inr (some (72, 0)))), some (.inl v0_), some (.inl 0), some (.inl 3039)], [], S0_)) rfl ?_
  refine (vl_2q72 v0_ S0_ hv_ _) 0 S0_ hI_ hF_ ⟨?_, ?_, trivial⟩ (Nat.lt_succ_self _)
  · omega
  · (intro j_ hj_; exact absurd hj_ (Nat.not_lt_zero _))
end
/-! 99.zo4a -/
section
/-! a chip is built; written by wip/p55/gen/vg -/

/-! a_ chip is_ built -/
def rtm (dd_ : Nat) (S_ : sm_S) : Prop := ∀ i_ : Int, 0 ≤ i_ → i_ < S_.1 3 dd_ 3 + S_.1 3 dd_ 2 → S_.2.2.1 60 0 (srp dd_ S_ (rtv dd_ S_ i_)) ≠ 0
theorem rtm_of {w_ : sx_Wl} {dd_ : Nat} {S_ S'_ : sm_S} (h_ : ∀ i_ : Int, 0 ≤ i_ → i_ < S_.1 3 dd_ 3 + S_.1 3 dd_ 2 → S'_.2.2.1 60 0 (srp dd_ S_ (rtv dd_ S_ i_)) ≠ 0) (g_ : ai_fr (sx_W w_) S_ S'_) (h2_ : (sx_W w_).1 3 2 = false := by rfl) (h3_ : (sx_W w_).1 3 3 = false := by rfl) (a3_ : (sx_W w_).2.1 44 = false := by rfl) (a4_ : (sx_W w_).2.1 45 = false := by rfl) (a5_ : (sx_W w_).2.1 46 = false := by rfl) : rtm dd_ S'_ := by
  unfold rtm srp rtv at *
  rw [g_.1 3 dd_ 2 h2_, g_.1 3 dd_ 3 h3_, fr_arr g_ a3_, fr_arr g_ a4_, fr_arr g_ a5_]
  exact h_
theorem rtm_fr {w_ : sx_Wl} {dd_ : Nat} {S_ S'_ : sm_S} (h_ : rtm dd_ S_) (g_ : ai_fr (sx_W w_) S_ S'_) (h2_ : (sx_W w_).1 3 2 = false := by rfl) (h3_ : (sx_W w_).1 3 3 = false := by rfl) (a3_ : (sx_W w_).2.1 44 = false := by rfl) (a4_ : (sx_W w_).2.1 45 = false := by rfl) (a5_ : (sx_W w_).2.1 46 = false := by rfl) (a6_ : (sx_W w_).2.1 60 = false := by rfl) : rtm dd_ S'_ :=
  rtm_of (fun i_ a_ b_ => by rw [fr_arr g_ a6_]; exact h_ i_ a_ b_) g_ h2_ h3_ a3_ a4_ a5_
theorem wal_z {f_ n_ : Int} {ll_ : Nat} {S_ : sm_S} (h_ : wal f_ n_ ll_ S_) (h0_ : 0 ≤ n_) (z_ : S_.2.2.1 59 0 n_.toNat = 0) : wal f_ (n_ + 1) ll_ S_ := fun k_ h1_ h2_ h3_ => by
  by_cases e_ : (k_ : Int) = n_
  · rw [show k_ = n_.toNat by omega, z_] at h3_
    exact absurd h3_ (by decide)
  · exact h_ k_ h1_ (by omega) h3_
/-! Mapper.build -/
end
/-! 99.zp1a -/
section
/-! the face of the class: chips; written by wip/p55/gen/vg -/

/-! chips that are_ there -/
def cOk (i_ : Nat) (S_ : sm_S) : Prop := (S_.1 2 i_ 1 + S_.1 2 i_ 2 ≤ 12 ∧ 1 ≤ S_.1 2 i_ 3) ∧ (0 ≤ S_.1 2 i_ 4 ∧ S_.1 2 i_ 4 < 2 ^ (S_.1 2 i_ 2).toNat) ∧ (0 ≤ S_.1 2 i_ 5 ∧ S_.1 2 i_ 5 < 2 ^ (S_.1 2 i_ 2).toNat) ∧ ctb i_ S_ ∧ (bpn (0 + i_) S_ ∧ bpp (0 + i_) i_ S_ ∧ bpl (0 + i_) i_ S_) ∧ imq (S_.1 0 (0 + i_) 11 = 1) (bst (0 + i_) S_ ∧ ∀ p_ : Nat, p_ < 4712 → S_.2.2.1 22 (0 + (0 + i_)) p_ < S_.1 2 i_ 1 + S_.1 2 i_ 2 + S_.1 2 i_ 8)
theorem cOk_q {i_ : Nat} {S_ S'_ : sm_S} (h_ : cOk i_ S_) (f2_ : ∀ k_, 0 < k_ → k_ < 9 → S'_.1 2 i_ k_ = S_.1 2 i_ k_) (f0_ : ∀ k_, k_ < 12 → S'_.1 0 (0 + i_) k_ = S_.1 0 (0 + i_) k_) (a_ : ∀ t_, 14 ≤ t_ → t_ < 24 → t_ ≠ 21 → S'_.2.2.1 t_ (0 + (0 + i_)) = S_.2.2.1 t_ (0 + (0 + i_))) (b_ : S'_.2.2.1 34 (0 + i_) = S_.2.2.1 34 (0 + i_)) : cOk i_ S'_ := by
  unfold cOk ctb bpn bpp bpl bst
  rw [f2_ 1 (by decide) (by decide), f2_ 2 (by decide) (by decide), f2_ 3 (by decide) (by decide), f2_ 4 (by decide) (by decide), f2_ 5 (by decide) (by decide), f2_ 8 (by decide) (by decide), f0_ 0 (by decide), f0_ 1 (by decide), f0_ 2 (by decide), f0_ 11 (by decide), a_ 14 (by decide) (by decide) (by decide), a_ 15 (by decide) (by decide) (by decide), a_ 16 (by decide) (by decide) (by decide), a_ 17 (by decide) (by decide) (by decide), a_ 18 (by decide) (by decide) (by decide), a_ 19 (by decide) (by decide) (by decide), a_ 20 (by decide) (by decide) (by decide), a_ 22 (by decide) (by decide) (by decide), a_ 23 (by decide) (by decide) (by decide), b_]
  exact h_
theorem cof_0 {t_ : Nat} (h_ : t_ < 55) (h5_ : t_ ≠ 5) : cof t_ = 0 := by
  unfold cof
  rw [if_neg (by omega)]
theorem ckn_a {t_ : Nat} (h1_ : 14 ≤ t_) (h2_ : t_ < 24) : ckn t_ = true := by
  have c_ : t_ = 14 ∨ t_ = 15 ∨ t_ = 16 ∨ t_ = 17 ∨ t_ = 18 ∨ t_ = 19 ∨ t_ = 20 ∨ t_ = 21 ∨ t_ = 22 ∨ t_ = 23 := by omega
  rcases c_ with c_ | c_ | c_ | c_ | c_ | c_ | c_ | c_ | c_ | c_ <;> rw [c_] <;> rfl
theorem cOk_cd {i_ c_ : Nat} {S_ S'_ : sm_S} (h_ : cOk i_ S_) (g_ : cdf c_ S_ S'_) (ne_ : i_ ≠ c_) : cOk i_ S'_ :=
  cOk_q h_ (fun k_ _ _ => (g_ 2 rfl i_ (by rw [cof_0 (by decide) (by decide)]; omega)).1 k_) (fun k_ _ => (g_ 0 rfl (0 + i_) (by rw [cof_0 (by decide) (by decide)]; omega)).1 k_) (fun t_ h1_ h2_ _ => (g_ t_ (ckn_a h1_ h2_) (0 + (0 + i_)) (by rw [cof_0 (by omega) (by omega)]; omega)).2) (g_ 34 rfl (0 + i_) (by rw [cof_0 (by decide) (by decide)]; omega)).2
theorem cOk_fr {w_ : sx_Wl} {i_ : Nat} {S_ S'_ : sm_S} (h_ : cOk i_ S_) (g_ : ai_fr (sx_W w_) S_ S'_) (h2_ : ∀ k_, k_ < 9 → 0 < k_ → (sx_W w_).1 2 k_ = false) (h0_ : ∀ k_, k_ < 12 → (sx_W w_).1 0 k_ = false) (ha_ : ∀ t_, t_ < 24 → 14 ≤ t_ → t_ ≠ 21 → (sx_W w_).2.1 t_ = false) (hb_ : (sx_W w_).2.1 34 = false) : cOk i_ S'_ :=
  cOk_q h_ (fun k_ a_ b_ => g_.1 2 i_ k_ (h2_ k_ b_ a_)) (fun k_ a_ => g_.1 0 (0 + i_) k_ (h0_ k_ a_)) (fun t_ a_ b_ c_ => fr_arr g_ (ha_ t_ b_ a_ c_)) (fr_arr g_ hb_)
def cAll (S_ : sm_S) : Prop := ∀ i_, i_ < 4 → S_.1 2 i_ 0 = 1 → cOk i_ S_
theorem cAll_fr {w_ : sx_Wl} {S_ S'_ : sm_S} (h_ : cAll S_) (g_ : ai_fr (sx_W w_) S_ S'_) (h2_ : ∀ k_, k_ < 9 → (sx_W w_).1 2 k_ = false) (h0_ : ∀ k_, k_ < 12 → (sx_W w_).1 0 k_ = false) (ha_ : ∀ t_, t_ < 24 → 14 ≤ t_ → t_ ≠ 21 → (sx_W w_).2.1 t_ = false) (hb_ : (sx_W w_).2.1 34 = false) : cAll S'_ := fun i_ hi_ q_ => by
  rw [g_.1 2 i_ 0 (h2_ 0 (by decide))] at q_
  exact cOk_fr (h_ i_ hi_ q_) g_ (fun k_ a_ _ => h2_ k_ a_) h0_ ha_ hb_
/-- one_ chip changes -/
theorem cAll_cd {c_ : Nat} {S_ S'_ : sm_S} (h_ : cAll S_) (g_ : cdf c_ S_ S'_) (k_ : S'_.1 2 c_ 0 = 1 → cOk c_ S'_) : cAll S'_ := fun i_ hi_ q_ => by
  by_cases e_ : i_ = c_
  · rw [e_] at q_ ⊢; exact k_ q_
  · have z_ := (g_ 2 rfl i_ (by rw [cof_0 (by decide) (by decide)]; omega)).1 0
    rw [z_] at q_
    exact cOk_cd (h_ i_ hi_ q_) g_ e_
/-- what holds between the_ calls of_ the_ class -/
def jC (S_ : sm_S) : Prop := dAll S_ ∧ cAll S_ ∧ tpo S_ ∧ shn S_
theorem jC_fr {w_ : sx_Wl} {S_ S'_ : sm_S} (h_ : jC S_) (g_ : ai_fr (sx_W w_) S_ S'_) (d1_ : ∀ k_, k_ < 7 → (sx_W w_).1 3 k_ = false) (d2_ : ∀ t_, t_ < 48 → 42 ≤ t_ → (sx_W w_).2.1 t_ = false) (h2_ : ∀ k_, k_ < 9 → (sx_W w_).1 2 k_ = false) (h0_ : ∀ k_, k_ < 12 → (sx_W w_).1 0 k_ = false) (ha_ : ∀ t_, t_ < 24 → 14 ≤ t_ → t_ ≠ 21 → (sx_W w_).2.1 t_ = false) (hb_ : (sx_W w_).2.1 34 = false) (t1_ : (sx_W w_).1 11 5 = false) (t2_ : (sx_W w_).2.1 102 = false) (t3_ : (sx_W w_).2.1 104 = false) (t4_ : (sx_W w_).2.1 105 = false) (t5_ : (sx_W w_).2.1 95 = false) : jC S'_ :=
  ⟨dAll_fr h_.1 g_ d1_ d2_, cAll_fr h_.2.1 g_ h2_ h0_ ha_ hb_, tpo_fr h_.2.2.1 g_ t1_ t2_ t3_ t4_, shn_fr h_.2.2.2 g_ t5_⟩
theorem cOk_st {i_ : Nat} {S_ : sm_S} {v_ : Int} (h_ : cOk i_ S_) (hv_ : 0 ≤ v_ ∧ v_ < 2 ^ (S_.1 2 i_ 2).toNat) : cOk i_ (sm_pI S_ 2 i_ 5 v_) := by
  obtain ⟨a_, b_, c_, d_, e_, f_⟩ := h_
  have fx : ai_fr (sx_W ([(2, 5)], [], [])) S_ (sm_pI S_ 2 i_ 5 v_) := ai_fr_pI rfl
  unfold cOk ctb bpn bpp bpl bst at *
  rw [fx.1 2 i_ 1 rfl, fx.1 2 i_ 2 rfl, fx.1 2 i_ 3 rfl, fx.1 2 i_ 4 rfl, fx.1 2 i_ 8 rfl, rf_eq]
  exact ⟨a_, b_, hv_, d_, e_, f_⟩
theorem jC_st {i_ : Nat} {S_ : sm_S} {v_ : Int} (h_ : jC S_) (u_ : S_.1 2 i_ 0 = 1 ∧ i_ < 4) (hv_ : 0 ≤ v_ ∧ v_ < 2 ^ (S_.1 2 i_ 2).toNat) : jC (sm_pI S_ 2 i_ 5 v_) := by
  have fx : ai_fr (sx_W ([(2, 5)], [], [])) S_ (sm_pI S_ 2 i_ 5 v_) := ai_fr_pI rfl
  exact ⟨dAll_fr h_.1 fx (by decide) (by decide), cAll_cd h_.2.1 (cdf_pI cdf_rf (Or.inr (by rw [cof_0 (by decide) (by decide)]; omega))) (fun _ => cOk_st (h_.2.1 i_ u_.2 u_.1) hv_), tpo_fr h_.2.2.1 fx, shn_fr h_.2.2.2 fx⟩
/-! ChipFlow.chip -/
def vw_231 : sx_Wl := ([], [], [])
def vq_231 (kk_ : Int) (wh_ : Int) (S0_ : sm_S) (u_ : Option sm_V) (S1_ : sm_S) : Prop := ∃ v_ : Int, u_ = some (.inl v_) ∧ gi S1_ ∧ ai_fr (sx_W vw_231) S0_ S1_ ∧ (True)
def vx_231 (kk_ : Int) (wh_ : Int) (S0_ : sm_S) (S1_ : sm_S) : Prop := gi S1_ ∧ ai_fr (sx_W vw_231) S0_ S1_ ∧ (S1_ = S0_)
set_option maxHeartbeats 400000 in
theorem vc_231 {sc_ : Nat × (Nat → Int)} (kk_ : Int) (wh_ : Int) (S0_ : sm_S) (hI_ : gi S0_) (hJ_ : jC S0_) : sm_T (mt_P sc_) 2 231 (0, [some (.inr (.inr (some (12, 0)))), some (.inl kk_), some (.inl wh_), none, none], [], S0_) (fun ro9_ => (∃ u_ S1_, ro9_ = (.inl u_, S1_, 0) ∧ vq_231 kk_ wh_ S0_ u_ S1_) ∨ ∃ ex_ S1_, ro9_ = (.inr ex_, S1_, 1) ∧ ex_ ∈ ([0, 1] : List Nat) ∧ vx_231 kk_ wh_ S0_ S1_) := by
  have hF_ : ai_fr (sx_W vw_231) S0_ S0_ := ai_fr_rf
  refine sm_T_go 2 (c1 := (2, [some (.inr (.inr (some (12, 0)))), some (.inl kk_), some (.inl wh_), none, none], [.inl kk_, .inr (.inr (some (12, 0)))], S0_)) rfl ?_
  refine sm_T_cale (d1_ := 1) (Q1_ := vq_272 kk_ S0_) (Q2_ := (fun ex_ S1_ => ex_ ∈ ([0] : List Nat) ∧ vx_272 kk_ S0_ S1_)) rfl rfl (by decide) (vc_272 kk_ S0_ hI_ ) rfl (fun xx6_ Sx1_ px4_ => ?_) (fun u_ Sx1_ px4_ => ?_)
  · obtain ⟨px4m, hIx2_, hFx3_, px4_⟩ := px4_
    refine Or.inr ⟨_, _, rfl, by first | exact px4m | (simp only [List.mem_cons, List.not_mem_nil, or_false] at px4m ⊢; omega), hIx2_, ai_fr_tr hF_ (fr_le hFx3_ rfl), ?_⟩
    first | exact px4_.2 | exact px4_ | rfl
  obtain ⟨rfl, -, -, rfl, px4_⟩ := px4_
  have a9_ := px4_
  have J9_ := hJ_.2.1 kk_.toNat (by omega) a9_.2
  have J1_ := J9_.1
  have q9_ := a9_.2
  have c8_ : 0 ≤ S0_.1 2 (kk_.toNat) 8 ∧ S0_.1 2 (kk_.toNat) 8 ≤ 150 := hI_.1 2 (kk_.toNat) 8 rfl
  refine sm_T_go 2 (c1 := (7, [some (.inr (.inr (some (12, 0)))), some (.inl kk_), some (.inl wh_), some (.inr (.inr (some (2, kk_.toNat)))), none], [.inl wh_], S0_)) rfl ?_
  refine sm_T_b0 (a := 2) (z := 13) rfl (fun cx7_ => ?_) (fun cx7_ => ?_)
  · have cx7_ : wh_ < 0 := of_decide_eq_true cx7_
    refine sm_T_go 1 (c1 := (21, [some (.inr (.inr (some (12, 0)))), some (.inl kk_), some (.inl wh_), some (.inr (.inr (some (2, kk_.toNat)))), none], [.inl 0], S0_)) rfl ?_
    refine sm_T_cale (d1_ := 0) (Q1_ := vq_266e 0 S0_) (Q2_ := (fun ex_ S1_ => ex_ ∈ ([1] : List Nat) ∧ vx_266e 0 S0_ S1_)) rfl rfl (by decide) (vc_266e 0 S0_ hI_ ) rfl (fun xx13_ Sx8_ px11_ => ?_) (fun u_ Sx8_ px11_ => ?_)
    · obtain ⟨px11m, hIx9_, hFx10_, px11_⟩ := px11_
      refine Or.inr ⟨_, _, rfl, by first | exact px11m | (simp only [List.mem_cons, List.not_mem_nil, or_false] at px11m ⊢; omega), hIx9_, ai_fr_tr hF_ (fr_le hFx10_ rfl), ?_⟩
      first | exact px11_.2 | exact px11_ | rfl
    · exact absurd rfl px11_.2.2.2.1
  · have cx7_ : ¬ (wh_ < 0) := of_decide_eq_false cx7_
    refine sm_T_go 2 (c1 := (13, [some (.inr (.inr (some (12, 0)))), some (.inl kk_), some (.inl wh_), some (.inr (.inr (some (2, kk_.toNat)))), none], [.inl 7, .inl wh_], S0_)) rfl ?_
    refine sm_T_br (a := 4) (z := 7) rfl (fun cx14_ => ?_) (fun cx14_ => ?_)
    · have cx14_ : 7 < wh_ := of_decide_eq_true cx14_
      refine sm_T_go 1 (c1 := (21, [some (.inr (.inr (some (12, 0)))), some (.inl kk_), some (.inl wh_), some (.inr (.inr (some (2, kk_.toNat)))), none], [.inl 0], S0_)) rfl ?_
      refine sm_T_cale (d1_ := 0) (Q1_ := vq_266e 0 S0_) (Q2_ := (fun ex_ S1_ => ex_ ∈ ([1] : List Nat) ∧ vx_266e 0 S0_ S1_)) rfl rfl (by decide) (vc_266e 0 S0_ hI_ ) rfl (fun xx20_ Sx15_ px18_ => ?_) (fun u_ Sx15_ px18_ => ?_)
      · obtain ⟨px18m, hIx16_, hFx17_, px18_⟩ := px18_
        refine Or.inr ⟨_, _, rfl, by first | exact px18m | (simp only [List.mem_cons, List.not_mem_nil, or_false] at px18m ⊢; omega), hIx16_, ai_fr_tr hF_ (fr_le hFx17_ rfl), ?_⟩
        first | exact px18_.2 | exact px18_ | rfl
      · exact absurd rfl px18_.2.2.2.1
    · have cx14_ : ¬ (7 < wh_) := of_decide_eq_false cx14_
      refine sm_T_go 2 (c1 := (21, [some (.inr (.inr (some (12, 0)))), some (.inl kk_), some (.inl wh_), some (.inr (.inr (some (2, kk_.toNat)))), none], [.inl 1], S0_)) rfl ?_
      refine sm_T_cale (d1_ := 0) (Q1_ := vq_266e 1 S0_) (Q2_ := (fun ex_ S1_ => ex_ ∈ ([1] : List Nat) ∧ vx_266e 1 S0_ S1_)) rfl rfl (by decide) (vc_266e 1 S0_ hI_ ) rfl (fun xx26_ Sx21_ px24_ => ?_) (fun u_ Sx21_ px24_ => ?_)
      · exact absurd px24_.2.2.2.1 (by decide)
      obtain ⟨rfl, -, -, px24_, rfl⟩ := px24_
      have bx27_ : 0 ≤ S0_.1 0 (0 + kk_.toNat) 1 ∧ S0_.1 0 (0 + kk_.toNat) 1 ≤ 12 := hI_.1 0 (0 + kk_.toNat) 1 rfl
      refine sm_T_go 3 (c1 := (31, [some (.inr (.inr (some (12, 0)))), some (.inl kk_), some (.inl wh_), some (.inr (.inr (some (2, kk_.toNat)))), none], [.inl (S0_.1 0 (0 + kk_.toNat) 1)], S0_)) rfl ?_
      refine sm_T_b0 (a := 5) (z := 7) rfl (fun cx28_ => ?_) (fun cx28_ => ?_)
      · have cx28_ : (S0_.1 0 (0 + kk_.toNat) 1) ≤ 0 := of_decide_eq_true cx28_
        refine sm_T_go 3 (c1 := (42, [some (.inr (.inr (some (12, 0)))), some (.inl kk_), some (.inl wh_), some (.inr (.inr (some (2, kk_.toNat)))), some (.inl 0)], [.inl wh_], S0_)) rfl ?_
        by_cases cx29_ : wh_ = 0
        · refine sm_T_sw (t := 84) rfl rfl (by rw [cx29_]; rfl) ?_
          have bx30_ : 0 ≤ S0_.1 2 kk_.toNat 8 ∧ S0_.1 2 kk_.toNat 8 ≤ 150 := hI_.1 2 kk_.toNat 8 rfl
          refine sm_T_go 2 (c1 := (88, [some (.inr (.inr (some (12, 0)))), some (.inl kk_), some (.inl wh_), some (.inr (.inr (some (2, kk_.toNat)))), some (.inl 0)], [.inl (S0_.1 2 kk_.toNat 8)], S0_)) rfl ?_
          refine sm_T_ri rfl (Or.inl ⟨_, _, rfl, _, rfl, hI_, hF_, ?_⟩)
          trivial
        by_cases cx31_ : wh_ = 1
        · refine sm_T_sw (t := 89) rfl rfl (by rw [cx31_]; rfl) ?_
          refine sm_T_go 1 (c1 := (90, [some (.inr (.inr (some (12, 0)))), some (.inl kk_), some (.inl wh_), some (.inr (.inr (some (2, kk_.toNat)))), some (.inl 0)], [.inr (.inr (some (2, kk_.toNat)))], S0_)) rfl ?_
          refine sm_T_cal (d1 := 0) (Q1 := vq_55 kk_.toNat S0_) rfl rfl (by decide) (vc_55 kk_.toNat S0_ hI_ ) (fun u_ Sx32_ px35_ => ?_)
          obtain ⟨rfl, vx37_, rfl, px35_⟩ := px35_
          refine sm_T_ri rfl (Or.inl ⟨_, _, rfl, _, rfl, hI_, hF_, ?_⟩)
          trivial
        by_cases cx38_ : wh_ = 2
        · refine sm_T_sw (t := 94) rfl rfl (by rw [cx38_]; rfl) ?_
          have bx39_ : 0 ≤ S0_.1 2 kk_.toNat 2 ∧ S0_.1 2 kk_.toNat 2 ≤ 6 := hI_.1 2 kk_.toNat 2 rfl
          refine sm_T_go 2 (c1 := (98, [some (.inr (.inr (some (12, 0)))), some (.inl kk_), some (.inl wh_), some (.inr (.inr (some (2, kk_.toNat)))), some (.inl 0)], [.inl (S0_.1 2 kk_.toNat 2)], S0_)) rfl ?_
          refine sm_T_ri rfl (Or.inl ⟨_, _, rfl, _, rfl, hI_, hF_, ?_⟩)
          trivial
        by_cases cx40_ : wh_ = 3
        · refine sm_T_sw (t := 99) rfl rfl (by rw [cx40_]; rfl) ?_
          refine sm_T_go 1 (c1 := (100, [some (.inr (.inr (some (12, 0)))), some (.inl kk_), some (.inl wh_), some (.inr (.inr (some (2, kk_.toNat)))), some (.inl 0)], [.inr (.inr (some (2, kk_.toNat)))], S0_)) rfl ?_
          refine sm_T_cal (d1 := 0) (Q1 := vq_60 kk_.toNat S0_) rfl rfl (by decide) (vc_60 kk_.toNat S0_ hI_ ) (fun u_ Sx41_ px44_ => ?_)
          obtain ⟨rfl, vx46_, rfl, px44_⟩ := px44_
          refine sm_T_ri rfl (Or.inl ⟨_, _, rfl, _, rfl, hI_, hF_, ?_⟩)
          trivial
        by_cases cx47_ : wh_ = 4
        · refine sm_T_sw (t := 104) rfl rfl (by rw [cx47_]; rfl) ?_
          refine sm_T_go 1 (c1 := (105, [some (.inr (.inr (some (12, 0)))), some (.inl kk_), some (.inl wh_), some (.inr (.inr (some (2, kk_.toNat)))), some (.inl 0)], [.inr (.inr (some (2, kk_.toNat)))], S0_)) rfl ?_
          refine sm_T_cal (d1 := 0) (Q1 := vq_56 kk_.toNat S0_) rfl rfl (by decide) (vc_56 kk_.toNat S0_ hI_ ) (fun u_ Sx48_ px51_ => ?_)
          obtain ⟨rfl, vx53_, rfl, px51_⟩ := px51_
          refine sm_T_ri rfl (Or.inl ⟨_, _, rfl, _, rfl, hI_, hF_, ?_⟩)
          trivial
        by_cases cx54_ : wh_ = 5
        · refine sm_T_sw (t := 109) rfl rfl (by rw [cx54_]; rfl) ?_
          refine sm_T_go 3 (c1 := (116, [some (.inr (.inr (some (12, 0)))), some (.inl kk_), some (.inl wh_), some (.inr (.inr (some (2, kk_.toNat)))), some (.inl 0)], [.inl (S0_.1 0 (0 + kk_.toNat) 1)], S0_)) rfl ?_
          refine sm_T_ri rfl (Or.inl ⟨_, _, rfl, _, rfl, hI_, hF_, ?_⟩)
          trivial
        by_cases cx55_ : wh_ = 6
        · refine sm_T_sw (t := 117) rfl rfl (by rw [cx55_]; rfl) ?_
          refine sm_T_go 3 (c1 := (133, [some (.inr (.inr (some (12, 0)))), some (.inl kk_), some (.inl wh_), some (.inr (.inr (some (2, kk_.toNat)))), some (.inl 0)], [.inl 0], S0_)) rfl ?_
          refine sm_T_ri rfl (Or.inl ⟨_, _, rfl, _, rfl, hI_, hF_, ?_⟩)
          trivial
        refine sm_T_sw (t := 134) rfl rfl (by (have hh_ : wh_ < 0 ∨ 7 ≤ wh_ := by omega); rcases hh_ with hh_ | hh_; (exact sm_swd (Or.inl hh_)); (exact sm_swd (Or.inr (by simp only [List.length_cons, List.length_nil]; omega)))) ?_
        refine sm_T_go 3 (c1 := (150, [some (.inr (.inr (some (12, 0)))), some (.inl kk_), some (.inl wh_), some (.inr (.inr (some (2, kk_.toNat)))), some (.inl 0)], [.inl 0], S0_)) rfl ?_
        refine sm_T_ri rfl (Or.inl ⟨_, _, rfl, _, rfl, hI_, hF_, ?_⟩)
        trivial
      · have cx28_ : ¬ ((S0_.1 0 (0 + kk_.toNat) 1) ≤ 0) := of_decide_eq_false cx28_
        refine sm_T_go 4 (c1 := (42, [some (.inr (.inr (some (12, 0)))), some (.inl kk_), some (.inl wh_), some (.inr (.inr (some (2, kk_.toNat)))), some (.inl 1)], [.inl wh_], S0_)) rfl ?_
        by_cases cx56_ : wh_ = 0
        · refine sm_T_sw (t := 84) rfl rfl (by rw [cx56_]; rfl) ?_
          have bx57_ : 0 ≤ S0_.1 2 kk_.toNat 8 ∧ S0_.1 2 kk_.toNat 8 ≤ 150 := hI_.1 2 kk_.toNat 8 rfl
          refine sm_T_go 2 (c1 := (88, [some (.inr (.inr (some (12, 0)))), some (.inl kk_), some (.inl wh_), some (.inr (.inr (some (2, kk_.toNat)))), some (.inl 1)], [.inl (S0_.1 2 kk_.toNat 8)], S0_)) rfl ?_
          refine sm_T_ri rfl (Or.inl ⟨_, _, rfl, _, rfl, hI_, hF_, ?_⟩)
          trivial
        by_cases cx58_ : wh_ = 1
        · refine sm_T_sw (t := 89) rfl rfl (by rw [cx58_]; rfl) ?_
          refine sm_T_go 1 (c1 := (90, [some (.inr (.inr (some (12, 0)))), some (.inl kk_), some (.inl wh_), some (.inr (.inr (some (2, kk_.toNat)))), some (.inl 1)], [.inr (.inr (some (2, kk_.toNat)))], S0_)) rfl ?_
          refine sm_T_cal (d1 := 0) (Q1 := vq_55 kk_.toNat S0_) rfl rfl (by decide) (vc_55 kk_.toNat S0_ hI_ ) (fun u_ Sx59_ px62_ => ?_)
          obtain ⟨rfl, vx64_, rfl, px62_⟩ := px62_
          refine sm_T_ri rfl (Or.inl ⟨_, _, rfl, _, rfl, hI_, hF_, ?_⟩)
          trivial
        by_cases cx65_ : wh_ = 2
        · refine sm_T_sw (t := 94) rfl rfl (by rw [cx65_]; rfl) ?_
          have bx66_ : 0 ≤ S0_.1 2 kk_.toNat 2 ∧ S0_.1 2 kk_.toNat 2 ≤ 6 := hI_.1 2 kk_.toNat 2 rfl
          refine sm_T_go 2 (c1 := (98, [some (.inr (.inr (some (12, 0)))), some (.inl kk_), some (.inl wh_), some (.inr (.inr (some (2, kk_.toNat)))), some (.inl 1)], [.inl (S0_.1 2 kk_.toNat 2)], S0_)) rfl ?_
          refine sm_T_ri rfl (Or.inl ⟨_, _, rfl, _, rfl, hI_, hF_, ?_⟩)
          trivial
        by_cases cx67_ : wh_ = 3
        · refine sm_T_sw (t := 99) rfl rfl (by rw [cx67_]; rfl) ?_
          refine sm_T_go 1 (c1 := (100, [some (.inr (.inr (some (12, 0)))), some (.inl kk_), some (.inl wh_), some (.inr (.inr (some (2, kk_.toNat)))), some (.inl 1)], [.inr (.inr (some (2, kk_.toNat)))], S0_)) rfl ?_
          refine sm_T_cal (d1 := 0) (Q1 := vq_60 kk_.toNat S0_) rfl rfl (by decide) (vc_60 kk_.toNat S0_ hI_ ) (fun u_ Sx68_ px71_ => ?_)
          obtain ⟨rfl, vx73_, rfl, px71_⟩ := px71_
          refine sm_T_ri rfl (Or.inl ⟨_, _, rfl, _, rfl, hI_, hF_, ?_⟩)
          trivial
        by_cases cx74_ : wh_ = 4
        · refine sm_T_sw (t := 104) rfl rfl (by rw [cx74_]; rfl) ?_
          refine sm_T_go 1 (c1 := (105, [some (.inr (.inr (some (12, 0)))), some (.inl kk_), some (.inl wh_), some (.inr (.inr (some (2, kk_.toNat)))), some (.inl 1)], [.inr (.inr (some (2, kk_.toNat)))], S0_)) rfl ?_
          refine sm_T_cal (d1 := 0) (Q1 := vq_56 kk_.toNat S0_) rfl rfl (by decide) (vc_56 kk_.toNat S0_ hI_ ) (fun u_ Sx75_ px78_ => ?_)
          obtain ⟨rfl, vx80_, rfl, px78_⟩ := px78_
          refine sm_T_ri rfl (Or.inl ⟨_, _, rfl, _, rfl, hI_, hF_, ?_⟩)
          trivial
        by_cases cx81_ : wh_ = 5
        · refine sm_T_sw (t := 109) rfl rfl (by rw [cx81_]; rfl) ?_
          refine sm_T_go 3 (c1 := (116, [some (.inr (.inr (some (12, 0)))), some (.inl kk_), some (.inl wh_), some (.inr (.inr (some (2, kk_.toNat)))), some (.inl 1)], [.inl (S0_.1 0 (0 + kk_.toNat) 1)], S0_)) rfl ?_
          refine sm_T_ri rfl (Or.inl ⟨_, _, rfl, _, rfl, hI_, hF_, ?_⟩)
          trivial
        by_cases cx82_ : wh_ = 6
        · refine sm_T_sw (t := 117) rfl rfl (by rw [cx82_]; rfl) ?_
          have bx83_ : 0 ≤ S0_.1 0 (0 + kk_.toNat) 2 ∧ S0_.1 0 (0 + kk_.toNat) 2 ≤ 38 := hI_.1 0 (0 + kk_.toNat) 2 rfl
          refine sm_T_go 6 (c1 := (133, [some (.inr (.inr (some (12, 0)))), some (.inl kk_), some (.inl wh_), some (.inr (.inr (some (2, kk_.toNat)))), some (.inl 1)], [.inl (S0_.1 0 (0 + kk_.toNat) 2)], S0_)) rfl ?_
          refine sm_T_ri rfl (Or.inl ⟨_, _, rfl, _, rfl, hI_, hF_, ?_⟩)
          trivial
        refine sm_T_sw (t := 134) rfl rfl (by (have hh_ : wh_ < 0 ∨ 7 ≤ wh_ := by omega); rcases hh_ with hh_ | hh_; (exact sm_swd (Or.inl hh_)); (exact sm_swd (Or.inr (by simp only [List.length_cons, List.length_nil]; omega)))) ?_
        have bx84_ : 0 ≤ S0_.1 0 (0 + kk_.toNat) 0 ∧ S0_.1 0 (0 + kk_.toNat) 0 ≤ 60 := hI_.1 0 (0 + kk_.toNat) 0 rfl
        refine sm_T_go 6 (c1 := (150, [some (.inr (.inr (some (12, 0)))), some (.inl kk_), some (.inl wh_), some (.inr (.inr (some (2, kk_.toNat)))), some (.inl 1)], [.inl (S0_.1 0 (0 + kk_.toNat) 0)], S0_)) rfl ?_
        refine sm_T_ri rfl (Or.inl ⟨_, _, rfl, _, rfl, hI_, hF_, ?_⟩)
        trivial
end
/-! 99.zp1b -/
section
/-! ChipFlow.gate -/
def vw_232 : sx_Wl := ([], [], [])
def vq_232 (kk_ : Int) (g_ : Int) (wh_ : Int) (S0_ : sm_S) (u_ : Option sm_V) (S1_ : sm_S) : Prop := ∃ v_ : Int, u_ = some (.inl v_) ∧ gi S1_ ∧ ai_fr (sx_W vw_232) S0_ S1_ ∧ (True)
def vx_232 (kk_ : Int) (g_ : Int) (wh_ : Int) (S0_ : sm_S) (S1_ : sm_S) : Prop := gi S1_ ∧ ai_fr (sx_W vw_232) S0_ S1_ ∧ (S1_ = S0_)
set_option maxHeartbeats 400000 in
theorem vc_232 {sc_ : Nat × (Nat → Int)} (kk_ : Int) (g_ : Int) (wh_ : Int) (S0_ : sm_S) (hI_ : gi S0_) (hJ_ : jC S0_) : sm_T (mt_P sc_) 2 232 (0, [some (.inr (.inr (some (12, 0)))), some (.inl kk_), some (.inl g_), some (.inl wh_), none], [], S0_) (fun ro9_ => (∃ u_ S1_, ro9_ = (.inl u_, S1_, 0) ∧ vq_232 kk_ g_ wh_ S0_ u_ S1_) ∨ ∃ ex_ S1_, ro9_ = (.inr ex_, S1_, 1) ∧ ex_ ∈ ([0, 1] : List Nat) ∧ vx_232 kk_ g_ wh_ S0_ S1_) := by
  have hF_ : ai_fr (sx_W vw_232) S0_ S0_ := ai_fr_rf
  refine sm_T_go 2 (c1 := (2, [some (.inr (.inr (some (12, 0)))), some (.inl kk_), some (.inl g_), some (.inl wh_), none], [.inl kk_, .inr (.inr (some (12, 0)))], S0_)) rfl ?_
  refine sm_T_cale (d1_ := 1) (Q1_ := vq_272 kk_ S0_) (Q2_ := (fun ex_ S1_ => ex_ ∈ ([0] : List Nat) ∧ vx_272 kk_ S0_ S1_)) rfl rfl (by decide) (vc_272 kk_ S0_ hI_ ) rfl (fun xx6_ Sx1_ px4_ => ?_) (fun u_ Sx1_ px4_ => ?_)
  · obtain ⟨px4m, hIx2_, hFx3_, px4_⟩ := px4_
    refine Or.inr ⟨_, _, rfl, by first | exact px4m | (simp only [List.mem_cons, List.not_mem_nil, or_false] at px4m ⊢; omega), hIx2_, ai_fr_tr hF_ (fr_le hFx3_ rfl), ?_⟩
    first | exact px4_.2 | exact px4_ | rfl
  obtain ⟨rfl, -, -, rfl, px4_⟩ := px4_
  have a9_ := px4_
  have J9_ := hJ_.2.1 kk_.toNat (by omega) a9_.2
  have J1_ := J9_.1
  have q9_ := a9_.2
  have c8_ : 0 ≤ S0_.1 2 (kk_.toNat) 8 ∧ S0_.1 2 (kk_.toNat) 8 ≤ 150 := hI_.1 2 (kk_.toNat) 8 rfl
  refine sm_T_go 2 (c1 := (8, [some (.inr (.inr (some (12, 0)))), some (.inl kk_), some (.inl g_), some (.inl wh_), some (.inr (.inr (some (2, kk_.toNat))))], [.inl g_], S0_)) rfl ?_
  refine sm_T_b0 (a := 2) (z := 16) rfl (fun cx7_ => ?_) (fun cx7_ => ?_)
  · have cx7_ : g_ < 0 := of_decide_eq_true cx7_
    refine sm_T_go 1 (c1 := (25, [some (.inr (.inr (some (12, 0)))), some (.inl kk_), some (.inl g_), some (.inl wh_), some (.inr (.inr (some (2, kk_.toNat))))], [.inl 0], S0_)) rfl ?_
    refine sm_T_cale (d1_ := 0) (Q1_ := vq_265e 0 S0_) (Q2_ := (fun ex_ S1_ => ex_ ∈ ([0] : List Nat) ∧ vx_265e 0 S0_ S1_)) rfl rfl (by decide) (vc_265e 0 S0_ hI_ ) rfl (fun xx13_ Sx8_ px11_ => ?_) (fun u_ Sx8_ px11_ => ?_)
    · obtain ⟨px11m, hIx9_, hFx10_, px11_⟩ := px11_
      refine Or.inr ⟨_, _, rfl, by first | exact px11m | (simp only [List.mem_cons, List.not_mem_nil, or_false] at px11m ⊢; omega), hIx9_, ai_fr_tr hF_ (fr_le hFx10_ rfl), ?_⟩
      first | exact px11_.2 | exact px11_ | rfl
    · exact absurd rfl px11_.2.2.2.1
  · have cx7_ : ¬ (g_ < 0) := of_decide_eq_false cx7_
    have bx14_ : 0 ≤ S0_.1 2 kk_.toNat 8 ∧ S0_.1 2 kk_.toNat 8 ≤ 150 := hI_.1 2 kk_.toNat 8 rfl
    refine sm_T_go 3 (c1 := (17, [some (.inr (.inr (some (12, 0)))), some (.inl kk_), some (.inl g_), some (.inl wh_), some (.inr (.inr (some (2, kk_.toNat))))], [.inl (S0_.1 2 kk_.toNat 8), .inl g_], S0_)) rfl ?_
    refine sm_T_br (a := 3) (z := 7) rfl (fun cx15_ => ?_) (fun cx15_ => ?_)
    · have cx15_ : (S0_.1 2 kk_.toNat 8) ≤ g_ := of_decide_eq_true cx15_
      refine sm_T_go 1 (c1 := (25, [some (.inr (.inr (some (12, 0)))), some (.inl kk_), some (.inl g_), some (.inl wh_), some (.inr (.inr (some (2, kk_.toNat))))], [.inl 0], S0_)) rfl ?_
      refine sm_T_cale (d1_ := 0) (Q1_ := vq_265e 0 S0_) (Q2_ := (fun ex_ S1_ => ex_ ∈ ([0] : List Nat) ∧ vx_265e 0 S0_ S1_)) rfl rfl (by decide) (vc_265e 0 S0_ hI_ ) rfl (fun xx21_ Sx16_ px19_ => ?_) (fun u_ Sx16_ px19_ => ?_)
      · obtain ⟨px19m, hIx17_, hFx18_, px19_⟩ := px19_
        refine Or.inr ⟨_, _, rfl, by first | exact px19m | (simp only [List.mem_cons, List.not_mem_nil, or_false] at px19m ⊢; omega), hIx17_, ai_fr_tr hF_ (fr_le hFx18_ rfl), ?_⟩
        first | exact px19_.2 | exact px19_ | rfl
      · exact absurd rfl px19_.2.2.2.1
    · have cx15_ : ¬ ((S0_.1 2 kk_.toNat 8) ≤ g_) := of_decide_eq_false cx15_
      refine sm_T_go 2 (c1 := (25, [some (.inr (.inr (some (12, 0)))), some (.inl kk_), some (.inl g_), some (.inl wh_), some (.inr (.inr (some (2, kk_.toNat))))], [.inl 1], S0_)) rfl ?_
      refine sm_T_cale (d1_ := 0) (Q1_ := vq_265e 1 S0_) (Q2_ := (fun ex_ S1_ => ex_ ∈ ([0] : List Nat) ∧ vx_265e 1 S0_ S1_)) rfl rfl (by decide) (vc_265e 1 S0_ hI_ ) rfl (fun xx27_ Sx22_ px25_ => ?_) (fun u_ Sx22_ px25_ => ?_)
      · exact absurd px25_.2.2.2.1 (by decide)
      obtain ⟨rfl, -, -, px25_, rfl⟩ := px25_
      refine sm_T_go 1 (c1 := (29, [some (.inr (.inr (some (12, 0)))), some (.inl kk_), some (.inl g_), some (.inl wh_), some (.inr (.inr (some (2, kk_.toNat))))], [.inl wh_], S0_)) rfl ?_
      refine sm_T_b0 (a := 2) (z := 12) rfl (fun cx28_ => ?_) (fun cx28_ => ?_)
      · have cx28_ : wh_ < 0 := of_decide_eq_true cx28_
        refine sm_T_go 1 (c1 := (42, [some (.inr (.inr (some (12, 0)))), some (.inl kk_), some (.inl g_), some (.inl wh_), some (.inr (.inr (some (2, kk_.toNat))))], [.inl 0], S0_)) rfl ?_
        refine sm_T_cale (d1_ := 0) (Q1_ := vq_266e 0 S0_) (Q2_ := (fun ex_ S1_ => ex_ ∈ ([1] : List Nat) ∧ vx_266e 0 S0_ S1_)) rfl rfl (by decide) (vc_266e 0 S0_ hI_ ) rfl (fun xx34_ Sx29_ px32_ => ?_) (fun u_ Sx29_ px32_ => ?_)
        · obtain ⟨px32m, hIx30_, hFx31_, px32_⟩ := px32_
          refine Or.inr ⟨_, _, rfl, by first | exact px32m | (simp only [List.mem_cons, List.not_mem_nil, or_false] at px32m ⊢; omega), hIx30_, ai_fr_tr hF_ (fr_le hFx31_ rfl), ?_⟩
          first | exact px32_.2 | exact px32_ | rfl
        · exact absurd rfl px32_.2.2.2.1
      · have cx28_ : ¬ (wh_ < 0) := of_decide_eq_false cx28_
        refine sm_T_go 2 (c1 := (34, [some (.inr (.inr (some (12, 0)))), some (.inl kk_), some (.inl g_), some (.inl wh_), some (.inr (.inr (some (2, kk_.toNat))))], [.inl 4, .inl wh_], S0_)) rfl ?_
        refine sm_T_br (a := 4) (z := 7) rfl (fun cx35_ => ?_) (fun cx35_ => ?_)
        · have cx35_ : 4 < wh_ := of_decide_eq_true cx35_
          refine sm_T_go 1 (c1 := (42, [some (.inr (.inr (some (12, 0)))), some (.inl kk_), some (.inl g_), some (.inl wh_), some (.inr (.inr (some (2, kk_.toNat))))], [.inl 0], S0_)) rfl ?_
          refine sm_T_cale (d1_ := 0) (Q1_ := vq_266e 0 S0_) (Q2_ := (fun ex_ S1_ => ex_ ∈ ([1] : List Nat) ∧ vx_266e 0 S0_ S1_)) rfl rfl (by decide) (vc_266e 0 S0_ hI_ ) rfl (fun xx41_ Sx36_ px39_ => ?_) (fun u_ Sx36_ px39_ => ?_)
          · obtain ⟨px39m, hIx37_, hFx38_, px39_⟩ := px39_
            refine Or.inr ⟨_, _, rfl, by first | exact px39m | (simp only [List.mem_cons, List.not_mem_nil, or_false] at px39m ⊢; omega), hIx37_, ai_fr_tr hF_ (fr_le hFx38_ rfl), ?_⟩
            first | exact px39_.2 | exact px39_ | rfl
          · exact absurd rfl px39_.2.2.2.1
        · have cx35_ : ¬ (4 < wh_) := of_decide_eq_false cx35_
          refine sm_T_go 2 (c1 := (42, [some (.inr (.inr (some (12, 0)))), some (.inl kk_), some (.inl g_), some (.inl wh_), some (.inr (.inr (some (2, kk_.toNat))))], [.inl 1], S0_)) rfl ?_
          refine sm_T_cale (d1_ := 0) (Q1_ := vq_266e 1 S0_) (Q2_ := (fun ex_ S1_ => ex_ ∈ ([1] : List Nat) ∧ vx_266e 1 S0_ S1_)) rfl rfl (by decide) (vc_266e 1 S0_ hI_ ) rfl (fun xx47_ Sx42_ px45_ => ?_) (fun u_ Sx42_ px45_ => ?_)
          · exact absurd px45_.2.2.2.1 (by decide)
          obtain ⟨rfl, -, -, px45_, rfl⟩ := px45_
          refine sm_T_go 1 (c1 := (46, [some (.inr (.inr (some (12, 0)))), some (.inl kk_), some (.inl g_), some (.inl wh_), some (.inr (.inr (some (2, kk_.toNat))))], [.inl wh_], S0_)) rfl ?_
          refine sm_T_b0 (a := 1) (z := 11) rfl (fun cx48_ => ?_) (fun cx48_ => ?_)
          · have cx48_ : wh_ ≠ 0 := of_decide_eq_true cx48_
            refine sm_T_go 2 (c1 := (59, [some (.inr (.inr (some (12, 0)))), some (.inl kk_), some (.inl g_), some (.inl wh_), some (.inr (.inr (some (2, kk_.toNat))))], [.inl 4, .inl wh_], S0_)) rfl ?_
            refine sm_T_br (a := 1) (z := 11) rfl (fun cx49_ => ?_) (fun cx49_ => ?_)
            · have cx49_ : wh_ ≠ 4 := of_decide_eq_true cx49_
              refine sm_T_go 3 (c1 := (74, [some (.inr (.inr (some (12, 0)))), some (.inl kk_), some (.inl g_), some (.inl wh_), some (.inr (.inr (some (2, kk_.toNat))))], [.inl g_, .inr (.inr (some (2, kk_.toNat))), .inl wh_], S0_)) rfl ?_
              refine sm_T_cal (d1 := 0) (Q1 := vq_59 g_ kk_.toNat S0_) rfl rfl (by decide) (vc_59 g_ kk_.toNat S0_ hI_ (by omega)) (fun u_ Sx50_ px53_ => ?_)
              obtain ⟨rfl, vx55_, rfl, px53_⟩ := px53_
              refine sm_T_br (a := 4) (z := 19) rfl (fun cx56_ => ?_) (fun cx56_ => ?_)
              · have cx56_ : vx55_ < wh_ := of_decide_eq_true cx56_
                refine sm_T_go 1 (c1 := (97, [some (.inr (.inr (some (12, 0)))), some (.inl kk_), some (.inl g_), some (.inl wh_), some (.inr (.inr (some (2, kk_.toNat))))], [.inl (-1)], S0_)) rfl ?_
                refine sm_T_ri rfl (Or.inl ⟨_, _, rfl, _, rfl, hI_, hF_, ?_⟩)
                trivial
              · have cx56_ : ¬ (vx55_ < wh_) := of_decide_eq_false cx56_
                refine sm_T_go 4 (c1 := (87, [some (.inr (.inr (some (12, 0)))), some (.inl kk_), some (.inl g_), some (.inl wh_), some (.inr (.inr (some (2, kk_.toNat))))], [.inl g_, .inl 3, .inr (.inr (some (36, (0 + kk_.toNat))))], S0_)) rfl ?_
                refine sm_T_bin (w := 3 * g_) rfl (bi_mul (by omega) (by omega) (by omega)) ?_ -- pc_ 87
                refine sm_T_go 1 (c1 := (89, [some (.inr (.inr (some (12, 0)))), some (.inl kk_), some (.inl g_), some (.inl wh_), some (.inr (.inr (some (2, kk_.toNat))))], [.inl wh_, .inl (3 * g_), .inr (.inr (some (36, (0 + kk_.toNat))))], S0_)) rfl ?_
                refine sm_T_bin (w := 3 * g_ + wh_) rfl (bi_add (by omega) (by omega) (by omega)) ?_ -- pc_ 89
                refine sm_T_go 1 (c1 := (91, [some (.inr (.inr (some (12, 0)))), some (.inl kk_), some (.inl g_), some (.inl wh_), some (.inr (.inr (some (2, kk_.toNat))))], [.inl 1, .inl (3 * g_ + wh_), .inr (.inr (some (36, (0 + kk_.toNat))))], S0_)) rfl ?_
                refine sm_T_bin (w := 3 * g_ + wh_ - 1) rfl (bi_sub (by omega) (by omega) (by omega)) ?_ -- pc_ 91
                refine sm_T_iald (n := 450) rfl rfl (by omega) (by omega) ?_
                have bx57_ : 0 ≤ S0_.2.2.1 36 (0 + kk_.toNat) (3 * g_ + wh_ - 1).toNat ∧ S0_.2.2.1 36 (0 + kk_.toNat) (3 * g_ + wh_ - 1).toNat ≤ 161 := hI_.2 36 (0 + kk_.toNat) _
                refine sm_T_go 1 (c1 := (97, [some (.inr (.inr (some (12, 0)))), some (.inl kk_), some (.inl g_), some (.inl wh_), some (.inr (.inr (some (2, kk_.toNat))))], [.inl (S0_.2.2.1 36 (0 + kk_.toNat) (3 * g_ + wh_ - 1).toNat)], S0_)) rfl ?_
                refine sm_T_ri rfl (Or.inl ⟨_, _, rfl, _, rfl, hI_, hF_, ?_⟩)
                trivial
            · have cx49_ : ¬ (wh_ ≠ 4) := of_decide_eq_false cx49_
              refine sm_T_go 1 (c1 := (64, [some (.inr (.inr (some (12, 0)))), some (.inl kk_), some (.inl g_), some (.inl wh_), some (.inr (.inr (some (2, kk_.toNat))))], [.inr (.inr (some (2, kk_.toNat)))], S0_)) rfl ?_
              refine sm_T_cal (d1 := 0) (Q1 := vq_54 kk_.toNat S0_) rfl rfl (by decide) (vc_54 kk_.toNat S0_ hI_ ) (fun u_ Sx58_ px61_ => ?_)
              obtain ⟨rfl, vx63_, rfl, px61_⟩ := px61_
              refine sm_T_go 1 (c1 := (68, [some (.inr (.inr (some (12, 0)))), some (.inl kk_), some (.inl g_), some (.inl wh_), some (.inr (.inr (some (2, kk_.toNat))))], [.inl g_, .inl vx63_], S0_)) rfl ?_
              refine sm_T_bin (w := vx63_ + g_) rfl (bi_add (by omega) (by omega) (by omega)) ?_ -- pc_ 68
              refine sm_T_ri rfl (Or.inl ⟨_, _, rfl, _, rfl, hI_, hF_, ?_⟩)
              trivial
          · have cx48_ : ¬ (wh_ ≠ 0) := of_decide_eq_false cx48_
            refine sm_T_go 3 (c1 := (55, [some (.inr (.inr (some (12, 0)))), some (.inl kk_), some (.inl g_), some (.inl wh_), some (.inr (.inr (some (2, kk_.toNat))))], [.inl g_, .inr (.inr (some (35, (0 + kk_.toNat))))], S0_)) rfl ?_
            refine sm_T_iald (n := 150) rfl rfl (by omega) (by omega) ?_
            have bx64_ : 0 ≤ S0_.2.2.1 35 (0 + kk_.toNat) g_.toNat ∧ S0_.2.2.1 35 (0 + kk_.toNat) g_.toNat ≤ 11 := hI_.2 35 (0 + kk_.toNat) _
            refine sm_T_ri rfl (Or.inl ⟨_, _, rfl, _, rfl, hI_, hF_, ?_⟩)
            trivial
end
/-! 99.zp1c -/
section
/-! ChipFlow.netOf -/
def vw_233 : sx_Wl := ([], [], [])
def vq_233 (kk_ : Int) (k_ : Int) (nx_ : Int) (S0_ : sm_S) (u_ : Option sm_V) (S1_ : sm_S) : Prop := ∃ v_ : Int, u_ = some (.inl v_) ∧ gi S1_ ∧ ai_fr (sx_W vw_233) S0_ S1_ ∧ (True)
def vx_233 (kk_ : Int) (k_ : Int) (nx_ : Int) (S0_ : sm_S) (S1_ : sm_S) : Prop := gi S1_ ∧ ai_fr (sx_W vw_233) S0_ S1_ ∧ (S1_ = S0_)
set_option maxHeartbeats 400000 in
theorem vc_233 {sc_ : Nat × (Nat → Int)} (kk_ : Int) (k_ : Int) (nx_ : Int) (S0_ : sm_S) (hI_ : gi S0_) (hJ_ : jC S0_) : sm_T (mt_P sc_) 2 233 (0, [some (.inr (.inr (some (12, 0)))), some (.inl kk_), some (.inl k_), some (.inl nx_), none], [], S0_) (fun ro9_ => (∃ u_ S1_, ro9_ = (.inl u_, S1_, 0) ∧ vq_233 kk_ k_ nx_ S0_ u_ S1_) ∨ ∃ ex_ S1_, ro9_ = (.inr ex_, S1_, 1) ∧ ex_ ∈ ([0] : List Nat) ∧ vx_233 kk_ k_ nx_ S0_ S1_) := by
  have hF_ : ai_fr (sx_W vw_233) S0_ S0_ := ai_fr_rf
  refine sm_T_go 2 (c1 := (2, [some (.inr (.inr (some (12, 0)))), some (.inl kk_), some (.inl k_), some (.inl nx_), none], [.inl kk_, .inr (.inr (some (12, 0)))], S0_)) rfl ?_
  refine sm_T_cale (d1_ := 1) (Q1_ := vq_272 kk_ S0_) (Q2_ := (fun ex_ S1_ => ex_ ∈ ([0] : List Nat) ∧ vx_272 kk_ S0_ S1_)) rfl rfl (by decide) (vc_272 kk_ S0_ hI_ ) rfl (fun xx6_ Sx1_ px4_ => ?_) (fun u_ Sx1_ px4_ => ?_)
  · obtain ⟨px4m, hIx2_, hFx3_, px4_⟩ := px4_
    refine Or.inr ⟨_, _, rfl, by first | exact px4m | (simp only [List.mem_cons, List.not_mem_nil, or_false] at px4m ⊢; omega), hIx2_, ai_fr_tr hF_ (fr_le hFx3_ rfl), ?_⟩
    first | exact px4_.2 | exact px4_ | rfl
  obtain ⟨rfl, -, -, rfl, px4_⟩ := px4_
  have a9_ := px4_
  have J9_ := hJ_.2.1 kk_.toNat (by omega) a9_.2
  have J1_ := J9_.1
  have q9_ := a9_.2
  have c8_ : 0 ≤ S0_.1 2 (kk_.toNat) 8 ∧ S0_.1 2 (kk_.toNat) 8 ≤ 150 := hI_.1 2 (kk_.toNat) 8 rfl
  refine sm_T_go 2 (c1 := (8, [some (.inr (.inr (some (12, 0)))), some (.inl kk_), some (.inl k_), some (.inl nx_), some (.inr (.inr (some (2, kk_.toNat))))], [.inl k_], S0_)) rfl ?_
  refine sm_T_b0 (a := 2) (z := 28) rfl (fun cx7_ => ?_) (fun cx7_ => ?_)
  · have cx7_ : k_ < 0 := of_decide_eq_true cx7_
    refine sm_T_go 1 (c1 := (37, [some (.inr (.inr (some (12, 0)))), some (.inl kk_), some (.inl k_), some (.inl nx_), some (.inr (.inr (some (2, kk_.toNat))))], [.inl 0], S0_)) rfl ?_
    refine sm_T_cale (d1_ := 0) (Q1_ := vq_265e 0 S0_) (Q2_ := (fun ex_ S1_ => ex_ ∈ ([0] : List Nat) ∧ vx_265e 0 S0_ S1_)) rfl rfl (by decide) (vc_265e 0 S0_ hI_ ) rfl (fun xx13_ Sx8_ px11_ => ?_) (fun u_ Sx8_ px11_ => ?_)
    · obtain ⟨px11m, hIx9_, hFx10_, px11_⟩ := px11_
      refine Or.inr ⟨_, _, rfl, by first | exact px11m | (simp only [List.mem_cons, List.not_mem_nil, or_false] at px11m ⊢; omega), hIx9_, ai_fr_tr hF_ (fr_le hFx10_ rfl), ?_⟩
      first | exact px11_.2 | exact px11_ | rfl
    · exact absurd rfl px11_.2.2.2.1
  · have cx7_ : ¬ (k_ < 0) := of_decide_eq_false cx7_
    refine sm_T_go 2 (c1 := (13, [some (.inr (.inr (some (12, 0)))), some (.inl kk_), some (.inl k_), some (.inl nx_), some (.inr (.inr (some (2, kk_.toNat))))], [.inl nx_, .inl k_], S0_)) rfl ?_
    refine sm_T_b0 (a := 0) (z := 11) rfl (fun cx14_ => ?_) (fun cx14_ => ?_)
    · have cx14_ : nx_ = 0 := of_decide_eq_true cx14_
      have bx15_ : 0 ≤ S0_.1 2 kk_.toNat 3 ∧ S0_.1 2 kk_.toNat 3 ≤ 16 := hI_.1 2 kk_.toNat 3 rfl
      refine sm_T_go 2 (c1 := (29, [some (.inr (.inr (some (12, 0)))), some (.inl kk_), some (.inl k_), some (.inl nx_), some (.inr (.inr (some (2, kk_.toNat))))], [.inl (S0_.1 2 kk_.toNat 3), .inl k_], S0_)) rfl ?_
      refine sm_T_br (a := 3) (z := 7) rfl (fun cx16_ => ?_) (fun cx16_ => ?_)
      · have cx16_ : (S0_.1 2 kk_.toNat 3) ≤ k_ := of_decide_eq_true cx16_
        refine sm_T_go 1 (c1 := (37, [some (.inr (.inr (some (12, 0)))), some (.inl kk_), some (.inl k_), some (.inl nx_), some (.inr (.inr (some (2, kk_.toNat))))], [.inl 0], S0_)) rfl ?_
        refine sm_T_cale (d1_ := 0) (Q1_ := vq_265e 0 S0_) (Q2_ := (fun ex_ S1_ => ex_ ∈ ([0] : List Nat) ∧ vx_265e 0 S0_ S1_)) rfl rfl (by decide) (vc_265e 0 S0_ hI_ ) rfl (fun xx22_ Sx17_ px20_ => ?_) (fun u_ Sx17_ px20_ => ?_)
        · obtain ⟨px20m, hIx18_, hFx19_, px20_⟩ := px20_
          refine Or.inr ⟨_, _, rfl, by first | exact px20m | (simp only [List.mem_cons, List.not_mem_nil, or_false] at px20m ⊢; omega), hIx18_, ai_fr_tr hF_ (fr_le hFx19_ rfl), ?_⟩
          first | exact px20_.2 | exact px20_ | rfl
        · exact absurd rfl px20_.2.2.2.1
      · have cx16_ : ¬ ((S0_.1 2 kk_.toNat 3) ≤ k_) := of_decide_eq_false cx16_
        refine sm_T_go 2 (c1 := (37, [some (.inr (.inr (some (12, 0)))), some (.inl kk_), some (.inl k_), some (.inl nx_), some (.inr (.inr (some (2, kk_.toNat))))], [.inl 1], S0_)) rfl ?_
        refine sm_T_cale (d1_ := 0) (Q1_ := vq_265e 1 S0_) (Q2_ := (fun ex_ S1_ => ex_ ∈ ([0] : List Nat) ∧ vx_265e 1 S0_ S1_)) rfl rfl (by decide) (vc_265e 1 S0_ hI_ ) rfl (fun xx28_ Sx23_ px26_ => ?_) (fun u_ Sx23_ px26_ => ?_)
        · exact absurd px26_.2.2.2.1 (by decide)
        obtain ⟨rfl, -, -, px26_, rfl⟩ := px26_
        refine sm_T_go 1 (c1 := (41, [some (.inr (.inr (some (12, 0)))), some (.inl kk_), some (.inl k_), some (.inl nx_), some (.inr (.inr (some (2, kk_.toNat))))], [.inl nx_], S0_)) rfl ?_
        refine sm_T_b0 (a := 0) (z := 13) rfl (fun cx29_ => ?_) (fun cx29_ => ?_)
        · have cx29_ : nx_ = 0 := of_decide_eq_true cx29_
          refine sm_T_go 3 (c1 := (60, [some (.inr (.inr (some (12, 0)))), some (.inl kk_), some (.inl k_), some (.inl nx_), some (.inr (.inr (some (2, kk_.toNat))))], [.inl k_, .inr (.inr (some (37, (0 + kk_.toNat))))], S0_)) rfl ?_
          refine sm_T_iald (n := 16) rfl rfl (by omega) (by omega) ?_
          have bx30_ : (-2) ≤ S0_.2.2.1 37 (0 + kk_.toNat) k_.toNat ∧ S0_.2.2.1 37 (0 + kk_.toNat) k_.toNat ≤ 161 := hI_.2 37 (0 + kk_.toNat) _
          refine sm_T_ri rfl (Or.inl ⟨_, _, rfl, _, rfl, hI_, hF_, ?_⟩)
          trivial
        · have cx29_ : ¬ (nx_ = 0) := of_decide_eq_false cx29_
          exfalso; omega
    · have cx14_ : ¬ (nx_ = 0) := of_decide_eq_false cx14_
      have bx31_ : 0 ≤ S0_.1 2 kk_.toNat 2 ∧ S0_.1 2 kk_.toNat 2 ≤ 6 := hI_.1 2 kk_.toNat 2 rfl
      refine sm_T_go 3 (c1 := (29, [some (.inr (.inr (some (12, 0)))), some (.inl kk_), some (.inl k_), some (.inl nx_), some (.inr (.inr (some (2, kk_.toNat))))], [.inl (S0_.1 2 kk_.toNat 2), .inl k_], S0_)) rfl ?_
      refine sm_T_br (a := 3) (z := 7) rfl (fun cx32_ => ?_) (fun cx32_ => ?_)
      · have cx32_ : (S0_.1 2 kk_.toNat 2) ≤ k_ := of_decide_eq_true cx32_
        refine sm_T_go 1 (c1 := (37, [some (.inr (.inr (some (12, 0)))), some (.inl kk_), some (.inl k_), some (.inl nx_), some (.inr (.inr (some (2, kk_.toNat))))], [.inl 0], S0_)) rfl ?_
        refine sm_T_cale (d1_ := 0) (Q1_ := vq_265e 0 S0_) (Q2_ := (fun ex_ S1_ => ex_ ∈ ([0] : List Nat) ∧ vx_265e 0 S0_ S1_)) rfl rfl (by decide) (vc_265e 0 S0_ hI_ ) rfl (fun xx38_ Sx33_ px36_ => ?_) (fun u_ Sx33_ px36_ => ?_)
        · obtain ⟨px36m, hIx34_, hFx35_, px36_⟩ := px36_
          refine Or.inr ⟨_, _, rfl, by first | exact px36m | (simp only [List.mem_cons, List.not_mem_nil, or_false] at px36m ⊢; omega), hIx34_, ai_fr_tr hF_ (fr_le hFx35_ rfl), ?_⟩
          first | exact px36_.2 | exact px36_ | rfl
        · exact absurd rfl px36_.2.2.2.1
      · have cx32_ : ¬ ((S0_.1 2 kk_.toNat 2) ≤ k_) := of_decide_eq_false cx32_
        refine sm_T_go 2 (c1 := (37, [some (.inr (.inr (some (12, 0)))), some (.inl kk_), some (.inl k_), some (.inl nx_), some (.inr (.inr (some (2, kk_.toNat))))], [.inl 1], S0_)) rfl ?_
        refine sm_T_cale (d1_ := 0) (Q1_ := vq_265e 1 S0_) (Q2_ := (fun ex_ S1_ => ex_ ∈ ([0] : List Nat) ∧ vx_265e 1 S0_ S1_)) rfl rfl (by decide) (vc_265e 1 S0_ hI_ ) rfl (fun xx44_ Sx39_ px42_ => ?_) (fun u_ Sx39_ px42_ => ?_)
        · exact absurd px42_.2.2.2.1 (by decide)
        obtain ⟨rfl, -, -, px42_, rfl⟩ := px42_
        refine sm_T_go 1 (c1 := (41, [some (.inr (.inr (some (12, 0)))), some (.inl kk_), some (.inl k_), some (.inl nx_), some (.inr (.inr (some (2, kk_.toNat))))], [.inl nx_], S0_)) rfl ?_
        refine sm_T_b0 (a := 0) (z := 13) rfl (fun cx45_ => ?_) (fun cx45_ => ?_)
        · have cx45_ : nx_ = 0 := of_decide_eq_true cx45_
          refine sm_T_go 3 (c1 := (60, [some (.inr (.inr (some (12, 0)))), some (.inl kk_), some (.inl k_), some (.inl nx_), some (.inr (.inr (some (2, kk_.toNat))))], [.inl k_, .inr (.inr (some (37, (0 + kk_.toNat))))], S0_)) rfl ?_
          refine sm_T_iald (n := 16) rfl rfl (by omega) (by omega) ?_
          have bx46_ : (-2) ≤ S0_.2.2.1 37 (0 + kk_.toNat) k_.toNat ∧ S0_.2.2.1 37 (0 + kk_.toNat) k_.toNat ≤ 161 := hI_.2 37 (0 + kk_.toNat) _
          refine sm_T_ri rfl (Or.inl ⟨_, _, rfl, _, rfl, hI_, hF_, ?_⟩)
          trivial
        · have cx45_ : ¬ (nx_ = 0) := of_decide_eq_false cx45_
          refine sm_T_go 3 (c1 := (50, [some (.inr (.inr (some (12, 0)))), some (.inl kk_), some (.inl k_), some (.inl nx_), some (.inr (.inr (some (2, kk_.toNat))))], [.inl k_, .inr (.inr (some (38, (0 + kk_.toNat))))], S0_)) rfl ?_
          refine sm_T_iald (n := 6) rfl rfl (by omega) (by omega) ?_
          have bx47_ : (-2) ≤ S0_.2.2.1 38 (0 + kk_.toNat) k_.toNat ∧ S0_.2.2.1 38 (0 + kk_.toNat) k_.toNat ≤ 161 := hI_.2 38 (0 + kk_.toNat) _
          refine sm_T_go 1 (c1 := (61, [some (.inr (.inr (some (12, 0)))), some (.inl kk_), some (.inl k_), some (.inl nx_), some (.inr (.inr (some (2, kk_.toNat))))], [.inl (S0_.2.2.1 38 (0 + kk_.toNat) k_.toNat)], S0_)) rfl ?_
          refine sm_T_ri rfl (Or.inl ⟨_, _, rfl, _, rfl, hI_, hF_, ?_⟩)
          trivial
end
/-! 99.zp1e -/
section
/-! ChipFlow.at -/
def vw_239 : sx_Wl := ([], [], [])
def vq_239 (kk_ : Int) (e_ : Int) (wh_ : Int) (S0_ : sm_S) (u_ : Option sm_V) (S1_ : sm_S) : Prop := ∃ v_ : Int, u_ = some (.inl v_) ∧ gi S1_ ∧ ai_fr (sx_W vw_239) S0_ S1_ ∧ (True)
def vx_239 (kk_ : Int) (e_ : Int) (wh_ : Int) (S0_ : sm_S) (S1_ : sm_S) : Prop := gi S1_ ∧ ai_fr (sx_W vw_239) S0_ S1_ ∧ (S1_ = S0_)
set_option maxHeartbeats 400000 in
theorem vc_239 {sc_ : Nat × (Nat → Int)} (kk_ : Int) (e_ : Int) (wh_ : Int) (S0_ : sm_S) (hI_ : gi S0_) (hJ_ : jC S0_) : sm_T (mt_P sc_) 2 239 (0, [some (.inr (.inr (some (12, 0)))), some (.inl kk_), some (.inl e_), some (.inl wh_), none], [], S0_) (fun ro9_ => (∃ u_ S1_, ro9_ = (.inl u_, S1_, 0) ∧ vq_239 kk_ e_ wh_ S0_ u_ S1_) ∨ ∃ ex_ S1_, ro9_ = (.inr ex_, S1_, 1) ∧ ex_ ∈ ([0, 1, 2] : List Nat) ∧ vx_239 kk_ e_ wh_ S0_ S1_) := by
  have hF_ : ai_fr (sx_W vw_239) S0_ S0_ := ai_fr_rf
  refine sm_T_go 2 (c1 := (2, [some (.inr (.inr (some (12, 0)))), some (.inl kk_), some (.inl e_), some (.inl wh_), none], [.inl kk_, .inr (.inr (some (12, 0)))], S0_)) rfl ?_
  refine sm_T_cale (d1_ := 1) (Q1_ := vq_272 kk_ S0_) (Q2_ := (fun ex_ S1_ => ex_ ∈ ([0] : List Nat) ∧ vx_272 kk_ S0_ S1_)) rfl rfl (by decide) (vc_272 kk_ S0_ hI_ ) rfl (fun xx6_ Sx1_ px4_ => ?_) (fun u_ Sx1_ px4_ => ?_)
  · obtain ⟨px4m, hIx2_, hFx3_, px4_⟩ := px4_
    refine Or.inr ⟨_, _, rfl, by first | exact px4m | (simp only [List.mem_cons, List.not_mem_nil, or_false] at px4m ⊢; omega), hIx2_, ai_fr_tr hF_ (fr_le hFx3_ rfl), ?_⟩
    first | exact px4_.2 | exact px4_ | rfl
  obtain ⟨rfl, -, -, rfl, px4_⟩ := px4_
  have a9_ := px4_
  have J9_ := hJ_.2.1 kk_.toNat (by omega) a9_.2
  have J1_ := J9_.1
  have q9_ := a9_.2
  have c8_ : 0 ≤ S0_.1 2 (kk_.toNat) 8 ∧ S0_.1 2 (kk_.toNat) 8 ≤ 150 := hI_.1 2 (kk_.toNat) 8 rfl
  refine sm_T_go 2 (c1 := (8, [some (.inr (.inr (some (12, 0)))), some (.inl kk_), some (.inl e_), some (.inl wh_), some (.inr (.inr (some (2, kk_.toNat))))], [.inl e_], S0_)) rfl ?_
  refine sm_T_b0 (a := 2) (z := 16) rfl (fun cx7_ => ?_) (fun cx7_ => ?_)
  · have cx7_ : e_ < 0 := of_decide_eq_true cx7_
    refine sm_T_go 1 (c1 := (25, [some (.inr (.inr (some (12, 0)))), some (.inl kk_), some (.inl e_), some (.inl wh_), some (.inr (.inr (some (2, kk_.toNat))))], [.inl 0], S0_)) rfl ?_
    refine sm_T_cale (d1_ := 0) (Q1_ := vq_265e 0 S0_) (Q2_ := (fun ex_ S1_ => ex_ ∈ ([0] : List Nat) ∧ vx_265e 0 S0_ S1_)) rfl rfl (by decide) (vc_265e 0 S0_ hI_ ) rfl (fun xx13_ Sx8_ px11_ => ?_) (fun u_ Sx8_ px11_ => ?_)
    · obtain ⟨px11m, hIx9_, hFx10_, px11_⟩ := px11_
      refine Or.inr ⟨_, _, rfl, by first | exact px11m | (simp only [List.mem_cons, List.not_mem_nil, or_false] at px11m ⊢; omega), hIx9_, ai_fr_tr hF_ (fr_le hFx10_ rfl), ?_⟩
      first | exact px11_.2 | exact px11_ | rfl
    · exact absurd rfl px11_.2.2.2.1
  · have cx7_ : ¬ (e_ < 0) := of_decide_eq_false cx7_
    refine sm_T_go 2 (c1 := (14, [some (.inr (.inr (some (12, 0)))), some (.inl kk_), some (.inl e_), some (.inl wh_), some (.inr (.inr (some (2, kk_.toNat))))], [.inr (.inr (some (2, kk_.toNat))), .inl e_], S0_)) rfl ?_
    refine sm_T_cal (d1 := 0) (Q1 := vq_56 kk_.toNat S0_) rfl rfl (by decide) (vc_56 kk_.toNat S0_ hI_ ) (fun u_ Sx14_ px17_ => ?_)
    obtain ⟨rfl, vx19_, rfl, px17_⟩ := px17_
    refine sm_T_br (a := 3) (z := 7) rfl (fun cx20_ => ?_) (fun cx20_ => ?_)
    · have cx20_ : vx19_ ≤ e_ := of_decide_eq_true cx20_
      refine sm_T_go 1 (c1 := (25, [some (.inr (.inr (some (12, 0)))), some (.inl kk_), some (.inl e_), some (.inl wh_), some (.inr (.inr (some (2, kk_.toNat))))], [.inl 0], S0_)) rfl ?_
      refine sm_T_cale (d1_ := 0) (Q1_ := vq_265e 0 S0_) (Q2_ := (fun ex_ S1_ => ex_ ∈ ([0] : List Nat) ∧ vx_265e 0 S0_ S1_)) rfl rfl (by decide) (vc_265e 0 S0_ hI_ ) rfl (fun xx26_ Sx21_ px24_ => ?_) (fun u_ Sx21_ px24_ => ?_)
      · obtain ⟨px24m, hIx22_, hFx23_, px24_⟩ := px24_
        refine Or.inr ⟨_, _, rfl, by first | exact px24m | (simp only [List.mem_cons, List.not_mem_nil, or_false] at px24m ⊢; omega), hIx22_, ai_fr_tr hF_ (fr_le hFx23_ rfl), ?_⟩
        first | exact px24_.2 | exact px24_ | rfl
      · exact absurd rfl px24_.2.2.2.1
    · have cx20_ : ¬ (vx19_ ≤ e_) := of_decide_eq_false cx20_
      refine sm_T_go 2 (c1 := (25, [some (.inr (.inr (some (12, 0)))), some (.inl kk_), some (.inl e_), some (.inl wh_), some (.inr (.inr (some (2, kk_.toNat))))], [.inl 1], S0_)) rfl ?_
      refine sm_T_cale (d1_ := 0) (Q1_ := vq_265e 1 S0_) (Q2_ := (fun ex_ S1_ => ex_ ∈ ([0] : List Nat) ∧ vx_265e 1 S0_ S1_)) rfl rfl (by decide) (vc_265e 1 S0_ hI_ ) rfl (fun xx32_ Sx27_ px30_ => ?_) (fun u_ Sx27_ px30_ => ?_)
      · exact absurd px30_.2.2.2.1 (by decide)
      obtain ⟨rfl, -, -, px30_, rfl⟩ := px30_
      refine sm_T_go 1 (c1 := (29, [some (.inr (.inr (some (12, 0)))), some (.inl kk_), some (.inl e_), some (.inl wh_), some (.inr (.inr (some (2, kk_.toNat))))], [.inl wh_], S0_)) rfl ?_
      refine sm_T_b0 (a := 0) (z := 8) rfl (fun cx33_ => ?_) (fun cx33_ => ?_)
      · have cx33_ : wh_ = 0 := of_decide_eq_true cx33_
        refine sm_T_go 2 (c1 := (42, [some (.inr (.inr (some (12, 0)))), some (.inl kk_), some (.inl e_), some (.inl wh_), some (.inr (.inr (some (2, kk_.toNat))))], [.inl 1], S0_)) rfl ?_
        refine sm_T_cale (d1_ := 0) (Q1_ := vq_266e 1 S0_) (Q2_ := (fun ex_ S1_ => ex_ ∈ ([1] : List Nat) ∧ vx_266e 1 S0_ S1_)) rfl rfl (by decide) (vc_266e 1 S0_ hI_ ) rfl (fun xx39_ Sx34_ px37_ => ?_) (fun u_ Sx34_ px37_ => ?_)
        · exact absurd px37_.2.2.2.1 (by decide)
        obtain ⟨rfl, -, -, px37_, rfl⟩ := px37_
        have bx40_ : 0 ≤ S0_.1 0 (0 + kk_.toNat) 1 ∧ S0_.1 0 (0 + kk_.toNat) 1 ≤ 12 := hI_.1 0 (0 + kk_.toNat) 1 rfl
        refine sm_T_go 3 (c1 := (53, [some (.inr (.inr (some (12, 0)))), some (.inl kk_), some (.inl e_), some (.inl wh_), some (.inr (.inr (some (2, kk_.toNat))))], [.inl (S0_.1 0 (0 + kk_.toNat) 1)], S0_)) rfl ?_
        refine sm_T_b0 (a := 5) (z := 7) rfl (fun cx41_ => ?_) (fun cx41_ => ?_)
        · have cx41_ : (S0_.1 0 (0 + kk_.toNat) 1) ≤ 0 := of_decide_eq_true cx41_
          refine sm_T_go 1 (c1 := (61, [some (.inr (.inr (some (12, 0)))), some (.inl kk_), some (.inl e_), some (.inl wh_), some (.inr (.inr (some (2, kk_.toNat))))], [.inl 0], S0_)) rfl ?_
          refine sm_T_cale (d1_ := 0) (Q1_ := vq_267e 0 S0_) (Q2_ := (fun ex_ S1_ => ex_ ∈ ([2] : List Nat) ∧ vx_267e 0 S0_ S1_)) rfl rfl (by decide) (vc_267e 0 S0_ hI_ ) rfl (fun xx47_ Sx42_ px45_ => ?_) (fun u_ Sx42_ px45_ => ?_)
          · obtain ⟨px45m, hIx43_, hFx44_, px45_⟩ := px45_
            refine Or.inr ⟨_, _, rfl, by first | exact px45m | (simp only [List.mem_cons, List.not_mem_nil, or_false] at px45m ⊢; omega), hIx43_, ai_fr_tr hF_ (fr_le hFx44_ rfl), ?_⟩
            first | exact px45_.2 | exact px45_ | rfl
          · exact absurd rfl px45_.2.2.2.1
        · have cx41_ : ¬ ((S0_.1 0 (0 + kk_.toNat) 1) ≤ 0) := of_decide_eq_false cx41_
          refine sm_T_go 2 (c1 := (61, [some (.inr (.inr (some (12, 0)))), some (.inl kk_), some (.inl e_), some (.inl wh_), some (.inr (.inr (some (2, kk_.toNat))))], [.inl 1], S0_)) rfl ?_
          refine sm_T_cale (d1_ := 0) (Q1_ := vq_267e 1 S0_) (Q2_ := (fun ex_ S1_ => ex_ ∈ ([2] : List Nat) ∧ vx_267e 1 S0_ S1_)) rfl rfl (by decide) (vc_267e 1 S0_ hI_ ) rfl (fun xx53_ Sx48_ px51_ => ?_) (fun u_ Sx48_ px51_ => ?_)
          · exact absurd px51_.2.2.2.1 (by decide)
          obtain ⟨rfl, -, -, px51_, rfl⟩ := px51_
          refine sm_T_go 1 (c1 := (65, [some (.inr (.inr (some (12, 0)))), some (.inl kk_), some (.inl e_), some (.inl wh_), some (.inr (.inr (some (2, kk_.toNat))))], [.inl wh_], S0_)) rfl ?_
          refine sm_T_b0 (a := 1) (z := 16) rfl (fun cx54_ => ?_) (fun cx54_ => ?_)
          · have cx54_ : wh_ ≠ 0 := of_decide_eq_true cx54_
            exfalso; omega
          · have cx54_ : ¬ (wh_ ≠ 0) := of_decide_eq_false cx54_
            refine sm_T_go 4 (c1 := (77, [some (.inr (.inr (some (12, 0)))), some (.inl kk_), some (.inl e_), some (.inl wh_), some (.inr (.inr (some (2, kk_.toNat))))], [.inl e_, .inr (.inr (some (14, (0 + (0 + kk_.toNat)))))], S0_)) rfl ?_
            refine sm_T_iald (n := 156) rfl rfl (by omega) (by omega) ?_
            have bx55_ : 0 ≤ S0_.2.2.1 14 (0 + (0 + kk_.toNat)) e_.toNat ∧ S0_.2.2.1 14 (0 + (0 + kk_.toNat)) e_.toNat ≤ 60 := hI_.2 14 (0 + (0 + kk_.toNat)) _
            refine sm_T_go 1 (c1 := (91, [some (.inr (.inr (some (12, 0)))), some (.inl kk_), some (.inl e_), some (.inl wh_), some (.inr (.inr (some (2, kk_.toNat))))], [.inl (S0_.2.2.1 14 (0 + (0 + kk_.toNat)) e_.toNat)], S0_)) rfl ?_
            refine sm_T_ri rfl (Or.inl ⟨_, _, rfl, _, rfl, hI_, hF_, ?_⟩)
            trivial
      · have cx33_ : ¬ (wh_ = 0) := of_decide_eq_false cx33_
        refine sm_T_go 2 (c1 := (34, [some (.inr (.inr (some (12, 0)))), some (.inl kk_), some (.inl e_), some (.inl wh_), some (.inr (.inr (some (2, kk_.toNat))))], [.inl 1, .inl wh_], S0_)) rfl ?_
        refine sm_T_br (a := 1) (z := 7) rfl (fun cx56_ => ?_) (fun cx56_ => ?_)
        · have cx56_ : wh_ ≠ 1 := of_decide_eq_true cx56_
          refine sm_T_go 1 (c1 := (42, [some (.inr (.inr (some (12, 0)))), some (.inl kk_), some (.inl e_), some (.inl wh_), some (.inr (.inr (some (2, kk_.toNat))))], [.inl 0], S0_)) rfl ?_
          refine sm_T_cale (d1_ := 0) (Q1_ := vq_266e 0 S0_) (Q2_ := (fun ex_ S1_ => ex_ ∈ ([1] : List Nat) ∧ vx_266e 0 S0_ S1_)) rfl rfl (by decide) (vc_266e 0 S0_ hI_ ) rfl (fun xx62_ Sx57_ px60_ => ?_) (fun u_ Sx57_ px60_ => ?_)
          · obtain ⟨px60m, hIx58_, hFx59_, px60_⟩ := px60_
            refine Or.inr ⟨_, _, rfl, by first | exact px60m | (simp only [List.mem_cons, List.not_mem_nil, or_false] at px60m ⊢; omega), hIx58_, ai_fr_tr hF_ (fr_le hFx59_ rfl), ?_⟩
            first | exact px60_.2 | exact px60_ | rfl
          · exact absurd rfl px60_.2.2.2.1
        · have cx56_ : ¬ (wh_ ≠ 1) := of_decide_eq_false cx56_
          refine sm_T_go 2 (c1 := (42, [some (.inr (.inr (some (12, 0)))), some (.inl kk_), some (.inl e_), some (.inl wh_), some (.inr (.inr (some (2, kk_.toNat))))], [.inl 1], S0_)) rfl ?_
          refine sm_T_cale (d1_ := 0) (Q1_ := vq_266e 1 S0_) (Q2_ := (fun ex_ S1_ => ex_ ∈ ([1] : List Nat) ∧ vx_266e 1 S0_ S1_)) rfl rfl (by decide) (vc_266e 1 S0_ hI_ ) rfl (fun xx68_ Sx63_ px66_ => ?_) (fun u_ Sx63_ px66_ => ?_)
          · exact absurd px66_.2.2.2.1 (by decide)
          obtain ⟨rfl, -, -, px66_, rfl⟩ := px66_
          have bx69_ : 0 ≤ S0_.1 0 (0 + kk_.toNat) 1 ∧ S0_.1 0 (0 + kk_.toNat) 1 ≤ 12 := hI_.1 0 (0 + kk_.toNat) 1 rfl
          refine sm_T_go 3 (c1 := (53, [some (.inr (.inr (some (12, 0)))), some (.inl kk_), some (.inl e_), some (.inl wh_), some (.inr (.inr (some (2, kk_.toNat))))], [.inl (S0_.1 0 (0 + kk_.toNat) 1)], S0_)) rfl ?_
          refine sm_T_b0 (a := 5) (z := 7) rfl (fun cx70_ => ?_) (fun cx70_ => ?_)
          · have cx70_ : (S0_.1 0 (0 + kk_.toNat) 1) ≤ 0 := of_decide_eq_true cx70_
            refine sm_T_go 1 (c1 := (61, [some (.inr (.inr (some (12, 0)))), some (.inl kk_), some (.inl e_), some (.inl wh_), some (.inr (.inr (some (2, kk_.toNat))))], [.inl 0], S0_)) rfl ?_
            refine sm_T_cale (d1_ := 0) (Q1_ := vq_267e 0 S0_) (Q2_ := (fun ex_ S1_ => ex_ ∈ ([2] : List Nat) ∧ vx_267e 0 S0_ S1_)) rfl rfl (by decide) (vc_267e 0 S0_ hI_ ) rfl (fun xx76_ Sx71_ px74_ => ?_) (fun u_ Sx71_ px74_ => ?_)
            · obtain ⟨px74m, hIx72_, hFx73_, px74_⟩ := px74_
              refine Or.inr ⟨_, _, rfl, by first | exact px74m | (simp only [List.mem_cons, List.not_mem_nil, or_false] at px74m ⊢; omega), hIx72_, ai_fr_tr hF_ (fr_le hFx73_ rfl), ?_⟩
              first | exact px74_.2 | exact px74_ | rfl
            · exact absurd rfl px74_.2.2.2.1
          · have cx70_ : ¬ ((S0_.1 0 (0 + kk_.toNat) 1) ≤ 0) := of_decide_eq_false cx70_
            refine sm_T_go 2 (c1 := (61, [some (.inr (.inr (some (12, 0)))), some (.inl kk_), some (.inl e_), some (.inl wh_), some (.inr (.inr (some (2, kk_.toNat))))], [.inl 1], S0_)) rfl ?_
            refine sm_T_cale (d1_ := 0) (Q1_ := vq_267e 1 S0_) (Q2_ := (fun ex_ S1_ => ex_ ∈ ([2] : List Nat) ∧ vx_267e 1 S0_ S1_)) rfl rfl (by decide) (vc_267e 1 S0_ hI_ ) rfl (fun xx82_ Sx77_ px80_ => ?_) (fun u_ Sx77_ px80_ => ?_)
            · exact absurd px80_.2.2.2.1 (by decide)
            obtain ⟨rfl, -, -, px80_, rfl⟩ := px80_
            refine sm_T_go 1 (c1 := (65, [some (.inr (.inr (some (12, 0)))), some (.inl kk_), some (.inl e_), some (.inl wh_), some (.inr (.inr (some (2, kk_.toNat))))], [.inl wh_], S0_)) rfl ?_
            refine sm_T_b0 (a := 1) (z := 16) rfl (fun cx83_ => ?_) (fun cx83_ => ?_)
            · have cx83_ : wh_ ≠ 0 := of_decide_eq_true cx83_
              refine sm_T_go 4 (c1 := (90, [some (.inr (.inr (some (12, 0)))), some (.inl kk_), some (.inl e_), some (.inl wh_), some (.inr (.inr (some (2, kk_.toNat))))], [.inl e_, .inr (.inr (some (15, (0 + (0 + kk_.toNat)))))], S0_)) rfl ?_
              refine sm_T_iald (n := 156) rfl rfl (by omega) (by omega) ?_
              have bx84_ : 0 ≤ S0_.2.2.1 15 (0 + (0 + kk_.toNat)) e_.toNat ∧ S0_.2.2.1 15 (0 + (0 + kk_.toNat)) e_.toNat ≤ 12 := hI_.2 15 (0 + (0 + kk_.toNat)) _
              refine sm_T_ri rfl (Or.inl ⟨_, _, rfl, _, rfl, hI_, hF_, ?_⟩)
              trivial
            · have cx83_ : ¬ (wh_ ≠ 0) := of_decide_eq_false cx83_
              exfalso; omega
end
/-! 99.zp1f -/
section
/-! ChipFlow.wire -/
def vw_242 : sx_Wl := ([], [], [])
def vq_242 (kk_ : Int) (n_ : Int) (S0_ : sm_S) (u_ : Option sm_V) (S1_ : sm_S) : Prop := ∃ v_ : Int, u_ = some (.inl v_) ∧ gi S1_ ∧ ai_fr (sx_W vw_242) S0_ S1_ ∧ (True)
def vx_242 (kk_ : Int) (n_ : Int) (S0_ : sm_S) (S1_ : sm_S) : Prop := gi S1_ ∧ ai_fr (sx_W vw_242) S0_ S1_ ∧ (S1_ = S0_)
set_option maxHeartbeats 400000 in
theorem vc_242 {sc_ : Nat × (Nat → Int)} (kk_ : Int) (n_ : Int) (S0_ : sm_S) (hI_ : gi S0_) (hJ_ : jC S0_) : sm_T (mt_P sc_) 2 242 (0, [some (.inr (.inr (some (12, 0)))), some (.inl kk_), some (.inl n_), none], [], S0_) (fun ro9_ => (∃ u_ S1_, ro9_ = (.inl u_, S1_, 0) ∧ vq_242 kk_ n_ S0_ u_ S1_) ∨ ∃ ex_ S1_, ro9_ = (.inr ex_, S1_, 1) ∧ ex_ ∈ ([0, 2] : List Nat) ∧ vx_242 kk_ n_ S0_ S1_) := by
  have hF_ : ai_fr (sx_W vw_242) S0_ S0_ := ai_fr_rf
  refine sm_T_go 2 (c1 := (2, [some (.inr (.inr (some (12, 0)))), some (.inl kk_), some (.inl n_), none], [.inl kk_, .inr (.inr (some (12, 0)))], S0_)) rfl ?_
  refine sm_T_cale (d1_ := 1) (Q1_ := vq_272 kk_ S0_) (Q2_ := (fun ex_ S1_ => ex_ ∈ ([0] : List Nat) ∧ vx_272 kk_ S0_ S1_)) rfl rfl (by decide) (vc_272 kk_ S0_ hI_ ) rfl (fun xx6_ Sx1_ px4_ => ?_) (fun u_ Sx1_ px4_ => ?_)
  · obtain ⟨px4m, hIx2_, hFx3_, px4_⟩ := px4_
    refine Or.inr ⟨_, _, rfl, by first | exact px4m | (simp only [List.mem_cons, List.not_mem_nil, or_false] at px4m ⊢; omega), hIx2_, ai_fr_tr hF_ (fr_le hFx3_ rfl), ?_⟩
    first | exact px4_.2 | exact px4_ | rfl
  obtain ⟨rfl, -, -, rfl, px4_⟩ := px4_
  have a9_ := px4_
  have J9_ := hJ_.2.1 kk_.toNat (by omega) a9_.2
  have J1_ := J9_.1
  have q9_ := a9_.2
  have c8_ : 0 ≤ S0_.1 2 (kk_.toNat) 8 ∧ S0_.1 2 (kk_.toNat) 8 ≤ 150 := hI_.1 2 (kk_.toNat) 8 rfl
  refine sm_T_go 3 (c1 := (8, [some (.inr (.inr (some (12, 0)))), some (.inl kk_), some (.inl n_), some (.inr (.inr (some (2, kk_.toNat))))], [.inl (-1), .inl n_], S0_)) rfl ?_
  refine sm_T_br (a := 2) (z := 15) rfl (fun cx7_ => ?_) (fun cx7_ => ?_)
  · have cx7_ : n_ < (-1) := of_decide_eq_true cx7_
    refine sm_T_go 1 (c1 := (24, [some (.inr (.inr (some (12, 0)))), some (.inl kk_), some (.inl n_), some (.inr (.inr (some (2, kk_.toNat))))], [.inl 0], S0_)) rfl ?_
    refine sm_T_cale (d1_ := 0) (Q1_ := vq_265e 0 S0_) (Q2_ := (fun ex_ S1_ => ex_ ∈ ([0] : List Nat) ∧ vx_265e 0 S0_ S1_)) rfl rfl (by decide) (vc_265e 0 S0_ hI_ ) rfl (fun xx13_ Sx8_ px11_ => ?_) (fun u_ Sx8_ px11_ => ?_)
    · obtain ⟨px11m, hIx9_, hFx10_, px11_⟩ := px11_
      refine Or.inr ⟨_, _, rfl, by first | exact px11m | (simp only [List.mem_cons, List.not_mem_nil, or_false] at px11m ⊢; omega), hIx9_, ai_fr_tr hF_ (fr_le hFx10_ rfl), ?_⟩
      first | exact px11_.2 | exact px11_ | rfl
    · exact absurd rfl px11_.2.2.2.1
  · have cx7_ : ¬ (n_ < (-1)) := of_decide_eq_false cx7_
    refine sm_T_go 2 (c1 := (13, [some (.inr (.inr (some (12, 0)))), some (.inl kk_), some (.inl n_), some (.inr (.inr (some (2, kk_.toNat))))], [.inr (.inr (some (2, kk_.toNat))), .inl n_], S0_)) rfl ?_
    refine sm_T_cal (d1 := 0) (Q1 := vq_55 kk_.toNat S0_) rfl rfl (by decide) (vc_55 kk_.toNat S0_ hI_ ) (fun u_ Sx14_ px17_ => ?_)
    obtain ⟨rfl, vx19_, rfl, px17_⟩ := px17_
    refine sm_T_br (a := 3) (z := 7) rfl (fun cx20_ => ?_) (fun cx20_ => ?_)
    · have cx20_ : vx19_ ≤ n_ := of_decide_eq_true cx20_
      refine sm_T_go 1 (c1 := (24, [some (.inr (.inr (some (12, 0)))), some (.inl kk_), some (.inl n_), some (.inr (.inr (some (2, kk_.toNat))))], [.inl 0], S0_)) rfl ?_
      refine sm_T_cale (d1_ := 0) (Q1_ := vq_265e 0 S0_) (Q2_ := (fun ex_ S1_ => ex_ ∈ ([0] : List Nat) ∧ vx_265e 0 S0_ S1_)) rfl rfl (by decide) (vc_265e 0 S0_ hI_ ) rfl (fun xx26_ Sx21_ px24_ => ?_) (fun u_ Sx21_ px24_ => ?_)
      · obtain ⟨px24m, hIx22_, hFx23_, px24_⟩ := px24_
        refine Or.inr ⟨_, _, rfl, by first | exact px24m | (simp only [List.mem_cons, List.not_mem_nil, or_false] at px24m ⊢; omega), hIx22_, ai_fr_tr hF_ (fr_le hFx23_ rfl), ?_⟩
        first | exact px24_.2 | exact px24_ | rfl
      · exact absurd rfl px24_.2.2.2.1
    · have cx20_ : ¬ (vx19_ ≤ n_) := of_decide_eq_false cx20_
      refine sm_T_go 2 (c1 := (24, [some (.inr (.inr (some (12, 0)))), some (.inl kk_), some (.inl n_), some (.inr (.inr (some (2, kk_.toNat))))], [.inl 1], S0_)) rfl ?_
      refine sm_T_cale (d1_ := 0) (Q1_ := vq_265e 1 S0_) (Q2_ := (fun ex_ S1_ => ex_ ∈ ([0] : List Nat) ∧ vx_265e 1 S0_ S1_)) rfl rfl (by decide) (vc_265e 1 S0_ hI_ ) rfl (fun xx32_ Sx27_ px30_ => ?_) (fun u_ Sx27_ px30_ => ?_)
      · exact absurd px30_.2.2.2.1 (by decide)
      obtain ⟨rfl, -, -, px30_, rfl⟩ := px30_
      have bx33_ : 0 ≤ S0_.1 0 (0 + kk_.toNat) 1 ∧ S0_.1 0 (0 + kk_.toNat) 1 ≤ 12 := hI_.1 0 (0 + kk_.toNat) 1 rfl
      refine sm_T_go 3 (c1 := (34, [some (.inr (.inr (some (12, 0)))), some (.inl kk_), some (.inl n_), some (.inr (.inr (some (2, kk_.toNat))))], [.inl (S0_.1 0 (0 + kk_.toNat) 1)], S0_)) rfl ?_
      refine sm_T_b0 (a := 5) (z := 7) rfl (fun cx34_ => ?_) (fun cx34_ => ?_)
      · have cx34_ : (S0_.1 0 (0 + kk_.toNat) 1) ≤ 0 := of_decide_eq_true cx34_
        refine sm_T_go 1 (c1 := (42, [some (.inr (.inr (some (12, 0)))), some (.inl kk_), some (.inl n_), some (.inr (.inr (some (2, kk_.toNat))))], [.inl 0], S0_)) rfl ?_
        refine sm_T_cale (d1_ := 0) (Q1_ := vq_267e 0 S0_) (Q2_ := (fun ex_ S1_ => ex_ ∈ ([2] : List Nat) ∧ vx_267e 0 S0_ S1_)) rfl rfl (by decide) (vc_267e 0 S0_ hI_ ) rfl (fun xx40_ Sx35_ px38_ => ?_) (fun u_ Sx35_ px38_ => ?_)
        · obtain ⟨px38m, hIx36_, hFx37_, px38_⟩ := px38_
          refine Or.inr ⟨_, _, rfl, by first | exact px38m | (simp only [List.mem_cons, List.not_mem_nil, or_false] at px38m ⊢; omega), hIx36_, ai_fr_tr hF_ (fr_le hFx37_ rfl), ?_⟩
          first | exact px38_.2 | exact px38_ | rfl
        · exact absurd rfl px38_.2.2.2.1
      · have cx34_ : ¬ ((S0_.1 0 (0 + kk_.toNat) 1) ≤ 0) := of_decide_eq_false cx34_
        refine sm_T_go 2 (c1 := (42, [some (.inr (.inr (some (12, 0)))), some (.inl kk_), some (.inl n_), some (.inr (.inr (some (2, kk_.toNat))))], [.inl 1], S0_)) rfl ?_
        refine sm_T_cale (d1_ := 0) (Q1_ := vq_267e 1 S0_) (Q2_ := (fun ex_ S1_ => ex_ ∈ ([2] : List Nat) ∧ vx_267e 1 S0_ S1_)) rfl rfl (by decide) (vc_267e 1 S0_ hI_ ) rfl (fun xx46_ Sx41_ px44_ => ?_) (fun u_ Sx41_ px44_ => ?_)
        · exact absurd px44_.2.2.2.1 (by decide)
        obtain ⟨rfl, -, -, px44_, rfl⟩ := px44_
        refine sm_T_go 2 (c1 := (47, [some (.inr (.inr (some (12, 0)))), some (.inl kk_), some (.inl n_), some (.inr (.inr (some (2, kk_.toNat))))], [.inl (-1), .inl n_], S0_)) rfl ?_
        refine sm_T_br (a := 1) (z := 17) rfl (fun cx47_ => ?_) (fun cx47_ => ?_)
        · have cx47_ : n_ ≠ (-1) := of_decide_eq_true cx47_
          refine sm_T_go 4 (c1 := (72, [some (.inr (.inr (some (12, 0)))), some (.inl kk_), some (.inl n_), some (.inr (.inr (some (2, kk_.toNat))))], [.inl n_, .inr (.inr (some (21, (0 + (0 + kk_.toNat)))))], S0_)) rfl ?_
          refine sm_T_iald (n := 162) rfl rfl (by omega) (by omega) ?_
          have bx48_ : (-9999) ≤ S0_.2.2.1 21 (0 + (0 + kk_.toNat)) n_.toNat ∧ S0_.2.2.1 21 (0 + (0 + kk_.toNat)) n_.toNat ≤ 20000 := hI_.2 21 (0 + (0 + kk_.toNat)) _
          refine sm_T_ri rfl (Or.inl ⟨_, _, rfl, _, rfl, hI_, hF_, ?_⟩)
          trivial
        · have cx47_ : ¬ (n_ ≠ (-1)) := of_decide_eq_false cx47_
          refine sm_T_go 3 (c1 := (55, [some (.inr (.inr (some (12, 0)))), some (.inl kk_), some (.inl n_), some (.inr (.inr (some (2, kk_.toNat))))], [.inr (.inr (some (2, kk_.toNat))), .inr (.inr (some (0, (0 + kk_.toNat))))], S0_)) rfl ?_
          refine sm_T_cal (d1 := 0) (Q1 := vq_55 kk_.toNat S0_) rfl rfl (by decide) (vc_55 kk_.toNat S0_ hI_ ) (fun u_ Sx49_ px52_ => ?_)
          obtain ⟨rfl, vx54_, rfl, px52_⟩ := px52_
          refine sm_T_cal (d1 := 0) (Q1 := vq_24 vx54_ (0 + kk_.toNat) S0_) rfl rfl (by decide) (vc_24 vx54_ (0 + kk_.toNat) S0_ hI_ (by omega)) (fun u_ Sx55_ px58_ => ?_)
          obtain ⟨rfl, vx60_, rfl, px58_⟩ := px58_
          refine sm_T_go 1 (c1 := (73, [some (.inr (.inr (some (12, 0)))), some (.inl kk_), some (.inl n_), some (.inr (.inr (some (2, kk_.toNat))))], [.inl vx60_], S0_)) rfl ?_
          refine sm_T_ri rfl (Or.inl ⟨_, _, rfl, _, rfl, hI_, hF_, ?_⟩)
          trivial
end
/-! 99.zp2a -/
section
/-! the face of the class: boards; written by wip/p55/gen/vg -/

/-! a_ chip's board changes -/
theorem jC_bd {w_ : sx_Wl} {i_ : Nat} {S_ S'_ : sm_S} (h_ : jC S_) (u_ : S_.1 2 i_ 0 = 1 ∧ i_ < 4) (g_ : ai_fr (sx_W w_) S_ S'_) (c_ : cdf (0 + i_) S_ S'_) (hl_ : bpl (0 + i_) i_ S'_) (hr_ : S'_.1 0 (0 + i_) 11 = 0 ∨ S'_.1 0 (0 + i_) 11 = S_.1 0 (0 + i_) 11) (d1_ : ∀ k_, k_ < 7 → (sx_W w_).1 3 k_ = false) (d2_ : ∀ t_, t_ < 48 → 42 ≤ t_ → (sx_W w_).2.1 t_ = false) (h2_ : ∀ k_, k_ < 9 → (sx_W w_).1 2 k_ = false) (ha_ : ∀ t_, t_ < 24 → 16 ≤ t_ → t_ ≠ 21 → (sx_W w_).2.1 t_ = false) (hb_ : (sx_W w_).2.1 34 = false := by rfl) (t1_ : (sx_W w_).1 11 5 = false := by rfl) (t2_ : (sx_W w_).2.1 102 = false := by rfl) (t3_ : (sx_W w_).2.1 104 = false := by rfl) (t4_ : (sx_W w_).2.1 105 = false := by rfl) (t5_ : (sx_W w_).2.1 95 = false := by rfl) : jC S'_ := by
  refine ⟨dAll_fr h_.1 g_ d1_ d2_, cAll_cd h_.2.1 (cdf_cg (Nat.zero_add i_) c_) (fun _ => ?_), tpo_fr h_.2.2.1 g_ t1_ t2_ t3_ t4_, shn_fr h_.2.2.2 g_ t5_⟩
  obtain ⟨a1_, a2_, a3_, a4_, ⟨a5_, a6_, a7_⟩, a8_⟩ := h_.2.1 i_ u_.2 u_.1
  refine ⟨?_, ?_, ?_, ?_, ⟨bpn_fr a5_ g_ (ha_ _ (by decide) (by decide) (by decide)) (ha_ _ (by decide) (by decide) (by decide)) (ha_ _ (by decide) (by decide) (by decide)) (ha_ _ (by decide) (by decide) (by decide)), bpp_fr a6_ g_ (h2_ _ (by decide)) (h2_ _ (by decide)) (h2_ _ (by decide)) (h2_ _ (by decide)) (ha_ _ (by decide) (by decide) (by decide)) (ha_ _ (by decide) (by decide) (by decide)), hl_⟩, fun q_ => ?_⟩
  · rw [g_.1 2 i_ 1 (h2_ _ (by decide)), g_.1 2 i_ 2 (h2_ _ (by decide)), g_.1 2 i_ 3 (h2_ _ (by decide))]; exact a1_
  · rw [g_.1 2 i_ 4 (h2_ _ (by decide)), g_.1 2 i_ 2 (h2_ _ (by decide))]; exact a2_
  · rw [g_.1 2 i_ 5 (h2_ _ (by decide)), g_.1 2 i_ 2 (h2_ _ (by decide))]; exact a3_
  · unfold ctb
    rw [fr_arr g_ hb_, g_.1 2 i_ 2 (h2_ _ (by decide))]; exact a4_
  · unfold bst
    rw [fr_arr g_ (ha_ 22 (by decide) (by decide) (by decide)), fr_arr g_ (ha_ 23 (by decide) (by decide) (by decide)), g_.1 2 i_ 1 (h2_ _ (by decide)), g_.1 2 i_ 2 (h2_ _ (by decide)), g_.1 2 i_ 8 (h2_ _ (by decide))]
    exact a8_ (by omega)
/-! ChipFlow.run -/
end
/-! 99.zp2b -/
section
/-! ChipFlow.place -/
def vw_238 : sx_Wl := ([(0, 0), (0, 1), (0, 2), (0, 11), (0, 16), (4, 0)], [14, 15, 21], [])
def vq_238 (kk_ : Int) (a2_ : Int) (S0_ : sm_S) (u_ : Option sm_V) (S1_ : sm_S) : Prop := ∃ v_ : Int, u_ = some (.inl v_) ∧ gi S1_ ∧ ai_fr (sx_W vw_238) S0_ S1_ ∧ (jC S1_)
def vx_238 (kk_ : Int) (a2_ : Int) (S0_ : sm_S) (S1_ : sm_S) : Prop := gi S1_ ∧ ai_fr (sx_W vw_238) S0_ S1_ ∧ (S1_ = S0_)
set_option maxHeartbeats 400000 in
theorem vc_238 {sc_ : Nat × (Nat → Int)} (kk_ : Int) (a2_ : Int) (S0_ : sm_S) (hI_ : gi S0_) (hJ_ : jC S0_) : sm_T (mt_P sc_) 4 238 (0, [some (.inr (.inr (some (12, 0)))), some (.inl kk_), some (.inl a2_), none], [], S0_) (fun ro9_ => (∃ u_ S1_, ro9_ = (.inl u_, S1_, 0) ∧ vq_238 kk_ a2_ S0_ u_ S1_) ∨ ∃ ex_ S1_, ro9_ = (.inr ex_, S1_, 1) ∧ ex_ ∈ ([0, 1] : List Nat) ∧ vx_238 kk_ a2_ S0_ S1_) := by
  have hF_ : ai_fr (sx_W vw_238) S0_ S0_ := ai_fr_rf
  refine sm_T_go 2 (c1 := (2, [some (.inr (.inr (some (12, 0)))), some (.inl kk_), some (.inl a2_), none], [.inl kk_, .inr (.inr (some (12, 0)))], S0_)) rfl ?_
  refine sm_T_cale (d1_ := 1) (Q1_ := vq_272 kk_ S0_) (Q2_ := (fun ex_ S1_ => ex_ ∈ ([0] : List Nat) ∧ vx_272 kk_ S0_ S1_)) rfl rfl (by decide) (vc_272 kk_ S0_ hI_ ) rfl (fun xx6_ Sx1_ px4_ => ?_) (fun u_ Sx1_ px4_ => ?_)
  · obtain ⟨px4m, hIx2_, hFx3_, px4_⟩ := px4_
    refine Or.inr ⟨_, _, rfl, by first | exact px4m | (simp only [List.mem_cons, List.not_mem_nil, or_false] at px4m ⊢; omega), hIx2_, ai_fr_tr hF_ (fr_le hFx3_ rfl), ?_⟩
    first | exact px4_.2 | exact px4_ | rfl
  obtain ⟨rfl, -, -, rfl, px4_⟩ := px4_
  have a9_ := px4_
  have J9_ := hJ_.2.1 kk_.toNat (by omega) a9_.2
  have J1_ := J9_.1
  have q9_ := a9_.2
  have c8_ : 0 ≤ S0_.1 2 (kk_.toNat) 8 ∧ S0_.1 2 (kk_.toNat) 8 ≤ 150 := hI_.1 2 (kk_.toNat) 8 rfl
  have c1_ : 0 ≤ S0_.1 2 (kk_.toNat) 1 ∧ S0_.1 2 (kk_.toNat) 1 ≤ 12 := hI_.1 2 (kk_.toNat) 1 rfl
  have c2_ : 0 ≤ S0_.1 2 (kk_.toNat) 2 ∧ S0_.1 2 (kk_.toNat) 2 ≤ 6 := hI_.1 2 (kk_.toNat) 2 rfl
  refine sm_T_go 3 (c1 := (8, [some (.inr (.inr (some (12, 0)))), some (.inl kk_), some (.inl a2_), some (.inr (.inr (some (2, kk_.toNat))))], [.inl 4, .inl a2_], S0_)) rfl ?_
  refine sm_T_br (a := 2) (z := 13) rfl (fun cx7_ => ?_) (fun cx7_ => ?_)
  · have cx7_ : a2_ < 4 := of_decide_eq_true cx7_
    refine sm_T_go 1 (c1 := (22, [some (.inr (.inr (some (12, 0)))), some (.inl kk_), some (.inl a2_), some (.inr (.inr (some (2, kk_.toNat))))], [.inl 0], S0_)) rfl ?_
    refine sm_T_cale (d1_ := 0) (Q1_ := vq_266e 0 S0_) (Q2_ := (fun ex_ S1_ => ex_ ∈ ([1] : List Nat) ∧ vx_266e 0 S0_ S1_)) rfl rfl (by decide) (vc_266e 0 S0_ hI_ ) rfl (fun xx13_ Sx8_ px11_ => ?_) (fun u_ Sx8_ px11_ => ?_)
    · obtain ⟨px11m, hIx9_, hFx10_, px11_⟩ := px11_
      refine Or.inr ⟨_, _, rfl, by first | exact px11m | (simp only [List.mem_cons, List.not_mem_nil, or_false] at px11m ⊢; omega), hIx9_, ai_fr_tr hF_ (fr_le hFx10_ rfl), ?_⟩
      first | exact px11_.2 | exact px11_ | rfl
    · exact absurd rfl px11_.2.2.2.1
  · have cx7_ : ¬ (a2_ < 4) := of_decide_eq_false cx7_
    refine sm_T_go 2 (c1 := (14, [some (.inr (.inr (some (12, 0)))), some (.inl kk_), some (.inl a2_), some (.inr (.inr (some (2, kk_.toNat))))], [.inl 60, .inl a2_], S0_)) rfl ?_
    refine sm_T_br (a := 4) (z := 7) rfl (fun cx14_ => ?_) (fun cx14_ => ?_)
    · have cx14_ : 60 < a2_ := of_decide_eq_true cx14_
      refine sm_T_go 1 (c1 := (22, [some (.inr (.inr (some (12, 0)))), some (.inl kk_), some (.inl a2_), some (.inr (.inr (some (2, kk_.toNat))))], [.inl 0], S0_)) rfl ?_
      refine sm_T_cale (d1_ := 0) (Q1_ := vq_266e 0 S0_) (Q2_ := (fun ex_ S1_ => ex_ ∈ ([1] : List Nat) ∧ vx_266e 0 S0_ S1_)) rfl rfl (by decide) (vc_266e 0 S0_ hI_ ) rfl (fun xx20_ Sx15_ px18_ => ?_) (fun u_ Sx15_ px18_ => ?_)
      · obtain ⟨px18m, hIx16_, hFx17_, px18_⟩ := px18_
        refine Or.inr ⟨_, _, rfl, by first | exact px18m | (simp only [List.mem_cons, List.not_mem_nil, or_false] at px18m ⊢; omega), hIx16_, ai_fr_tr hF_ (fr_le hFx17_ rfl), ?_⟩
        first | exact px18_.2 | exact px18_ | rfl
      · exact absurd rfl px18_.2.2.2.1
    · have cx14_ : ¬ (60 < a2_) := of_decide_eq_false cx14_
      refine sm_T_go 2 (c1 := (22, [some (.inr (.inr (some (12, 0)))), some (.inl kk_), some (.inl a2_), some (.inr (.inr (some (2, kk_.toNat))))], [.inl 1], S0_)) rfl ?_
      refine sm_T_cale (d1_ := 0) (Q1_ := vq_266e 1 S0_) (Q2_ := (fun ex_ S1_ => ex_ ∈ ([1] : List Nat) ∧ vx_266e 1 S0_ S1_)) rfl rfl (by decide) (vc_266e 1 S0_ hI_ ) rfl (fun xx26_ Sx21_ px24_ => ?_) (fun u_ Sx21_ px24_ => ?_)
      · exact absurd px24_.2.2.2.1 (by decide)
      obtain ⟨rfl, -, -, px24_, rfl⟩ := px24_
      refine sm_T_go 4 (c1 := (31, [some (.inr (.inr (some (12, 0)))), some (.inl kk_), some (.inl a2_), some (.inr (.inr (some (2, kk_.toNat))))], [.inl a2_, .inr (.inr (some (2, kk_.toNat))), .inr (.inr (some (0, (0 + kk_.toNat))))], S0_)) rfl ?_
      refine sm_T_cal (d1 := 3) (Q1 := vq_20 a2_ (0 + kk_.toNat) kk_.toNat S0_) rfl rfl (by decide) (vc_20 a2_ (0 + kk_.toNat) kk_.toNat S0_ hI_ (by omega) (by exact J9_.2.2.2.2.1.1) (by omega) (by exact J9_.2.2.2.2.1.2.2)) (fun u_ Sx27_ px30_ => ?_)
      obtain ⟨vx32_, rfl, hIx28_, hFx29_, px30_⟩ := px30_
      have hFx31_ : ai_fr (sx_W vw_238) S0_ Sx27_ := ai_fr_tr hF_ (fr_le hFx29_ rfl)
      obtain ⟨dx33_, px30_⟩ := px30_
      have c31_ := dx33_
      have p31_ := px30_
      refine sm_T_ri rfl (Or.inl ⟨_, _, rfl, _, rfl, hIx28_, hFx31_, ?_⟩)
      exact jC_bd hJ_ ⟨a9_.2, by omega⟩ hFx31_ c31_ p31_.2.1 (p31_.2.2.elim (fun e_ => Or.inr (by rw [e_])) (fun e_ => Or.inl e_.1)) (by decide) (by decide) (by decide) (by decide)
end
/-! 99.zp2c -/
section
/-! ChipFlow.move -/
def vw_240 : sx_Wl := ([(0, 11), (0, 16), (4, 0)], [14, 15, 21], [])
def vq_240 (kk_ : Int) (e_ : Int) (a3_ : Int) (a4_ : Int) (S0_ : sm_S) (u_ : Option sm_V) (S1_ : sm_S) : Prop := ∃ v_ : Int, u_ = some (.inl v_) ∧ gi S1_ ∧ ai_fr (sx_W vw_240) S0_ S1_ ∧ (jC S1_)
def vx_240 (kk_ : Int) (e_ : Int) (a3_ : Int) (a4_ : Int) (S0_ : sm_S) (S1_ : sm_S) : Prop := gi S1_ ∧ ai_fr (sx_W vw_240) S0_ S1_ ∧ (S1_ = S0_)
set_option maxHeartbeats 400000 in
theorem vc_240 {sc_ : Nat × (Nat → Int)} (kk_ : Int) (e_ : Int) (a3_ : Int) (a4_ : Int) (S0_ : sm_S) (hI_ : gi S0_) (hJ_ : jC S0_) : sm_T (mt_P sc_) 4 240 (0, [some (.inr (.inr (some (12, 0)))), some (.inl kk_), some (.inl e_), some (.inl a3_), some (.inl a4_), none], [], S0_) (fun ro9_ => (∃ u_ S1_, ro9_ = (.inl u_, S1_, 0) ∧ vq_240 kk_ e_ a3_ a4_ S0_ u_ S1_) ∨ ∃ ex_ S1_, ro9_ = (.inr ex_, S1_, 1) ∧ ex_ ∈ ([0, 2] : List Nat) ∧ vx_240 kk_ e_ a3_ a4_ S0_ S1_) := by
  have hF_ : ai_fr (sx_W vw_240) S0_ S0_ := ai_fr_rf
  refine sm_T_go 2 (c1 := (2, [some (.inr (.inr (some (12, 0)))), some (.inl kk_), some (.inl e_), some (.inl a3_), some (.inl a4_), none], [.inl kk_, .inr (.inr (some (12, 0)))], S0_)) rfl ?_
  refine sm_T_cale (d1_ := 1) (Q1_ := vq_272 kk_ S0_) (Q2_ := (fun ex_ S1_ => ex_ ∈ ([0] : List Nat) ∧ vx_272 kk_ S0_ S1_)) rfl rfl (by decide) (vc_272 kk_ S0_ hI_ ) rfl (fun xx6_ Sx1_ px4_ => ?_) (fun u_ Sx1_ px4_ => ?_)
  · obtain ⟨px4m, hIx2_, hFx3_, px4_⟩ := px4_
    refine Or.inr ⟨_, _, rfl, by first | exact px4m | (simp only [List.mem_cons, List.not_mem_nil, or_false] at px4m ⊢; omega), hIx2_, ai_fr_tr hF_ (fr_le hFx3_ rfl), ?_⟩
    first | exact px4_.2 | exact px4_ | rfl
  obtain ⟨rfl, -, -, rfl, px4_⟩ := px4_
  have a9_ := px4_
  have J9_ := hJ_.2.1 kk_.toNat (by omega) a9_.2
  have J1_ := J9_.1
  have q9_ := a9_.2
  have c8_ : 0 ≤ S0_.1 2 (kk_.toNat) 8 ∧ S0_.1 2 (kk_.toNat) 8 ≤ 150 := hI_.1 2 (kk_.toNat) 8 rfl
  have c1_ : 0 ≤ S0_.1 2 (kk_.toNat) 1 ∧ S0_.1 2 (kk_.toNat) 1 ≤ 12 := hI_.1 2 (kk_.toNat) 1 rfl
  have c2_ : 0 ≤ S0_.1 2 (kk_.toNat) 2 ∧ S0_.1 2 (kk_.toNat) 2 ≤ 6 := hI_.1 2 (kk_.toNat) 2 rfl
  refine sm_T_go 2 (c1 := (8, [some (.inr (.inr (some (12, 0)))), some (.inl kk_), some (.inl e_), some (.inl a3_), some (.inl a4_), some (.inr (.inr (some (2, kk_.toNat))))], [.inl e_], S0_)) rfl ?_
  refine sm_T_b0 (a := 2) (z := 16) rfl (fun cx7_ => ?_) (fun cx7_ => ?_)
  · have cx7_ : e_ < 0 := of_decide_eq_true cx7_
    refine sm_T_go 1 (c1 := (25, [some (.inr (.inr (some (12, 0)))), some (.inl kk_), some (.inl e_), some (.inl a3_), some (.inl a4_), some (.inr (.inr (some (2, kk_.toNat))))], [.inl 0], S0_)) rfl ?_
    refine sm_T_cale (d1_ := 0) (Q1_ := vq_265e 0 S0_) (Q2_ := (fun ex_ S1_ => ex_ ∈ ([0] : List Nat) ∧ vx_265e 0 S0_ S1_)) rfl rfl (by decide) (vc_265e 0 S0_ hI_ ) rfl (fun xx13_ Sx8_ px11_ => ?_) (fun u_ Sx8_ px11_ => ?_)
    · obtain ⟨px11m, hIx9_, hFx10_, px11_⟩ := px11_
      refine Or.inr ⟨_, _, rfl, by first | exact px11m | (simp only [List.mem_cons, List.not_mem_nil, or_false] at px11m ⊢; omega), hIx9_, ai_fr_tr hF_ (fr_le hFx10_ rfl), ?_⟩
      first | exact px11_.2 | exact px11_ | rfl
    · exact absurd rfl px11_.2.2.2.1
  · have cx7_ : ¬ (e_ < 0) := of_decide_eq_false cx7_
    refine sm_T_go 2 (c1 := (14, [some (.inr (.inr (some (12, 0)))), some (.inl kk_), some (.inl e_), some (.inl a3_), some (.inl a4_), some (.inr (.inr (some (2, kk_.toNat))))], [.inr (.inr (some (2, kk_.toNat))), .inl e_], S0_)) rfl ?_
    refine sm_T_cal (d1 := 0) (Q1 := vq_56 kk_.toNat S0_) rfl rfl (by decide) (vc_56 kk_.toNat S0_ hI_ ) (fun u_ Sx14_ px17_ => ?_)
    obtain ⟨rfl, vx19_, rfl, px17_⟩ := px17_
    refine sm_T_br (a := 3) (z := 7) rfl (fun cx20_ => ?_) (fun cx20_ => ?_)
    · have cx20_ : vx19_ ≤ e_ := of_decide_eq_true cx20_
      refine sm_T_go 1 (c1 := (25, [some (.inr (.inr (some (12, 0)))), some (.inl kk_), some (.inl e_), some (.inl a3_), some (.inl a4_), some (.inr (.inr (some (2, kk_.toNat))))], [.inl 0], S0_)) rfl ?_
      refine sm_T_cale (d1_ := 0) (Q1_ := vq_265e 0 S0_) (Q2_ := (fun ex_ S1_ => ex_ ∈ ([0] : List Nat) ∧ vx_265e 0 S0_ S1_)) rfl rfl (by decide) (vc_265e 0 S0_ hI_ ) rfl (fun xx26_ Sx21_ px24_ => ?_) (fun u_ Sx21_ px24_ => ?_)
      · obtain ⟨px24m, hIx22_, hFx23_, px24_⟩ := px24_
        refine Or.inr ⟨_, _, rfl, by first | exact px24m | (simp only [List.mem_cons, List.not_mem_nil, or_false] at px24m ⊢; omega), hIx22_, ai_fr_tr hF_ (fr_le hFx23_ rfl), ?_⟩
        first | exact px24_.2 | exact px24_ | rfl
      · exact absurd rfl px24_.2.2.2.1
    · have cx20_ : ¬ (vx19_ ≤ e_) := of_decide_eq_false cx20_
      refine sm_T_go 2 (c1 := (25, [some (.inr (.inr (some (12, 0)))), some (.inl kk_), some (.inl e_), some (.inl a3_), some (.inl a4_), some (.inr (.inr (some (2, kk_.toNat))))], [.inl 1], S0_)) rfl ?_
      refine sm_T_cale (d1_ := 0) (Q1_ := vq_265e 1 S0_) (Q2_ := (fun ex_ S1_ => ex_ ∈ ([0] : List Nat) ∧ vx_265e 1 S0_ S1_)) rfl rfl (by decide) (vc_265e 1 S0_ hI_ ) rfl (fun xx32_ Sx27_ px30_ => ?_) (fun u_ Sx27_ px30_ => ?_)
      · exact absurd px30_.2.2.2.1 (by decide)
      obtain ⟨rfl, -, -, px30_, rfl⟩ := px30_
      have bx33_ : 0 ≤ S0_.1 0 (0 + kk_.toNat) 1 ∧ S0_.1 0 (0 + kk_.toNat) 1 ≤ 12 := hI_.1 0 (0 + kk_.toNat) 1 rfl
      refine sm_T_go 3 (c1 := (36, [some (.inr (.inr (some (12, 0)))), some (.inl kk_), some (.inl e_), some (.inl a3_), some (.inl a4_), some (.inr (.inr (some (2, kk_.toNat))))], [.inl (S0_.1 0 (0 + kk_.toNat) 1)], S0_)) rfl ?_
      refine sm_T_b0 (a := 5) (z := 7) rfl (fun cx34_ => ?_) (fun cx34_ => ?_)
      · have cx34_ : (S0_.1 0 (0 + kk_.toNat) 1) ≤ 0 := of_decide_eq_true cx34_
        refine sm_T_go 1 (c1 := (44, [some (.inr (.inr (some (12, 0)))), some (.inl kk_), some (.inl e_), some (.inl a3_), some (.inl a4_), some (.inr (.inr (some (2, kk_.toNat))))], [.inl 0], S0_)) rfl ?_
        refine sm_T_cale (d1_ := 0) (Q1_ := vq_267e 0 S0_) (Q2_ := (fun ex_ S1_ => ex_ ∈ ([2] : List Nat) ∧ vx_267e 0 S0_ S1_)) rfl rfl (by decide) (vc_267e 0 S0_ hI_ ) rfl (fun xx40_ Sx35_ px38_ => ?_) (fun u_ Sx35_ px38_ => ?_)
        · obtain ⟨px38m, hIx36_, hFx37_, px38_⟩ := px38_
          refine Or.inr ⟨_, _, rfl, by first | exact px38m | (simp only [List.mem_cons, List.not_mem_nil, or_false] at px38m ⊢; omega), hIx36_, ai_fr_tr hF_ (fr_le hFx37_ rfl), ?_⟩
          first | exact px38_.2 | exact px38_ | rfl
        · exact absurd rfl px38_.2.2.2.1
      · have cx34_ : ¬ ((S0_.1 0 (0 + kk_.toNat) 1) ≤ 0) := of_decide_eq_false cx34_
        refine sm_T_go 2 (c1 := (44, [some (.inr (.inr (some (12, 0)))), some (.inl kk_), some (.inl e_), some (.inl a3_), some (.inl a4_), some (.inr (.inr (some (2, kk_.toNat))))], [.inl 1], S0_)) rfl ?_
        refine sm_T_cale (d1_ := 0) (Q1_ := vq_267e 1 S0_) (Q2_ := (fun ex_ S1_ => ex_ ∈ ([2] : List Nat) ∧ vx_267e 1 S0_ S1_)) rfl rfl (by decide) (vc_267e 1 S0_ hI_ ) rfl (fun xx46_ Sx41_ px44_ => ?_) (fun u_ Sx41_ px44_ => ?_)
        · exact absurd px44_.2.2.2.1 (by decide)
        obtain ⟨rfl, -, -, px44_, rfl⟩ := px44_
        refine sm_T_go 6 (c1 := (58, [some (.inr (.inr (some (12, 0)))), some (.inl kk_), some (.inl e_), some (.inl a3_), some (.inl a4_), some (.inr (.inr (some (2, kk_.toNat))))], [.inl a4_, .inl a3_, .inl e_, .inr (.inr (some (2, kk_.toNat))), .inr (.inr (some (0, (0 + kk_.toNat))))], S0_)) rfl ?_
        refine sm_T_cal (d1 := 3) (Q1 := vq_25 e_ a3_ a4_ (0 + kk_.toNat) kk_.toNat S0_) rfl rfl (by decide) (vc_25 e_ a3_ a4_ (0 + kk_.toNat) kk_.toNat S0_ hI_ (by omega) (by exact J9_.2.2.2.2.1.1) (by omega) (by exact J9_.2.2.2.2.1.2.2) (by omega)) (fun u_ Sx47_ px50_ => ?_)
        obtain ⟨vx52_, rfl, hIx48_, hFx49_, px50_⟩ := px50_
        have hFx51_ : ai_fr (sx_W vw_240) S0_ Sx47_ := ai_fr_tr hF_ (fr_le hFx49_ rfl)
        obtain ⟨dx53_, px50_⟩ := px50_
        have c58_ := dx53_
        have p58_ := px50_
        refine sm_T_rz rfl (by omega) (Or.inl ⟨_, _, rfl, _, rfl, hIx48_, hFx51_, ?_⟩)
        exact jC_bd hJ_ ⟨a9_.2, by omega⟩ hFx51_ c58_ p58_.2.1 (p58_.2.2.elim (fun e_ => Or.inr (by rw [e_])) (fun e_ => Or.inl e_.1)) (by decide) (by decide) (by decide) (by decide)
end
/-! 99.zp2d -/
section
/-! ChipFlow.improve -/
def vw_241 : sx_Wl := ([(0, 11), (0, 16), (0, 18), (4, 0)], [14, 15, 21, 25], [])
def vq_241 (kk_ : Int) (a2_ : Int) (S0_ : sm_S) (u_ : Option sm_V) (S1_ : sm_S) : Prop := ∃ v_ : Int, u_ = some (.inl v_) ∧ gi S1_ ∧ ai_fr (sx_W vw_241) S0_ S1_ ∧ (jC S1_)
def vx_241 (kk_ : Int) (a2_ : Int) (S0_ : sm_S) (S1_ : sm_S) : Prop := gi S1_ ∧ ai_fr (sx_W vw_241) S0_ S1_ ∧ (S1_ = S0_)
set_option maxHeartbeats 400000 in
theorem vc_241 {sc_ : Nat × (Nat → Int)} (kk_ : Int) (a2_ : Int) (S0_ : sm_S) (hI_ : gi S0_) (hJ_ : jC S0_) : sm_T (mt_P sc_) 4 241 (0, [some (.inr (.inr (some (12, 0)))), some (.inl kk_), some (.inl a2_), none], [], S0_) (fun ro9_ => (∃ u_ S1_, ro9_ = (.inl u_, S1_, 0) ∧ vq_241 kk_ a2_ S0_ u_ S1_) ∨ ∃ ex_ S1_, ro9_ = (.inr ex_, S1_, 1) ∧ ex_ ∈ ([0, 1, 2] : List Nat) ∧ vx_241 kk_ a2_ S0_ S1_) := by
  have hF_ : ai_fr (sx_W vw_241) S0_ S0_ := ai_fr_rf
  refine sm_T_go 2 (c1 := (2, [some (.inr (.inr (some (12, 0)))), some (.inl kk_), some (.inl a2_), none], [.inl kk_, .inr (.inr (some (12, 0)))], S0_)) rfl ?_
  refine sm_T_cale (d1_ := 1) (Q1_ := vq_272 kk_ S0_) (Q2_ := (fun ex_ S1_ => ex_ ∈ ([0] : List Nat) ∧ vx_272 kk_ S0_ S1_)) rfl rfl (by decide) (vc_272 kk_ S0_ hI_ ) rfl (fun xx6_ Sx1_ px4_ => ?_) (fun u_ Sx1_ px4_ => ?_)
  · obtain ⟨px4m, hIx2_, hFx3_, px4_⟩ := px4_
    refine Or.inr ⟨_, _, rfl, by first | exact px4m | (simp only [List.mem_cons, List.not_mem_nil, or_false] at px4m ⊢; omega), hIx2_, ai_fr_tr hF_ (fr_le hFx3_ rfl), ?_⟩
    first | exact px4_.2 | exact px4_ | rfl
  obtain ⟨rfl, -, -, rfl, px4_⟩ := px4_
  have a9_ := px4_
  have J9_ := hJ_.2.1 kk_.toNat (by omega) a9_.2
  have J1_ := J9_.1
  have q9_ := a9_.2
  have c8_ : 0 ≤ S0_.1 2 (kk_.toNat) 8 ∧ S0_.1 2 (kk_.toNat) 8 ≤ 150 := hI_.1 2 (kk_.toNat) 8 rfl
  have c1_ : 0 ≤ S0_.1 2 (kk_.toNat) 1 ∧ S0_.1 2 (kk_.toNat) 1 ≤ 12 := hI_.1 2 (kk_.toNat) 1 rfl
  have c2_ : 0 ≤ S0_.1 2 (kk_.toNat) 2 ∧ S0_.1 2 (kk_.toNat) 2 ≤ 6 := hI_.1 2 (kk_.toNat) 2 rfl
  refine sm_T_go 3 (c1 := (8, [some (.inr (.inr (some (12, 0)))), some (.inl kk_), some (.inl a2_), some (.inr (.inr (some (2, kk_.toNat))))], [.inl 1, .inl a2_], S0_)) rfl ?_
  refine sm_T_br (a := 2) (z := 12) rfl (fun cx7_ => ?_) (fun cx7_ => ?_)
  · have cx7_ : a2_ < 1 := of_decide_eq_true cx7_
    refine sm_T_go 1 (c1 := (21, [some (.inr (.inr (some (12, 0)))), some (.inl kk_), some (.inl a2_), some (.inr (.inr (some (2, kk_.toNat))))], [.inl 0], S0_)) rfl ?_
    refine sm_T_cale (d1_ := 0) (Q1_ := vq_266e 0 S0_) (Q2_ := (fun ex_ S1_ => ex_ ∈ ([1] : List Nat) ∧ vx_266e 0 S0_ S1_)) rfl rfl (by decide) (vc_266e 0 S0_ hI_ ) rfl (fun xx13_ Sx8_ px11_ => ?_) (fun u_ Sx8_ px11_ => ?_)
    · obtain ⟨px11m, hIx9_, hFx10_, px11_⟩ := px11_
      refine Or.inr ⟨_, _, rfl, by first | exact px11m | (simp only [List.mem_cons, List.not_mem_nil, or_false] at px11m ⊢; omega), hIx9_, ai_fr_tr hF_ (fr_le hFx10_ rfl), ?_⟩
      first | exact px11_.2 | exact px11_ | rfl
    · exact absurd rfl px11_.2.2.2.1
  · have cx7_ : ¬ (a2_ < 1) := of_decide_eq_false cx7_
    refine sm_T_go 2 (c1 := (13, [some (.inr (.inr (some (12, 0)))), some (.inl kk_), some (.inl a2_), some (.inr (.inr (some (2, kk_.toNat))))], [.inl 4, .inl a2_], S0_)) rfl ?_
    refine sm_T_br (a := 4) (z := 7) rfl (fun cx14_ => ?_) (fun cx14_ => ?_)
    · have cx14_ : 4 < a2_ := of_decide_eq_true cx14_
      refine sm_T_go 1 (c1 := (21, [some (.inr (.inr (some (12, 0)))), some (.inl kk_), some (.inl a2_), some (.inr (.inr (some (2, kk_.toNat))))], [.inl 0], S0_)) rfl ?_
      refine sm_T_cale (d1_ := 0) (Q1_ := vq_266e 0 S0_) (Q2_ := (fun ex_ S1_ => ex_ ∈ ([1] : List Nat) ∧ vx_266e 0 S0_ S1_)) rfl rfl (by decide) (vc_266e 0 S0_ hI_ ) rfl (fun xx20_ Sx15_ px18_ => ?_) (fun u_ Sx15_ px18_ => ?_)
      · obtain ⟨px18m, hIx16_, hFx17_, px18_⟩ := px18_
        refine Or.inr ⟨_, _, rfl, by first | exact px18m | (simp only [List.mem_cons, List.not_mem_nil, or_false] at px18m ⊢; omega), hIx16_, ai_fr_tr hF_ (fr_le hFx17_ rfl), ?_⟩
        first | exact px18_.2 | exact px18_ | rfl
      · exact absurd rfl px18_.2.2.2.1
    · have cx14_ : ¬ (4 < a2_) := of_decide_eq_false cx14_
      refine sm_T_go 2 (c1 := (21, [some (.inr (.inr (some (12, 0)))), some (.inl kk_), some (.inl a2_), some (.inr (.inr (some (2, kk_.toNat))))], [.inl 1], S0_)) rfl ?_
      refine sm_T_cale (d1_ := 0) (Q1_ := vq_266e 1 S0_) (Q2_ := (fun ex_ S1_ => ex_ ∈ ([1] : List Nat) ∧ vx_266e 1 S0_ S1_)) rfl rfl (by decide) (vc_266e 1 S0_ hI_ ) rfl (fun xx26_ Sx21_ px24_ => ?_) (fun u_ Sx21_ px24_ => ?_)
      · exact absurd px24_.2.2.2.1 (by decide)
      obtain ⟨rfl, -, -, px24_, rfl⟩ := px24_
      have bx27_ : 0 ≤ S0_.1 0 (0 + kk_.toNat) 1 ∧ S0_.1 0 (0 + kk_.toNat) 1 ≤ 12 := hI_.1 0 (0 + kk_.toNat) 1 rfl
      refine sm_T_go 3 (c1 := (31, [some (.inr (.inr (some (12, 0)))), some (.inl kk_), some (.inl a2_), some (.inr (.inr (some (2, kk_.toNat))))], [.inl (S0_.1 0 (0 + kk_.toNat) 1)], S0_)) rfl ?_
      refine sm_T_b0 (a := 5) (z := 7) rfl (fun cx28_ => ?_) (fun cx28_ => ?_)
      · have cx28_ : (S0_.1 0 (0 + kk_.toNat) 1) ≤ 0 := of_decide_eq_true cx28_
        refine sm_T_go 1 (c1 := (39, [some (.inr (.inr (some (12, 0)))), some (.inl kk_), some (.inl a2_), some (.inr (.inr (some (2, kk_.toNat))))], [.inl 0], S0_)) rfl ?_
        refine sm_T_cale (d1_ := 0) (Q1_ := vq_267e 0 S0_) (Q2_ := (fun ex_ S1_ => ex_ ∈ ([2] : List Nat) ∧ vx_267e 0 S0_ S1_)) rfl rfl (by decide) (vc_267e 0 S0_ hI_ ) rfl (fun xx34_ Sx29_ px32_ => ?_) (fun u_ Sx29_ px32_ => ?_)
        · obtain ⟨px32m, hIx30_, hFx31_, px32_⟩ := px32_
          refine Or.inr ⟨_, _, rfl, by first | exact px32m | (simp only [List.mem_cons, List.not_mem_nil, or_false] at px32m ⊢; omega), hIx30_, ai_fr_tr hF_ (fr_le hFx31_ rfl), ?_⟩
          first | exact px32_.2 | exact px32_ | rfl
        · exact absurd rfl px32_.2.2.2.1
      · have cx28_ : ¬ ((S0_.1 0 (0 + kk_.toNat) 1) ≤ 0) := of_decide_eq_false cx28_
        refine sm_T_go 2 (c1 := (39, [some (.inr (.inr (some (12, 0)))), some (.inl kk_), some (.inl a2_), some (.inr (.inr (some (2, kk_.toNat))))], [.inl 1], S0_)) rfl ?_
        refine sm_T_cale (d1_ := 0) (Q1_ := vq_267e 1 S0_) (Q2_ := (fun ex_ S1_ => ex_ ∈ ([2] : List Nat) ∧ vx_267e 1 S0_ S1_)) rfl rfl (by decide) (vc_267e 1 S0_ hI_ ) rfl (fun xx40_ Sx35_ px38_ => ?_) (fun u_ Sx35_ px38_ => ?_)
        · exact absurd px38_.2.2.2.1 (by decide)
        obtain ⟨rfl, -, -, px38_, rfl⟩ := px38_
        refine sm_T_go 4 (c1 := (48, [some (.inr (.inr (some (12, 0)))), some (.inl kk_), some (.inl a2_), some (.inr (.inr (some (2, kk_.toNat))))], [.inl a2_, .inr (.inr (some (2, kk_.toNat))), .inr (.inr (some (0, (0 + kk_.toNat))))], S0_)) rfl ?_
        refine sm_T_cal (d1 := 3) (Q1 := vq_26 a2_ (0 + kk_.toNat) kk_.toNat S0_) rfl rfl (by decide) (vc_26 a2_ (0 + kk_.toNat) kk_.toNat S0_ hI_ (by omega) (by exact J9_.2.2.2.2.1.1) (by exact J9_.2.2.2.2.1.2.2)) (fun u_ Sx41_ px44_ => ?_)
        obtain ⟨rfl, hIx42_, hFx43_, px44_⟩ := px44_
        have hFx45_ : ai_fr (sx_W vw_241) S0_ Sx41_ := ai_fr_tr hF_ (fr_le hFx43_ rfl)
        obtain ⟨dx46_, px44_⟩ := px44_
        have c48_ := dx46_
        have p48_ := px44_
        have y1_ := hFx43_.1 2 kk_.toNat 1 rfl
        have y2_ := hFx43_.1 2 kk_.toNat 2 rfl
        have y8_ := hFx43_.1 2 kk_.toNat 8 rfl
        refine sm_T_go 3 (c1 := (56, [some (.inr (.inr (some (12, 0)))), some (.inl kk_), some (.inl a2_), some (.inr (.inr (some (2, kk_.toNat))))], [.inr (.inr (some (2, kk_.toNat))), .inr (.inr (some (0, (0 + kk_.toNat))))], Sx41_)) rfl ?_
        refine sm_T_cal (d1 := 0) (Q1 := vq_55 kk_.toNat Sx41_) rfl rfl (by decide) (vc_55 kk_.toNat Sx41_ hIx42_ ) (fun u_ Sx47_ px50_ => ?_)
        obtain ⟨rfl, vx52_, rfl, px50_⟩ := px50_
        refine sm_T_cal (d1 := 0) (Q1 := vq_24 vx52_ (0 + kk_.toNat) Sx41_) rfl rfl (by decide) (vc_24 vx52_ (0 + kk_.toNat) Sx41_ hIx42_ (by omega)) (fun u_ Sx53_ px56_ => ?_)
        obtain ⟨rfl, vx58_, rfl, px56_⟩ := px56_
        refine sm_T_ri rfl (Or.inl ⟨_, _, rfl, _, rfl, hIx42_, hFx45_, ?_⟩)
        exact jC_bd hJ_ ⟨a9_.2, by omega⟩ hFx45_ c48_ p48_.1 p48_.2 (by decide) (by decide) (by decide) (by decide)
end
/-! 99.zp3a -/
section
/-! the face of the class: runs compared; written by wip/p55/gen/vg -/
/-! ChipFlow.compare -/
def vw_276c : sx_Wl := ([(12, 16)], [113, 114, 115, 117], [])
def vq_276c (bg_ : Int) (mk_ : Int) (c1_ : Nat) (dd_ : Nat) (R1_ : Nat) (S0_ : sm_S) (u_ : Option sm_V) (S1_ : sm_S) : Prop := ∃ v_ : Int, u_ = some (.inl v_) ∧ gi S1_ ∧ ai_fr (sx_W vw_276c) S0_ S1_ ∧ (True)
set_option maxHeartbeats 2000000 in
set_option maxRecDepth 20000 in
theorem vl_276c {sc_ : Nat × (Nat → Int)} (bg_ : Int) (mk_ : Int) (c1_ : Nat) (dd_ : Nat) (R1_ : Nat) (S0_ : sm_S) (hd_ : dOk dd_ S0_) (hb_ : 0 ≤ bg_ ∧ bg_ < 2 ^ R1_) (hr_ : R1_ ≤ 6 ∧ (R1_ : Int) + S0_.1 3 dd_ 1 ≤ 12) (ht_ : ∀ p9_ : Nat, p9_ < 4096 → 0 ≤ S0_.2.2.1 34 (0 + c1_) p9_ ∧ S0_.2.2.1 34 (0 + c1_) p9_ < 2 ^ (16 + R1_)) : ∀ nn_ : Nat, (∀ (ip9_ : Int) (tl_ : Int) (hd9_ : Int) (S_ : sm_S), gi S_ → ai_fr (sx_W vw_276c) S0_ S_ → ((prf S_) ∧ (∀ j9_ : Nat, (j9_ : Int) < tl_ → S_.2.2.1 113 0 (S_.2.2.1 115 0 j9_).toNat ≠ -2 ∧ S_.2.2.1 115 0 j9_ / 64 < 2 ^ R1_ ∧ S_.2.2.1 115 0 j9_ % 64 < 2 ^ (S0_.1 3 dd_ 2).toNat) ∧ (tl_ = (cn1 (pn2 (S_.2.2.1 113 0)) 4096 : Int)) ∧ (1 ≤ tl_ ∧ 0 ≤ hd9_ ∧ hd9_ ≤ 4096 ∧ ip9_ = S0_.1 3 dd_ 1) ∧ True) → ((10000 * (5000 - hd9_) + 5000).toNat) < nn_ → sm_T (mt_P sc_) 1 276 (53, [some (.inr (.inr (some (12, 0)))), some (.inr (.inr (some (34, (0 + c1_))))), some (.inl bg_), some (.inr (.inr (some (3, dd_)))), some (.inl mk_), some (.inl ip9_), none, some (.inl tl_), some (.inl hd9_), none, none, none, none, none, none, none], [], S_) (fun ro9_ => ∃ u_ S1_, ro9_ = (.inl u_, S1_, 0) ∧ vq_276c bg_ mk_ c1_ dd_ R1_ S0_ u_ S1_)) ∧ (∀ (ip9_ : Int) (tl_ : Int) (hd9_ : Int) (pr_ : Int) (he_ : Int) (te_ : Int) (ip_ : Int) (S_ : sm_S), gi S_ → ai_fr (sx_W vw_276c) S0_ S_ → ((prf S_) ∧ (∀ j9_ : Nat, (j9_ : Int) < tl_ → S_.2.2.1 113 0 (S_.2.2.1 115 0 j9_).toNat ≠ -2 ∧ S_.2.2.1 115 0 j9_ / 64 < 2 ^ R1_ ∧ S_.2.2.1 115 0 j9_ % 64 < 2 ^ (S0_.1 3 dd_ 2).toNat) ∧ (tl_ = (cn1 (pn2 (S_.2.2.1 113 0)) 4096 : Int)) ∧ (1 ≤ tl_ ∧ 0 ≤ hd9_ ∧ hd9_ < 4096 ∧ ip9_ = S0_.1 3 dd_ 1 ∧ 0 ≤ ip_ ∧ ip_ ≤ 4096 ∧ 0 ≤ pr_ ∧ pr_ ≤ 4095) ∧ (he_ = i_shl (pr_ / 64) ip9_ ∧ te_ = i_shl (pr_ % 64) ip9_) ∧ (S_.2.2.1 113 0 pr_.toNat ≠ -2 ∧ pr_ / 64 < 2 ^ R1_ ∧ pr_ % 64 < 2 ^ (S0_.1 3 dd_ 2).toNat) ∧ True) → ((10000 * (5000 - hd9_) + 4500 - ip_).toNat) < nn_ → sm_T (mt_P sc_) 1 276 (100, [some (.inr (.inr (some (12, 0)))), some (.inr (.inr (some (34, (0 + c1_))))), some (.inl bg_), some (.inr (.inr (some (3, dd_)))), some (.inl mk_), some (.inl ip9_), none, some (.inl tl_), some (.inl hd9_), some (.inl pr_), some (.inl he_), some (.inl te_), some (.inl ip_), none, none, none], [], S_) (fun ro9_ => ∃ u_ S1_, ro9_ = (.inl u_, S1_, 0) ∧ vq_276c bg_ mk_ c1_ dd_ R1_ S0_ u_ S1_)) := by
  intro nn_
  induction nn_ with
  | zero => exact ⟨fun _ _ _ _ _ _ _ h_ => absurd h_ (Nat.not_lt_zero _), fun _ _ _ _ _ _ _ _ _ _ _ h_ => absurd h_ (Nat.not_lt_zero _)⟩
  | succ nn_ ih_ =>
    refine ⟨?_, ?_⟩
    · rintro ip9_ tl_ hd9_ S_ hI_ hF_ ⟨hp_, hq_, hc_, h0_, -⟩ hm_
      have J9_ := dOk_b hd_
      have J9a := J9_.1
      have J9b := J9_.2.1
      have J9c := J9_.2.2.1
      have J9t := J9_.2.2.2.2
      have wa_ := pw_le (n := R1_) (m := 6) (by omega)
      have wb_ := pw_le (n := (S0_.1 3 dd_ 2).toNat) (m := 6) (by omega)
      have wc_ := pw_pos R1_
      have wd_ := pw_pos (S0_.1 3 dd_ 2).toNat
      have fT_ : S_.2.2.1 34 (0 + c1_) = S0_.2.2.1 34 (0 + c1_) := fr_arr hF_ rfl
      have f47_ : S_.2.2.1 47 (0 + dd_) = S0_.2.2.1 47 (0 + dd_) := fr_arr hF_ rfl
      have cl9_ := cn1_le (pn2 (S_.2.2.1 113 0)) 4096
      refine sm_T_go 2 (c1 := (57, [some (.inr (.inr (some (12, 0)))), some (.inr (.inr (some (34, (0 + c1_))))), some (.inl bg_), some (.inr (.inr (some (3, dd_)))), some (.inl mk_), some (.inl ip9_), none, some (.inl tl_), some (.inl hd9_), none, none, none, none, none, none, none], [.inl tl_, .inl hd9_], S_)) rfl ?_
      refine sm_T_br (a := 3) (z := 167) rfl (fun cx1_ => ?_) (fun cx1_ => ?_)
      · have cx1_ : tl_ ≤ hd9_ := of_decide_eq_true cx1_
        refine sm_T_go 1 (c1 := (225, [some (.inr (.inr (some (12, 0)))), some (.inr (.inr (some (34, (0 + c1_))))), some (.inl bg_), some (.inr (.inr (some (3, dd_)))), some (.inl mk_), some (.inl ip9_), none, some (.inl tl_), some (.inl hd9_), none, none, none, none, none, none, none], [.inl 0], S_)) rfl ?_
        refine sm_T_ri rfl ⟨_, _, rfl, _, rfl, hI_, hF_, ?_⟩
        trivial
      · have cx1_ : ¬ (tl_ ≤ hd9_) := of_decide_eq_false cx1_
        refine sm_T_go 2 (c1 := (65, [some (.inr (.inr (some (12, 0)))), some (.inr (.inr (some (34, (0 + c1_))))), some (.inl bg_), some (.inr (.inr (some (3, dd_)))), some (.inl mk_), some (.inl ip9_), none, some (.inl tl_), some (.inl hd9_), none, none, none, none, none, none, none], [.inl 4096, .inl hd9_], S_)) rfl ?_
        refine sm_T_br (a := 3) (z := 159) rfl (fun cx2_ => ?_) (fun cx2_ => ?_)
        · have cx2_ : 4096 ≤ hd9_ := of_decide_eq_true cx2_
          refine sm_T_go 1 (c1 := (225, [some (.inr (.inr (some (12, 0)))), some (.inr (.inr (some (34, (0 + c1_))))), some (.inl bg_), some (.inr (.inr (some (3, dd_)))), some (.inl mk_), some (.inl ip9_), none, some (.inl tl_), some (.inl hd9_), none, none, none, none, none, none, none], [.inl 0], S_)) rfl ?_
          refine sm_T_ri rfl ⟨_, _, rfl, _, rfl, hI_, hF_, ?_⟩
          trivial
        · have cx2_ : ¬ (4096 ≤ hd9_) := of_decide_eq_false cx2_
          have hq9_ := hq_ hd9_.toNat (by omega)
          have qc9_ := hI_.2 115 0 hd9_.toNat
          refine sm_T_go 3 (c1 := (74, [some (.inr (.inr (some (12, 0)))), some (.inr (.inr (some (34, (0 + c1_))))), some (.inl bg_), some (.inr (.inr (some (3, dd_)))), some (.inl mk_), some (.inl ip9_), none, some (.inl tl_), some (.inl hd9_), none, none, none, none, none, none, none], [.inl hd9_, .inr (.inr (some (115, 0)))], S_)) rfl ?_
          refine sm_T_iald (n := 4096) rfl rfl (by omega) (by omega) ?_
          have bx3_ : 0 ≤ S_.2.2.1 115 0 hd9_.toNat ∧ S_.2.2.1 115 0 hd9_.toNat ≤ 4095 := hI_.2 115 0 _
          refine sm_T_go 3 (c1 := (81, [some (.inr (.inr (some (12, 0)))), some (.inr (.inr (some (34, (0 + c1_))))), some (.inl bg_), some (.inr (.inr (some (3, dd_)))), some (.inl mk_), some (.inl ip9_), none, some (.inl tl_), some (.inl hd9_), some (.inl (S_.2.2.1 115 0 hd9_.toNat)), none, none, none, none, none, none], [.inl 6, .inl (S_.2.2.1 115 0 hd9_.toNat)], S_)) rfl ?_
          refine sm_T_bin (w := ((S_.2.2.1 115 0 hd9_.toNat) / 64)) rfl (bi_shr (k := 6) (by decide) (by omega) (by omega)) ?_ -- pc_ 81
          refine sm_T_go 1 (c1 := (84, [some (.inr (.inr (some (12, 0)))), some (.inr (.inr (some (34, (0 + c1_))))), some (.inl bg_), some (.inr (.inr (some (3, dd_)))), some (.inl mk_), some (.inl ip9_), none, some (.inl tl_), some (.inl hd9_), some (.inl (S_.2.2.1 115 0 hd9_.toNat)), none, none, none, none, none, none], [.inl ip9_, .inl ((S_.2.2.1 115 0 hd9_.toNat) / 64)], S_)) rfl ?_
          refine sm_T_bin (w := (i_shl ((S_.2.2.1 115 0 hd9_.toNat) / 64) ip9_)) rfl rfl ?_ -- pc_ 84
          refine sm_T_go 3 (c1 := (91, [some (.inr (.inr (some (12, 0)))), some (.inr (.inr (some (34, (0 + c1_))))), some (.inl bg_), some (.inr (.inr (some (3, dd_)))), some (.inl mk_), some (.inl ip9_), none, some (.inl tl_), some (.inl hd9_), some (.inl (S_.2.2.1 115 0 hd9_.toNat)), some (.inl (i_shl ((S_.2.2.1 115 0 hd9_.toNat) / 64) ip9_)), none, none, none, none, none], [.inl 63, .inl (S_.2.2.1 115 0 hd9_.toNat)], S_)) rfl ?_
          refine sm_T_bin (w := ((S_.2.2.1 115 0 hd9_.toNat) % 64)) rfl (bi_msk (k := 6) (by decide)) ?_ -- pc_ 91
          refine sm_T_go 1 (c1 := (94, [some (.inr (.inr (some (12, 0)))), some (.inr (.inr (some (34, (0 + c1_))))), some (.inl bg_), some (.inr (.inr (some (3, dd_)))), some (.inl mk_), some (.inl ip9_), none, some (.inl tl_), some (.inl hd9_), some (.inl (S_.2.2.1 115 0 hd9_.toNat)), some (.inl (i_shl ((S_.2.2.1 115 0 hd9_.toNat) / 64) ip9_)), none, none, none, none, none], [.inl ip9_, .inl ((S_.2.2.1 115 0 hd9_.toNat) % 64)], S_)) rfl ?_
          refine sm_T_bin (w := (i_shl ((S_.2.2.1 115 0 hd9_.toNat) % 64) ip9_)) rfl rfl ?_ -- pc_ 94
          refine sm_T_go 3 (c1 := (100, [some (.inr (.inr (some (12, 0)))), some (.inr (.inr (some (34, (0 + c1_))))), some (.inl bg_), some (.inr (.inr (some (3, dd_)))), some (.inl mk_), some (.inl ip9_), none, some (.inl tl_), some (.inl hd9_), some (.inl (S_.2.2.1 115 0 hd9_.toNat)), some (.inl (i_shl ((S_.2.2.1 115 0 hd9_.toNat) / 64) ip9_)), some (.inl (i_shl ((S_.2.2.1 115 0 hd9_.toNat) % 64) ip9_)), some (.inl 0), none, none, none], [], S_)) rfl ?_
          refine ih_.2 ip9_ tl_ hd9_ (S_.2.2.1 115 0 hd9_.toNat) (i_shl ((S_.2.2.1 115 0 hd9_.toNat) / 64) ip9_) (i_shl ((S_.2.2.1 115 0 hd9_.toNat) % 64) ip9_) 0 S_ hI_ hF_ ⟨?_, ?_, ?_, ?_, ?_, ?_, trivial⟩ ?_
          · exact hp_
          · exact hq_
          · exact hc_
          · omega
          · exact ⟨rfl, rfl⟩
          · exact hq9_
          · omega
    · rintro ip9_ tl_ hd9_ pr_ he_ te_ ip_ S_ hI_ hF_ ⟨hp_, hq_, hc_, h0_, hh_, hz_, -⟩ hm_
      have J9_ := dOk_b hd_
      have J9a := J9_.1
      have J9b := J9_.2.1
      have J9c := J9_.2.2.1
      have J9t := J9_.2.2.2.2
      have wa_ := pw_le (n := R1_) (m := 6) (by omega)
      have wb_ := pw_le (n := (S0_.1 3 dd_ 2).toNat) (m := 6) (by omega)
      have wc_ := pw_pos R1_
      have wd_ := pw_pos (S0_.1 3 dd_ 2).toNat
      have fT_ : S_.2.2.1 34 (0 + c1_) = S0_.2.2.1 34 (0 + c1_) := fr_arr hF_ rfl
      have f47_ : S_.2.2.1 47 (0 + dd_) = S0_.2.2.1 47 (0 + dd_) := fr_arr hF_ rfl
      have cl9_ := cn1_le (pn2 (S_.2.2.1 113 0)) 4096
      refine sm_T_go 3 (c1 := (105, [some (.inr (.inr (some (12, 0)))), some (.inr (.inr (some (34, (0 + c1_))))), some (.inl bg_), some (.inr (.inr (some (3, dd_)))), some (.inl mk_), some (.inl ip9_), none, some (.inl tl_), some (.inl hd9_), some (.inl pr_), some (.inl he_), some (.inl te_), some (.inl ip_), none, none, none], [.inl ip9_, .inl 1, .inl ip_], S_)) rfl ?_
      refine sm_T_bin (w := (i_shl 1 ip9_)) rfl rfl ?_ -- pc_ 105
      have bx1_ := i_shl1 (e := ip9_) (by omega) (by omega)
      have wp_ := pw_le (n := (ip9_).toNat) (m := 12) (by omega)
      have wp0_ := pw_pos (ip9_).toNat
      have wp1_ : (2 : Int) ^ (ip9_).toNat = 2 ^ (S0_.1 3 dd_ 1).toNat := by rw [show ip9_ = S0_.1 3 dd_ 1 by omega]
      refine sm_T_br (a := 3) (z := 112) rfl (fun cx5_ => ?_) (fun cx5_ => ?_)
      · have cx5_ : (i_shl 1 ip9_) ≤ ip_ := of_decide_eq_true cx5_
        refine sm_T_inc (a := 8) (z := 1) (v := hd9_) (w := hd9_ + 1) rfl rfl (by omega) (by omega) (by omega) ?_ -- pc_ 218
        refine sm_T_go 1 (c1 := (53, [some (.inr (.inr (some (12, 0)))), some (.inr (.inr (some (34, (0 + c1_))))), some (.inl bg_), some (.inr (.inr (some (3, dd_)))), some (.inl mk_), some (.inl ip9_), none, some (.inl tl_), some (.inl (hd9_ + 1)), some (.inl pr_), some (.inl he_), some (.inl te_), some (.inl ip_), none, none, none], [], S_)) rfl ?_
        refine sm_T_wk [some (.inr (.inr (some (12, 0)))), some (.inr (.inr (some (34, (0 + c1_))))), some (.inl bg_), some (.inr (.inr (some (3, dd_)))), some (.inl mk_), some (.inl ip9_), none, some (.inl tl_), some (.inl (hd9_ + 1)), none, none, none, none, none, none, none] (by exact ⟨rfl, rfl, rfl, rfl, rfl, rfl, rfl, rfl, trivial⟩) ?_
        refine ih_.1 ip9_ tl_ (hd9_ + 1) S_ hI_ hF_ ⟨?_, ?_, ?_, ?_, trivial⟩ ?_
        · exact hp_
        · exact hq_
        · exact hc_
        · omega
        · omega
      · have cx5_ : ¬ ((i_shl 1 ip9_) ≤ ip_) := of_decide_eq_false cx5_
        have p1_ := pat_b (s_ := pr_ / 64) (i_ := ip_) (R_ := R1_) (I_ := (S0_.1 3 dd_ 1).toNat) (by omega) (by omega) (by omega)
        have p2_ := pat_b (s_ := pr_ % 64) (i_ := ip_) (R_ := (S0_.1 3 dd_ 2).toNat) (I_ := (S0_.1 3 dd_ 1).toNat) (by omega) (by omega) (by omega)
        have p3_ := pw_le (n := R1_ + (S0_.1 3 dd_ 1).toNat) (m := 12) (by omega)
        have p4_ := pw_le (n := (S0_.1 3 dd_ 2).toNat + (S0_.1 3 dd_ 1).toNat) (m := 12) (by omega)
        rw [show (((S0_.1 3 dd_ 1).toNat : Nat) : Int) = ip9_ by omega, ← hh_.1] at p1_
        rw [show (((S0_.1 3 dd_ 1).toNat : Nat) : Int) = ip9_ by omega, ← hh_.2] at p2_
        have t1_ := ht_ (i_or he_ ip_).toNat (by omega)
        have t2_ := J9t (i_or te_ ip_).toNat (by omega)
        rw [← fT_] at t1_
        rw [← f47_] at t2_
        have n1_ := shr16 t1_
        have n2_ := shr16 t2_
        have o9_ := or64 (a_ := S_.2.2.1 34 (0 + c1_) (i_or he_ ip_).toNat / 65536) (b_ := S_.2.2.1 47 (0 + dd_) (i_or te_ ip_).toNat / 65536) (by omega) (by omega)
        refine sm_T_go 3 (c1 := (114, [some (.inr (.inr (some (12, 0)))), some (.inr (.inr (some (34, (0 + c1_))))), some (.inl bg_), some (.inr (.inr (some (3, dd_)))), some (.inl mk_), some (.inl ip9_), none, some (.inl tl_), some (.inl hd9_), some (.inl pr_), some (.inl he_), some (.inl te_), some (.inl ip_), none, none, none], [.inl ip_, .inl he_, .inr (.inr (some (34, (0 + c1_))))], S_)) rfl ?_
        refine sm_T_bin (w := (i_or he_ ip_)) rfl rfl ?_ -- pc_ 114
        refine sm_T_iald (n := 4096) rfl rfl (by omega) (by omega) ?_
        have bx6_ : 0 ≤ S_.2.2.1 34 (0 + c1_) (i_or he_ ip_).toNat ∧ S_.2.2.1 34 (0 + c1_) (i_or he_ ip_).toNat ≤ 4194303 := hI_.2 34 (0 + c1_) _
        refine sm_T_go 5 (c1 := (126, [some (.inr (.inr (some (12, 0)))), some (.inr (.inr (some (34, (0 + c1_))))), some (.inl bg_), some (.inr (.inr (some (3, dd_)))), some (.inl mk_), some (.inl ip9_), none, some (.inl tl_), some (.inl hd9_), some (.inl pr_), some (.inl he_), some (.inl te_), some (.inl ip_), some (.inl (S_.2.2.1 34 (0 + c1_) (i_or he_ ip_).toNat)), none, none], [.inl ip_, .inl te_, .inr (.inr (some (47, (0 + dd_))))], S_)) rfl ?_
        refine sm_T_bin (w := (i_or te_ ip_)) rfl rfl ?_ -- pc_ 126
        refine sm_T_iald (n := 4096) rfl rfl (by omega) (by omega) ?_
        have bx7_ : 0 ≤ S_.2.2.1 47 (0 + dd_) (i_or te_ ip_).toNat ∧ S_.2.2.1 47 (0 + dd_) (i_or te_ ip_).toNat ≤ 4194303 := hI_.2 47 (0 + dd_) _
        refine sm_T_go 3 (c1 := (134, [some (.inr (.inr (some (12, 0)))), some (.inr (.inr (some (34, (0 + c1_))))), some (.inl bg_), some (.inr (.inr (some (3, dd_)))), some (.inl mk_), some (.inl ip9_), none, some (.inl tl_), some (.inl hd9_), some (.inl pr_), some (.inl he_), some (.inl te_), some (.inl ip_), some (.inl (S_.2.2.1 34 (0 + c1_) (i_or he_ ip_).toNat)), some (.inl (S_.2.2.1 47 (0 + dd_) (i_or te_ ip_).toNat)), none], [.inl (S_.2.2.1 47 (0 + dd_) (i_or te_ ip_).toNat), .inl (S_.2.2.1 34 (0 + c1_) (i_or he_ ip_).toNat)], S_)) rfl ?_
        refine sm_T_bin (w := (i_xor (S_.2.2.1 34 (0 + c1_) (i_or he_ ip_).toNat) (S_.2.2.1 47 (0 + dd_) (i_or te_ ip_).toNat))) rfl rfl ?_ -- pc_ 134
        refine sm_T_go 1 (c1 := (137, [some (.inr (.inr (some (12, 0)))), some (.inr (.inr (some (34, (0 + c1_))))), some (.inl bg_), some (.inr (.inr (some (3, dd_)))), some (.inl mk_), some (.inl ip9_), none, some (.inl tl_), some (.inl hd9_), some (.inl pr_), some (.inl he_), some (.inl te_), some (.inl ip_), some (.inl (S_.2.2.1 34 (0 + c1_) (i_or he_ ip_).toNat)), some (.inl (S_.2.2.1 47 (0 + dd_) (i_or te_ ip_).toNat)), none], [.inl mk_, .inl (i_xor (S_.2.2.1 34 (0 + c1_) (i_or he_ ip_).toNat) (S_.2.2.1 47 (0 + dd_) (i_or te_ ip_).toNat))], S_)) rfl ?_
        refine sm_T_bin (w := (i_and (i_xor (S_.2.2.1 34 (0 + c1_) (i_or he_ ip_).toNat) (S_.2.2.1 47 (0 + dd_) (i_or te_ ip_).toNat)) mk_)) rfl rfl ?_ -- pc_ 137
        refine sm_T_b0 (a := 0) (z := 16) rfl (fun cx8_ => ?_) (fun cx8_ => ?_)
        · have cx8_ : (i_and (i_xor (S_.2.2.1 34 (0 + c1_) (i_or he_ ip_).toNat) (S_.2.2.1 47 (0 + dd_) (i_or te_ ip_).toNat)) mk_) = 0 := of_decide_eq_true cx8_
          refine sm_T_go 2 (c1 := (158, [some (.inr (.inr (some (12, 0)))), some (.inr (.inr (some (34, (0 + c1_))))), some (.inl bg_), some (.inr (.inr (some (3, dd_)))), some (.inl mk_), some (.inl ip9_), none, some (.inl tl_), some (.inl hd9_), some (.inl pr_), some (.inl he_), some (.inl te_), some (.inl ip_), some (.inl (S_.2.2.1 34 (0 + c1_) (i_or he_ ip_).toNat)), some (.inl (S_.2.2.1 47 (0 + dd_) (i_or te_ ip_).toNat)), none], [.inl 16, .inl (S_.2.2.1 34 (0 + c1_) (i_or he_ ip_).toNat)], S_)) rfl ?_
          refine sm_T_bin (w := ((S_.2.2.1 34 (0 + c1_) (i_or he_ ip_).toNat) / 65536)) rfl (bi_shr (k := 16) (by decide) (by omega) (by omega)) ?_ -- pc_ 158
          refine sm_T_go 1 (c1 := (161, [some (.inr (.inr (some (12, 0)))), some (.inr (.inr (some (34, (0 + c1_))))), some (.inl bg_), some (.inr (.inr (some (3, dd_)))), some (.inl mk_), some (.inl ip9_), none, some (.inl tl_), some (.inl hd9_), some (.inl pr_), some (.inl he_), some (.inl te_), some (.inl ip_), some (.inl (S_.2.2.1 34 (0 + c1_) (i_or he_ ip_).toNat)), some (.inl (S_.2.2.1 47 (0 + dd_) (i_or te_ ip_).toNat)), none], [.inl 6, .inl ((S_.2.2.1 34 (0 + c1_) (i_or he_ ip_).toNat) / 65536)], S_)) rfl ?_
          refine sm_T_bin (w := 64 * ((S_.2.2.1 34 (0 + c1_) (i_or he_ ip_).toNat) / 65536)) rfl (bi_shl (k := 6) (by decide) (by omega) (by omega) (by omega)) ?_ -- pc_ 161
          refine sm_T_go 2 (c1 := (166, [some (.inr (.inr (some (12, 0)))), some (.inr (.inr (some (34, (0 + c1_))))), some (.inl bg_), some (.inr (.inr (some (3, dd_)))), some (.inl mk_), some (.inl ip9_), none, some (.inl tl_), some (.inl hd9_), some (.inl pr_), some (.inl he_), some (.inl te_), some (.inl ip_), some (.inl (S_.2.2.1 34 (0 + c1_) (i_or he_ ip_).toNat)), some (.inl (S_.2.2.1 47 (0 + dd_) (i_or te_ ip_).toNat)), none], [.inl 16, .inl (S_.2.2.1 47 (0 + dd_) (i_or te_ ip_).toNat), .inl (64 * ((S_.2.2.1 34 (0 + c1_) (i_or he_ ip_).toNat) / 65536))], S_)) rfl ?_
          refine sm_T_bin (w := ((S_.2.2.1 47 (0 + dd_) (i_or te_ ip_).toNat) / 65536)) rfl (bi_shr (k := 16) (by decide) (by omega) (by omega)) ?_ -- pc_ 166
          refine sm_T_bin (w := (i_or (64 * ((S_.2.2.1 34 (0 + c1_) (i_or he_ ip_).toNat) / 65536)) ((S_.2.2.1 47 (0 + dd_) (i_or te_ ip_).toNat) / 65536))) rfl rfl ?_ -- pc_ 167
          refine sm_T_go 4 (c1 := (176, [some (.inr (.inr (some (12, 0)))), some (.inr (.inr (some (34, (0 + c1_))))), some (.inl bg_), some (.inr (.inr (some (3, dd_)))), some (.inl mk_), some (.inl ip9_), none, some (.inl tl_), some (.inl hd9_), some (.inl pr_), some (.inl he_), some (.inl te_), some (.inl ip_), some (.inl (S_.2.2.1 34 (0 + c1_) (i_or he_ ip_).toNat)), some (.inl (S_.2.2.1 47 (0 + dd_) (i_or te_ ip_).toNat)), some (.inl (i_or (64 * ((S_.2.2.1 34 (0 + c1_) (i_or he_ ip_).toNat) / 65536)) ((S_.2.2.1 47 (0 + dd_) (i_or te_ ip_).toNat) / 65536)))], [.inl (i_or (64 * ((S_.2.2.1 34 (0 + c1_) (i_or he_ ip_).toNat) / 65536)) ((S_.2.2.1 47 (0 + dd_) (i_or te_ ip_).toNat) / 65536)), .inr (.inr (some (113, 0)))], S_)) rfl ?_
          refine sm_T_iald (n := 4096) rfl rfl (by omega) (by omega) ?_
          have bx9_ : (-2) ≤ S_.2.2.1 113 0 (i_or (64 * ((S_.2.2.1 34 (0 + c1_) (i_or he_ ip_).toNat) / 65536)) ((S_.2.2.1 47 (0 + dd_) (i_or te_ ip_).toNat) / 65536)).toNat ∧ S_.2.2.1 113 0 (i_or (64 * ((S_.2.2.1 34 (0 + c1_) (i_or he_ ip_).toNat) / 65536)) ((S_.2.2.1 47 (0 + dd_) (i_or te_ ip_).toNat) / 65536)).toNat ≤ 4095 := hI_.2 113 0 _
          refine sm_T_go 1 (c1 := (179, [some (.inr (.inr (some (12, 0)))), some (.inr (.inr (some (34, (0 + c1_))))), some (.inl bg_), some (.inr (.inr (some (3, dd_)))), some (.inl mk_), some (.inl ip9_), none, some (.inl tl_), some (.inl hd9_), some (.inl pr_), some (.inl he_), some (.inl te_), some (.inl ip_), some (.inl (S_.2.2.1 34 (0 + c1_) (i_or he_ ip_).toNat)), some (.inl (S_.2.2.1 47 (0 + dd_) (i_or te_ ip_).toNat)), some (.inl (i_or (64 * ((S_.2.2.1 34 (0 + c1_) (i_or he_ ip_).toNat) / 65536)) ((S_.2.2.1 47 (0 + dd_) (i_or te_ ip_).toNat) / 65536)))], [.inl (-2), .inl (S_.2.2.1 113 0 (i_or (64 * ((S_.2.2.1 34 (0 + c1_) (i_or he_ ip_).toNat) / 65536)) ((S_.2.2.1 47 (0 + dd_) (i_or te_ ip_).toNat) / 65536)).toNat)], S_)) rfl ?_
          refine sm_T_br (a := 1) (z := 33) rfl (fun cx10_ => ?_) (fun cx10_ => ?_)
          · have cx10_ : (S_.2.2.1 113 0 (i_or (64 * ((S_.2.2.1 34 (0 + c1_) (i_or he_ ip_).toNat) / 65536)) ((S_.2.2.1 47 (0 + dd_) (i_or te_ ip_).toNat) / 65536)).toNat) ≠ (-2) := of_decide_eq_true cx10_
            refine sm_T_inc (a := 12) (z := 1) (v := ip_) (w := ip_ + 1) rfl rfl (by omega) (by omega) (by omega) ?_ -- pc_ 212
            refine sm_T_go 1 (c1 := (100, [some (.inr (.inr (some (12, 0)))), some (.inr (.inr (some (34, (0 + c1_))))), some (.inl bg_), some (.inr (.inr (some (3, dd_)))), some (.inl mk_), some (.inl ip9_), none, some (.inl tl_), some (.inl hd9_), some (.inl pr_), some (.inl he_), some (.inl te_), some (.inl (ip_ + 1)), some (.inl (S_.2.2.1 34 (0 + c1_) (i_or he_ ip_).toNat)), some (.inl (S_.2.2.1 47 (0 + dd_) (i_or te_ ip_).toNat)), some (.inl (i_or (64 * ((S_.2.2.1 34 (0 + c1_) (i_or he_ ip_).toNat) / 65536)) ((S_.2.2.1 47 (0 + dd_) (i_or te_ ip_).toNat) / 65536)))], [], S_)) rfl ?_
            refine sm_T_wk [some (.inr (.inr (some (12, 0)))), some (.inr (.inr (some (34, (0 + c1_))))), some (.inl bg_), some (.inr (.inr (some (3, dd_)))), some (.inl mk_), some (.inl ip9_), none, some (.inl tl_), some (.inl hd9_), some (.inl pr_), some (.inl he_), some (.inl te_), some (.inl (ip_ + 1)), none, none, none] (by exact ⟨rfl, rfl, rfl, rfl, rfl, rfl, rfl, rfl, rfl, rfl, rfl, rfl, trivial⟩) ?_
            refine ih_.2 ip9_ tl_ hd9_ pr_ he_ te_ (ip_ + 1) S_ hI_ hF_ ⟨?_, ?_, ?_, ?_, ?_, ?_, trivial⟩ ?_
            · exact hp_
            · exact hq_
            · exact hc_
            · omega
            · exact hh_
            · exact hz_
            · omega
          · have cx10_ : ¬ ((S_.2.2.1 113 0 (i_or (64 * ((S_.2.2.1 34 (0 + c1_) (i_or he_ ip_).toNat) / 65536)) ((S_.2.2.1 47 (0 + dd_) (i_or te_ ip_).toNat) / 65536)).toNat) ≠ (-2)) := of_decide_eq_false cx10_
            have lt9_ := cn1_lt (f := pn2 (S_.2.2.1 113 0)) (j := (i_or (64 * (S_.2.2.1 34 (0 + c1_) (i_or he_ ip_).toNat / 65536)) (S_.2.2.1 47 (0 + dd_) (i_or te_ ip_).toNat / 65536)).toNat) (fun y9_ => absurd (pn2_1.mp y9_) cx10_) (n := 4096) (by omega)
            refine sm_T_go 4 (c1 := (190, [some (.inr (.inr (some (12, 0)))), some (.inr (.inr (some (34, (0 + c1_))))), some (.inl bg_), some (.inr (.inr (some (3, dd_)))), some (.inl mk_), some (.inl ip9_), none, some (.inl tl_), some (.inl hd9_), some (.inl pr_), some (.inl he_), some (.inl te_), some (.inl ip_), some (.inl (S_.2.2.1 34 (0 + c1_) (i_or he_ ip_).toNat)), some (.inl (S_.2.2.1 47 (0 + dd_) (i_or te_ ip_).toNat)), some (.inl (i_or (64 * ((S_.2.2.1 34 (0 + c1_) (i_or he_ ip_).toNat) / 65536)) ((S_.2.2.1 47 (0 + dd_) (i_or te_ ip_).toNat) / 65536)))], [.inl pr_, .inl (i_or (64 * ((S_.2.2.1 34 (0 + c1_) (i_or he_ ip_).toNat) / 65536)) ((S_.2.2.1 47 (0 + dd_) (i_or te_ ip_).toNat) / 65536)), .inr (.inr (some (113, 0)))], S_)) rfl ?_
            refine sm_T_iast (n := 4096) rfl rfl (by omega) (by omega) ?_
            have hIx11_ : gi (sm_aI S_ 113 0 (i_or (64 * ((S_.2.2.1 34 (0 + c1_) (i_or he_ ip_).toNat) / 65536)) ((S_.2.2.1 47 (0 + dd_) (i_or te_ ip_).toNat) / 65536)).toNat pr_) := gi_aI hI_ (show (-2) ≤ pr_ ∧ pr_ ≤ 4095 from ⟨by omega, by omega⟩)
            have hFx12_ : ai_fr (sx_W vw_276c) S0_ (sm_aI S_ 113 0 (i_or (64 * ((S_.2.2.1 34 (0 + c1_) (i_or he_ ip_).toNat) / 65536)) ((S_.2.2.1 47 (0 + dd_) (i_or te_ ip_).toNat) / 65536)).toNat pr_) := ai_fr_tr hF_ (ai_fr_aI rfl)
            refine sm_T_go 4 (c1 := (199, [some (.inr (.inr (some (12, 0)))), some (.inr (.inr (some (34, (0 + c1_))))), some (.inl bg_), some (.inr (.inr (some (3, dd_)))), some (.inl mk_), some (.inl ip9_), none, some (.inl tl_), some (.inl hd9_), some (.inl pr_), some (.inl he_), some (.inl te_), some (.inl ip_), some (.inl (S_.2.2.1 34 (0 + c1_) (i_or he_ ip_).toNat)), some (.inl (S_.2.2.1 47 (0 + dd_) (i_or te_ ip_).toNat)), some (.inl (i_or (64 * ((S_.2.2.1 34 (0 + c1_) (i_or he_ ip_).toNat) / 65536)) ((S_.2.2.1 47 (0 + dd_) (i_or te_ ip_).toNat) / 65536)))], [.inl ip_, .inl (i_or (64 * ((S_.2.2.1 34 (0 + c1_) (i_or he_ ip_).toNat) / 65536)) ((S_.2.2.1 47 (0 + dd_) (i_or te_ ip_).toNat) / 65536)), .inr (.inr (some (114, 0)))], sm_aI S_ 113 0 (i_or (64 * ((S_.2.2.1 34 (0 + c1_) (i_or he_ ip_).toNat) / 65536)) ((S_.2.2.1 47 (0 + dd_) (i_or te_ ip_).toNat) / 65536)).toNat pr_)) rfl ?_
            refine sm_T_iast (n := 4096) rfl rfl (by omega) (by omega) ?_
            have hIx13_ : gi (sm_aI (sm_aI S_ 113 0 (i_or (64 * ((S_.2.2.1 34 (0 + c1_) (i_or he_ ip_).toNat) / 65536)) ((S_.2.2.1 47 (0 + dd_) (i_or te_ ip_).toNat) / 65536)).toNat pr_) 114 0 (i_or (64 * ((S_.2.2.1 34 (0 + c1_) (i_or he_ ip_).toNat) / 65536)) ((S_.2.2.1 47 (0 + dd_) (i_or te_ ip_).toNat) / 65536)).toNat ip_) := gi_aI hIx11_ (show 0 ≤ ip_ ∧ ip_ ≤ 4095 from ⟨by omega, by omega⟩)
            have hFx14_ : ai_fr (sx_W vw_276c) S0_ (sm_aI (sm_aI S_ 113 0 (i_or (64 * ((S_.2.2.1 34 (0 + c1_) (i_or he_ ip_).toNat) / 65536)) ((S_.2.2.1 47 (0 + dd_) (i_or te_ ip_).toNat) / 65536)).toNat pr_) 114 0 (i_or (64 * ((S_.2.2.1 34 (0 + c1_) (i_or he_ ip_).toNat) / 65536)) ((S_.2.2.1 47 (0 + dd_) (i_or te_ ip_).toNat) / 65536)).toNat ip_) := ai_fr_tr hFx12_ (ai_fr_aI rfl)
            refine sm_T_go 4 (c1 := (208, [some (.inr (.inr (some (12, 0)))), some (.inr (.inr (some (34, (0 + c1_))))), some (.inl bg_), some (.inr (.inr (some (3, dd_)))), some (.inl mk_), some (.inl ip9_), none, some (.inl tl_), some (.inl hd9_), some (.inl pr_), some (.inl he_), some (.inl te_), some (.inl ip_), some (.inl (S_.2.2.1 34 (0 + c1_) (i_or he_ ip_).toNat)), some (.inl (S_.2.2.1 47 (0 + dd_) (i_or te_ ip_).toNat)), some (.inl (i_or (64 * ((S_.2.2.1 34 (0 + c1_) (i_or he_ ip_).toNat) / 65536)) ((S_.2.2.1 47 (0 + dd_) (i_or te_ ip_).toNat) / 65536)))], [.inl (i_or (64 * ((S_.2.2.1 34 (0 + c1_) (i_or he_ ip_).toNat) / 65536)) ((S_.2.2.1 47 (0 + dd_) (i_or te_ ip_).toNat) / 65536)), .inl tl_, .inr (.inr (some (115, 0)))], sm_aI (sm_aI S_ 113 0 (i_or (64 * ((S_.2.2.1 34 (0 + c1_) (i_or he_ ip_).toNat) / 65536)) ((S_.2.2.1 47 (0 + dd_) (i_or te_ ip_).toNat) / 65536)).toNat pr_) 114 0 (i_or (64 * ((S_.2.2.1 34 (0 + c1_) (i_or he_ ip_).toNat) / 65536)) ((S_.2.2.1 47 (0 + dd_) (i_or te_ ip_).toNat) / 65536)).toNat ip_)) rfl ?_
            refine sm_T_iast (n := 4096) rfl rfl (by omega) (by omega) ?_
            have hIx15_ : gi (sm_aI (sm_aI (sm_aI S_ 113 0 (i_or (64 * ((S_.2.2.1 34 (0 + c1_) (i_or he_ ip_).toNat) / 65536)) ((S_.2.2.1 47 (0 + dd_) (i_or te_ ip_).toNat) / 65536)).toNat pr_) 114 0 (i_or (64 * ((S_.2.2.1 34 (0 + c1_) (i_or he_ ip_).toNat) / 65536)) ((S_.2.2.1 47 (0 + dd_) (i_or te_ ip_).toNat) / 65536)).toNat ip_) 115 0 tl_.toNat (i_or (64 * ((S_.2.2.1 34 (0 + c1_) (i_or he_ ip_).toNat) / 65536)) ((S_.2.2.1 47 (0 + dd_) (i_or te_ ip_).toNat) / 65536))) := gi_aI hIx13_ (show 0 ≤ (i_or (64 * ((S_.2.2.1 34 (0 + c1_) (i_or he_ ip_).toNat) / 65536)) ((S_.2.2.1 47 (0 + dd_) (i_or te_ ip_).toNat) / 65536)) ∧ (i_or (64 * ((S_.2.2.1 34 (0 + c1_) (i_or he_ ip_).toNat) / 65536)) ((S_.2.2.1 47 (0 + dd_) (i_or te_ ip_).toNat) / 65536)) ≤ 4095 from ⟨by omega, by omega⟩)
            have hFx16_ : ai_fr (sx_W vw_276c) S0_ (sm_aI (sm_aI (sm_aI S_ 113 0 (i_or (64 * ((S_.2.2.1 34 (0 + c1_) (i_or he_ ip_).toNat) / 65536)) ((S_.2.2.1 47 (0 + dd_) (i_or te_ ip_).toNat) / 65536)).toNat pr_) 114 0 (i_or (64 * ((S_.2.2.1 34 (0 + c1_) (i_or he_ ip_).toNat) / 65536)) ((S_.2.2.1 47 (0 + dd_) (i_or te_ ip_).toNat) / 65536)).toNat ip_) 115 0 tl_.toNat (i_or (64 * ((S_.2.2.1 34 (0 + c1_) (i_or he_ ip_).toNat) / 65536)) ((S_.2.2.1 47 (0 + dd_) (i_or te_ ip_).toNat) / 65536))) := ai_fr_tr hFx14_ (ai_fr_aI rfl)
            refine sm_T_inc (a := 7) (z := 1) (v := tl_) (w := tl_ + 1) rfl rfl (by omega) (by omega) (by omega) ?_ -- pc_ 209
            refine sm_T_inc (a := 12) (z := 1) (v := ip_) (w := ip_ + 1) rfl rfl (by omega) (by omega) (by omega) ?_ -- pc_ 212
            refine sm_T_go 1 (c1 := (100, [some (.inr (.inr (some (12, 0)))), some (.inr (.inr (some (34, (0 + c1_))))), some (.inl bg_), some (.inr (.inr (some (3, dd_)))), some (.inl mk_), some (.inl ip9_), none, some (.inl (tl_ + 1)), some (.inl hd9_), some (.inl pr_), some (.inl he_), some (.inl te_), some (.inl (ip_ + 1)), some (.inl (S_.2.2.1 34 (0 + c1_) (i_or he_ ip_).toNat)), some (.inl (S_.2.2.1 47 (0 + dd_) (i_or te_ ip_).toNat)), some (.inl (i_or (64 * ((S_.2.2.1 34 (0 + c1_) (i_or he_ ip_).toNat) / 65536)) ((S_.2.2.1 47 (0 + dd_) (i_or te_ ip_).toNat) / 65536)))], [], sm_aI (sm_aI (sm_aI S_ 113 0 (i_or (64 * ((S_.2.2.1 34 (0 + c1_) (i_or he_ ip_).toNat) / 65536)) ((S_.2.2.1 47 (0 + dd_) (i_or te_ ip_).toNat) / 65536)).toNat pr_) 114 0 (i_or (64 * ((S_.2.2.1 34 (0 + c1_) (i_or he_ ip_).toNat) / 65536)) ((S_.2.2.1 47 (0 + dd_) (i_or te_ ip_).toNat) / 65536)).toNat ip_) 115 0 tl_.toNat (i_or (64 * ((S_.2.2.1 34 (0 + c1_) (i_or he_ ip_).toNat) / 65536)) ((S_.2.2.1 47 (0 + dd_) (i_or te_ ip_).toNat) / 65536)))) rfl ?_
            refine sm_T_wk [some (.inr (.inr (some (12, 0)))), some (.inr (.inr (some (34, (0 + c1_))))), some (.inl bg_), some (.inr (.inr (some (3, dd_)))), some (.inl mk_), some (.inl ip9_), none, some (.inl (tl_ + 1)), some (.inl hd9_), some (.inl pr_), some (.inl he_), some (.inl te_), some (.inl (ip_ + 1)), none, none, none] (by exact ⟨rfl, rfl, rfl, rfl, rfl, rfl, rfl, rfl, rfl, rfl, rfl, rfl, trivial⟩) ?_
            refine ih_.2 ip9_ (tl_ + 1) hd9_ pr_ he_ te_ (ip_ + 1) (sm_aI (sm_aI (sm_aI S_ 113 0 (i_or (64 * ((S_.2.2.1 34 (0 + c1_) (i_or he_ ip_).toNat) / 65536)) ((S_.2.2.1 47 (0 + dd_) (i_or te_ ip_).toNat) / 65536)).toNat pr_) 114 0 (i_or (64 * ((S_.2.2.1 34 (0 + c1_) (i_or he_ ip_).toNat) / 65536)) ((S_.2.2.1 47 (0 + dd_) (i_or te_ ip_).toNat) / 65536)).toNat ip_) 115 0 tl_.toNat (i_or (64 * ((S_.2.2.1 34 (0 + c1_) (i_or he_ ip_).toNat) / 65536)) ((S_.2.2.1 47 (0 + dd_) (i_or te_ ip_).toNat) / 65536))) hIx15_ hFx16_ ⟨?_, ?_, ?_, ?_, ?_, ?_, trivial⟩ ?_
            · obtain ⟨NN_, hNN_⟩ : ∃ NN_, NN_ = i_or (64 * (S_.2.2.1 34 (0 + c1_) (i_or he_ ip_).toNat / 65536)) (S_.2.2.1 47 (0 + dd_) (i_or te_ ip_).toNat / 65536) := ⟨_, rfl⟩
              have cx9_ : ¬ (S_.2.2.1 113 0 NN_.toNat ≠ -2) := by (rw [hNN_]; exact cx10_)
              have r1_ : ∀ j9_, ((sm_aI (sm_aI (sm_aI S_ 113 0 (i_or (64 * ((S_.2.2.1 34 (0 + c1_) (i_or he_ ip_).toNat) / 65536)) ((S_.2.2.1 47 (0 + dd_) (i_or te_ ip_).toNat) / 65536)).toNat pr_) 114 0 (i_or (64 * ((S_.2.2.1 34 (0 + c1_) (i_or he_ ip_).toNat) / 65536)) ((S_.2.2.1 47 (0 + dd_) (i_or te_ ip_).toNat) / 65536)).toNat ip_) 115 0 tl_.toNat (i_or (64 * ((S_.2.2.1 34 (0 + c1_) (i_or he_ ip_).toNat) / 65536)) ((S_.2.2.1 47 (0 + dd_) (i_or te_ ip_).toNat) / 65536)))).2.2.1 115 0 j9_ = if j9_ = tl_.toNat then NN_ else S_.2.2.1 115 0 j9_ := fun j9_ => by rw [rd_eq, rd_ne (by decide), rd_ne (by decide), hNN_]
              have r2_ : ∀ j9_, ((sm_aI (sm_aI (sm_aI S_ 113 0 (i_or (64 * ((S_.2.2.1 34 (0 + c1_) (i_or he_ ip_).toNat) / 65536)) ((S_.2.2.1 47 (0 + dd_) (i_or te_ ip_).toNat) / 65536)).toNat pr_) 114 0 (i_or (64 * ((S_.2.2.1 34 (0 + c1_) (i_or he_ ip_).toNat) / 65536)) ((S_.2.2.1 47 (0 + dd_) (i_or te_ ip_).toNat) / 65536)).toNat ip_) 115 0 tl_.toNat (i_or (64 * ((S_.2.2.1 34 (0 + c1_) (i_or he_ ip_).toNat) / 65536)) ((S_.2.2.1 47 (0 + dd_) (i_or te_ ip_).toNat) / 65536)))).2.2.1 113 0 j9_ = if j9_ = NN_.toNat then pr_ else S_.2.2.1 113 0 j9_ := fun j9_ => by rw [rd_ne (by decide), rd_ne (by decide), rd_eq, hNN_]
              intro j9_ hj9_ w9_
              rw [r2_] at w9_ ⊢
              by_cases z9_ : j9_ = NN_.toNat
              · rw [if_pos z9_]; right; rw [r2_]; refine ⟨by omega, ?_⟩; split; omega; exact hz_.1
              · rw [if_neg z9_] at w9_ ⊢; rcases hp_ j9_ hj9_ w9_ with q9_ | q9_
                · left; exact q9_
                · right; refine ⟨q9_.1, ?_⟩; rw [r2_]; split; omega; exact q9_.2
            · obtain ⟨NN_, hNN_⟩ : ∃ NN_, NN_ = i_or (64 * (S_.2.2.1 34 (0 + c1_) (i_or he_ ip_).toNat / 65536)) (S_.2.2.1 47 (0 + dd_) (i_or te_ ip_).toNat / 65536) := ⟨_, rfl⟩
              have cx9_ : ¬ (S_.2.2.1 113 0 NN_.toNat ≠ -2) := by (rw [hNN_]; exact cx10_)
              have r1_ : ∀ j9_, ((sm_aI (sm_aI (sm_aI S_ 113 0 (i_or (64 * ((S_.2.2.1 34 (0 + c1_) (i_or he_ ip_).toNat) / 65536)) ((S_.2.2.1 47 (0 + dd_) (i_or te_ ip_).toNat) / 65536)).toNat pr_) 114 0 (i_or (64 * ((S_.2.2.1 34 (0 + c1_) (i_or he_ ip_).toNat) / 65536)) ((S_.2.2.1 47 (0 + dd_) (i_or te_ ip_).toNat) / 65536)).toNat ip_) 115 0 tl_.toNat (i_or (64 * ((S_.2.2.1 34 (0 + c1_) (i_or he_ ip_).toNat) / 65536)) ((S_.2.2.1 47 (0 + dd_) (i_or te_ ip_).toNat) / 65536)))).2.2.1 115 0 j9_ = if j9_ = tl_.toNat then NN_ else S_.2.2.1 115 0 j9_ := fun j9_ => by rw [rd_eq, rd_ne (by decide), rd_ne (by decide), hNN_]
              have r2_ : ∀ j9_, ((sm_aI (sm_aI (sm_aI S_ 113 0 (i_or (64 * ((S_.2.2.1 34 (0 + c1_) (i_or he_ ip_).toNat) / 65536)) ((S_.2.2.1 47 (0 + dd_) (i_or te_ ip_).toNat) / 65536)).toNat pr_) 114 0 (i_or (64 * ((S_.2.2.1 34 (0 + c1_) (i_or he_ ip_).toNat) / 65536)) ((S_.2.2.1 47 (0 + dd_) (i_or te_ ip_).toNat) / 65536)).toNat ip_) 115 0 tl_.toNat (i_or (64 * ((S_.2.2.1 34 (0 + c1_) (i_or he_ ip_).toNat) / 65536)) ((S_.2.2.1 47 (0 + dd_) (i_or te_ ip_).toNat) / 65536)))).2.2.1 113 0 j9_ = if j9_ = NN_.toNat then pr_ else S_.2.2.1 113 0 j9_ := fun j9_ => by rw [rd_ne (by decide), rd_ne (by decide), rd_eq, hNN_]
              intro j9_ hj9_
              by_cases z9_ : (j9_ : Int) = tl_
              · rw [r1_, if_pos (by omega), r2_, if_pos rfl]; exact ⟨by omega, by omega, by omega⟩
              · have q9_ := hq_ j9_ (by omega)
                rw [r1_, if_neg (by omega), r2_]; refine ⟨?_, q9_.2⟩; split; omega; exact q9_.1
            · obtain ⟨NN_, hNN_⟩ : ∃ NN_, NN_ = i_or (64 * (S_.2.2.1 34 (0 + c1_) (i_or he_ ip_).toNat / 65536)) (S_.2.2.1 47 (0 + dd_) (i_or te_ ip_).toNat / 65536) := ⟨_, rfl⟩
              have cx9_ : ¬ (S_.2.2.1 113 0 NN_.toNat ≠ -2) := by (rw [hNN_]; exact cx10_)
              have r1_ : ∀ j9_, ((sm_aI (sm_aI (sm_aI S_ 113 0 (i_or (64 * ((S_.2.2.1 34 (0 + c1_) (i_or he_ ip_).toNat) / 65536)) ((S_.2.2.1 47 (0 + dd_) (i_or te_ ip_).toNat) / 65536)).toNat pr_) 114 0 (i_or (64 * ((S_.2.2.1 34 (0 + c1_) (i_or he_ ip_).toNat) / 65536)) ((S_.2.2.1 47 (0 + dd_) (i_or te_ ip_).toNat) / 65536)).toNat ip_) 115 0 tl_.toNat (i_or (64 * ((S_.2.2.1 34 (0 + c1_) (i_or he_ ip_).toNat) / 65536)) ((S_.2.2.1 47 (0 + dd_) (i_or te_ ip_).toNat) / 65536)))).2.2.1 115 0 j9_ = if j9_ = tl_.toNat then NN_ else S_.2.2.1 115 0 j9_ := fun j9_ => by rw [rd_eq, rd_ne (by decide), rd_ne (by decide), hNN_]
              have r2_ : ∀ j9_, ((sm_aI (sm_aI (sm_aI S_ 113 0 (i_or (64 * ((S_.2.2.1 34 (0 + c1_) (i_or he_ ip_).toNat) / 65536)) ((S_.2.2.1 47 (0 + dd_) (i_or te_ ip_).toNat) / 65536)).toNat pr_) 114 0 (i_or (64 * ((S_.2.2.1 34 (0 + c1_) (i_or he_ ip_).toNat) / 65536)) ((S_.2.2.1 47 (0 + dd_) (i_or te_ ip_).toNat) / 65536)).toNat ip_) 115 0 tl_.toNat (i_or (64 * ((S_.2.2.1 34 (0 + c1_) (i_or he_ ip_).toNat) / 65536)) ((S_.2.2.1 47 (0 + dd_) (i_or te_ ip_).toNat) / 65536)))).2.2.1 113 0 j9_ = if j9_ = NN_.toNat then pr_ else S_.2.2.1 113 0 j9_ := fun j9_ => by rw [rd_ne (by decide), rd_ne (by decide), rd_eq, hNN_]
              have u9_ := cn1_up (f := pn2 (S_.2.2.1 113 0)) (g := pn2 (((sm_aI (sm_aI (sm_aI S_ 113 0 (i_or (64 * ((S_.2.2.1 34 (0 + c1_) (i_or he_ ip_).toNat) / 65536)) ((S_.2.2.1 47 (0 + dd_) (i_or te_ ip_).toNat) / 65536)).toNat pr_) 114 0 (i_or (64 * ((S_.2.2.1 34 (0 + c1_) (i_or he_ ip_).toNat) / 65536)) ((S_.2.2.1 47 (0 + dd_) (i_or te_ ip_).toNat) / 65536)).toNat ip_) 115 0 tl_.toNat (i_or (64 * ((S_.2.2.1 34 (0 + c1_) (i_or he_ ip_).toNat) / 65536)) ((S_.2.2.1 47 (0 + dd_) (i_or te_ ip_).toNat) / 65536)))).2.2.1 113 0)) (j := NN_.toNat) (fun y9_ => absurd (pn2_1.mp y9_) cx9_) (pn2_1.mpr (by rw [r2_, if_pos rfl]; omega)) (fun k9_ hk9_ => by unfold pn2; rw [r2_, if_neg hk9_]) (n := 4096) (by omega)
              rw [u9_]
              push_cast
              omega
            · omega
            · exact hh_
            · obtain ⟨NN_, hNN_⟩ : ∃ NN_, NN_ = i_or (64 * (S_.2.2.1 34 (0 + c1_) (i_or he_ ip_).toNat / 65536)) (S_.2.2.1 47 (0 + dd_) (i_or te_ ip_).toNat / 65536) := ⟨_, rfl⟩
              have cx9_ : ¬ (S_.2.2.1 113 0 NN_.toNat ≠ -2) := by (rw [hNN_]; exact cx10_)
              have r1_ : ∀ j9_, ((sm_aI (sm_aI (sm_aI S_ 113 0 (i_or (64 * ((S_.2.2.1 34 (0 + c1_) (i_or he_ ip_).toNat) / 65536)) ((S_.2.2.1 47 (0 + dd_) (i_or te_ ip_).toNat) / 65536)).toNat pr_) 114 0 (i_or (64 * ((S_.2.2.1 34 (0 + c1_) (i_or he_ ip_).toNat) / 65536)) ((S_.2.2.1 47 (0 + dd_) (i_or te_ ip_).toNat) / 65536)).toNat ip_) 115 0 tl_.toNat (i_or (64 * ((S_.2.2.1 34 (0 + c1_) (i_or he_ ip_).toNat) / 65536)) ((S_.2.2.1 47 (0 + dd_) (i_or te_ ip_).toNat) / 65536)))).2.2.1 115 0 j9_ = if j9_ = tl_.toNat then NN_ else S_.2.2.1 115 0 j9_ := fun j9_ => by rw [rd_eq, rd_ne (by decide), rd_ne (by decide), hNN_]
              have r2_ : ∀ j9_, ((sm_aI (sm_aI (sm_aI S_ 113 0 (i_or (64 * ((S_.2.2.1 34 (0 + c1_) (i_or he_ ip_).toNat) / 65536)) ((S_.2.2.1 47 (0 + dd_) (i_or te_ ip_).toNat) / 65536)).toNat pr_) 114 0 (i_or (64 * ((S_.2.2.1 34 (0 + c1_) (i_or he_ ip_).toNat) / 65536)) ((S_.2.2.1 47 (0 + dd_) (i_or te_ ip_).toNat) / 65536)).toNat ip_) 115 0 tl_.toNat (i_or (64 * ((S_.2.2.1 34 (0 + c1_) (i_or he_ ip_).toNat) / 65536)) ((S_.2.2.1 47 (0 + dd_) (i_or te_ ip_).toNat) / 65536)))).2.2.1 113 0 j9_ = if j9_ = NN_.toNat then pr_ else S_.2.2.1 113 0 j9_ := fun j9_ => by rw [rd_ne (by decide), rd_ne (by decide), rd_eq, hNN_]
              rw [r2_]
              refine ⟨?_, hz_.2⟩
              split
              · omega
              · exact hz_.1
            · omega
        · have cx8_ : ¬ ((i_and (i_xor (S_.2.2.1 34 (0 + c1_) (i_or he_ ip_).toNat) (S_.2.2.1 47 (0 + dd_) (i_or te_ ip_).toNat)) mk_) = 0) := of_decide_eq_false cx8_
          refine sm_T_go 3 (c1 := (146, [some (.inr (.inr (some (12, 0)))), some (.inr (.inr (some (34, (0 + c1_))))), some (.inl bg_), some (.inr (.inr (some (3, dd_)))), some (.inl mk_), some (.inl ip9_), none, some (.inl tl_), some (.inl hd9_), some (.inl pr_), some (.inl he_), some (.inl te_), some (.inl ip_), some (.inl (S_.2.2.1 34 (0 + c1_) (i_or he_ ip_).toNat)), some (.inl (S_.2.2.1 47 (0 + dd_) (i_or te_ ip_).toNat)), none], [.inl ip_, .inl pr_, .inr (.inr (some (12, 0)))], S_)) rfl ?_
          refine sm_T_cal (d1 := 0) (Q1 := vq_277 pr_ ip_ S_) rfl rfl (by decide) (vc_277 pr_ ip_ S_ hI_ (by exact hp_) (by omega) (by omega) (by exact hz_.1)) (fun u_ Sx17_ px20_ => ?_)
          obtain ⟨rfl, hIx18_, hFx19_, px20_⟩ := px20_
          have hFx21_ : ai_fr (sx_W vw_276c) S0_ Sx17_ := ai_fr_tr hF_ (fr_le hFx19_ rfl)
          have bx22_ : 0 ≤ Sx17_.1 12 0 16 ∧ Sx17_.1 12 0 16 ≤ 4096 := hIx18_.1 12 0 16 rfl
          refine sm_T_go 2 (c1 := (153, [some (.inr (.inr (some (12, 0)))), some (.inr (.inr (some (34, (0 + c1_))))), some (.inl bg_), some (.inr (.inr (some (3, dd_)))), some (.inl mk_), some (.inl ip9_), none, some (.inl tl_), some (.inl hd9_), some (.inl pr_), some (.inl he_), some (.inl te_), some (.inl ip_), some (.inl (S_.2.2.1 34 (0 + c1_) (i_or he_ ip_).toNat)), some (.inl (S_.2.2.1 47 (0 + dd_) (i_or te_ ip_).toNat)), none], [.inl (Sx17_.1 12 0 16)], Sx17_)) rfl ?_
          refine sm_T_ri rfl ⟨_, _, rfl, _, rfl, hIx18_, hFx21_, ?_⟩
          trivial
set_option maxHeartbeats 2000000 in
set_option maxRecDepth 20000 in
theorem vc_276c {sc_ : Nat × (Nat → Int)} (bg_ : Int) (mk_ : Int) (c1_ : Nat) (dd_ : Nat) (R1_ : Nat) (S0_ : sm_S) (hI_ : gi S0_) (hd_ : dOk dd_ S0_) (hb_ : 0 ≤ bg_ ∧ bg_ < 2 ^ R1_) (hr_ : R1_ ≤ 6 ∧ (R1_ : Int) + S0_.1 3 dd_ 1 ≤ 12) (ht_ : ∀ p9_ : Nat, p9_ < 4096 → 0 ≤ S0_.2.2.1 34 (0 + c1_) p9_ ∧ S0_.2.2.1 34 (0 + c1_) p9_ < 2 ^ (16 + R1_)) : sm_T (mt_P sc_) 1 276 (0, [some (.inr (.inr (some (12, 0)))), some (.inr (.inr (some (34, (0 + c1_))))), some (.inl bg_), some (.inr (.inr (some (3, dd_)))), some (.inl mk_), none, none, none, none, none, none, none, none, none, none, none], [], S0_) (fun ro9_ => ∃ u_ S1_, ro9_ = (.inl u_, S1_, 0) ∧ vq_276c bg_ mk_ c1_ dd_ R1_ S0_ u_ S1_) := by
  have hF_ : ai_fr (sx_W vw_276c) S0_ S0_ := ai_fr_rf
  have J9_ := dOk_b hd_
  have J9a := J9_.1
  have J9b := J9_.2.1
  have J9c := J9_.2.2.1
  have J9t := J9_.2.2.2.2
  have wa_ := pw_le (n := R1_) (m := 6) (by omega)
  have wb_ := pw_le (n := (S0_.1 3 dd_ 2).toNat) (m := 6) (by omega)
  have wc_ := pw_pos R1_
  have wd_ := pw_pos (S0_.1 3 dd_ 2).toNat
  have hIx1_ : gi (sm_pI S0_ 12 0 16 0) := gi_pI hI_ (show 0 ≤ 0 ∧ 0 ≤ 4096 from ⟨by omega, by omega⟩)
  have hFx2_ : ai_fr (sx_W vw_276c) S0_ (sm_pI S0_ 12 0 16 0) := ai_fr_tr hF_ (ai_fr_pI rfl)
  have bx3_ : 0 ≤ S0_.1 3 dd_ 1 ∧ S0_.1 3 dd_ 1 ≤ 320 := hI_.1 3 dd_ 1 rfl
  refine sm_T_go 9 (c1 := (17, [some (.inr (.inr (some (12, 0)))), some (.inr (.inr (some (34, (0 + c1_))))), some (.inl bg_), some (.inr (.inr (some (3, dd_)))), some (.inl mk_), some (.inl (S0_.1 3 dd_ 1)), none, none, none, none, none, none, none, none, none, none], [.inl (-2), .inr (.inr (some (113, 0)))], sm_pI S0_ 12 0 16 0)) rfl ?_
  refine sm_T_cal (d1 := 0) (Q1 := vq_2p (-2) (sm_pI S0_ 12 0 16 0)) rfl rfl (by decide) (vc_2p (-2) (sm_pI S0_ 12 0 16 0) hIx1_ (by decide)) (fun u_ Sx4_ px7_ => ?_)
  obtain ⟨rfl, hIx5_, hFx6_, px7_⟩ := px7_
  have hFx8_ : ai_fr (sx_W vw_276c) S0_ Sx4_ := ai_fr_tr hFx2_ (fr_le hFx6_ rfl)
  have e17_ := px7_
  have q5_ := hFx6_.1 3 dd_ 5 rfl
  have q1_ := hFx6_.1 3 dd_ 1 rfl
  simp only [rf_nt, rf_nk, ne_eq, Nat.reduceEqDiff, not_false_eq_true] at q5_ q1_
  refine sm_T_go 2 (c1 := (23, [some (.inr (.inr (some (12, 0)))), some (.inr (.inr (some (34, (0 + c1_))))), some (.inl bg_), some (.inr (.inr (some (3, dd_)))), some (.inl mk_), some (.inl (S0_.1 3 dd_ 1)), none, none, none, none, none, none, none, none, none, none], [.inl 6, .inl bg_], Sx4_)) rfl ?_
  refine sm_T_bin (w := 64 * bg_) rfl (bi_shl (k := 6) (by decide) (by omega) (by omega) (by omega)) ?_ -- pc_ 23
  have bx9_ : 0 ≤ Sx4_.1 3 dd_ 5 ∧ Sx4_.1 3 dd_ 5 ≤ 63 := hIx5_.1 3 dd_ 5 rfl
  refine sm_T_go 2 (c1 := (28, [some (.inr (.inr (some (12, 0)))), some (.inr (.inr (some (34, (0 + c1_))))), some (.inl bg_), some (.inr (.inr (some (3, dd_)))), some (.inl mk_), some (.inl (S0_.1 3 dd_ 1)), none, none, none, none, none, none, none, none, none, none], [.inl (Sx4_.1 3 dd_ 5), .inl (64 * bg_)], Sx4_)) rfl ?_
  refine sm_T_bin (w := (i_or (64 * bg_) (Sx4_.1 3 dd_ 5))) rfl rfl ?_ -- pc_ 28
  have bx10_ := or64 (a_ := bg_) (b_ := (Sx4_.1 3 dd_ 5)) (by omega) (by omega)
  refine sm_T_go 5 (c1 := (38, [some (.inr (.inr (some (12, 0)))), some (.inr (.inr (some (34, (0 + c1_))))), some (.inl bg_), some (.inr (.inr (some (3, dd_)))), some (.inl mk_), some (.inl (S0_.1 3 dd_ 1)), some (.inl (i_or (64 * bg_) (Sx4_.1 3 dd_ 5))), none, none, none, none, none, none, none, none, none], [.inl (-1), .inl (i_or (64 * bg_) (Sx4_.1 3 dd_ 5)), .inr (.inr (some (113, 0)))], Sx4_)) rfl ?_
  refine sm_T_iast (n := 4096) rfl rfl (by omega) (by omega) ?_
  have hIx11_ : gi (sm_aI Sx4_ 113 0 (i_or (64 * bg_) (Sx4_.1 3 dd_ 5)).toNat (-1)) := gi_aI hIx5_ (show (-2) ≤ (-1) ∧ (-1) ≤ 4095 from ⟨by omega, by omega⟩)
  have hFx12_ : ai_fr (sx_W vw_276c) S0_ (sm_aI Sx4_ 113 0 (i_or (64 * bg_) (Sx4_.1 3 dd_ 5)).toNat (-1)) := ai_fr_tr hFx8_ (ai_fr_aI rfl)
  refine sm_T_go 4 (c1 := (46, [some (.inr (.inr (some (12, 0)))), some (.inr (.inr (some (34, (0 + c1_))))), some (.inl bg_), some (.inr (.inr (some (3, dd_)))), some (.inl mk_), some (.inl (S0_.1 3 dd_ 1)), some (.inl (i_or (64 * bg_) (Sx4_.1 3 dd_ 5))), none, none, none, none, none, none, none, none, none], [.inl (i_or (64 * bg_) (Sx4_.1 3 dd_ 5)), .inl 0, .inr (.inr (some (115, 0)))], sm_aI Sx4_ 113 0 (i_or (64 * bg_) (Sx4_.1 3 dd_ 5)).toNat (-1))) rfl ?_
  refine sm_T_iast (n := 4096) rfl rfl (by omega) (by omega) ?_
  have hIx13_ : gi (sm_aI (sm_aI Sx4_ 113 0 (i_or (64 * bg_) (Sx4_.1 3 dd_ 5)).toNat (-1)) 115 0 (0 : Int).toNat (i_or (64 * bg_) (Sx4_.1 3 dd_ 5))) := gi_aI hIx11_ (show 0 ≤ (i_or (64 * bg_) (Sx4_.1 3 dd_ 5)) ∧ (i_or (64 * bg_) (Sx4_.1 3 dd_ 5)) ≤ 4095 from ⟨by omega, by omega⟩)
  have hFx14_ : ai_fr (sx_W vw_276c) S0_ (sm_aI (sm_aI Sx4_ 113 0 (i_or (64 * bg_) (Sx4_.1 3 dd_ 5)).toNat (-1)) 115 0 (0 : Int).toNat (i_or (64 * bg_) (Sx4_.1 3 dd_ 5))) := ai_fr_tr hFx12_ (ai_fr_aI rfl)
  refine sm_T_go 4 (c1 := (53, [some (.inr (.inr (some (12, 0)))), some (.inr (.inr (some (34, (0 + c1_))))), some (.inl bg_), some (.inr (.inr (some (3, dd_)))), some (.inl mk_), some (.inl (S0_.1 3 dd_ 1)), some (.inl (i_or (64 * bg_) (Sx4_.1 3 dd_ 5))), some (.inl 1), some (.inl 0), none, none, none, none, none, none, none], [], sm_aI (sm_aI Sx4_ 113 0 (i_or (64 * bg_) (Sx4_.1 3 dd_ 5)).toNat (-1)) 115 0 (0 : Int).toNat (i_or (64 * bg_) (Sx4_.1 3 dd_ 5)))) rfl ?_
  refine sm_T_wk [some (.inr (.inr (some (12, 0)))), some (.inr (.inr (some (34, (0 + c1_))))), some (.inl bg_), some (.inr (.inr (some (3, dd_)))), some (.inl mk_), some (.inl (S0_.1 3 dd_ 1)), none, some (.inl 1), some (.inl 0), none, none, none, none, none, none, none] (by exact ⟨rfl, rfl, rfl, rfl, rfl, rfl, rfl, rfl, trivial⟩) ?_
  refine (vl_276c bg_ mk_ c1_ dd_ R1_ S0_ hd_ hb_ hr_ ht_ _).1 (S0_.1 3 dd_ 1) 1 0 (sm_aI (sm_aI Sx4_ 113 0 (i_or (64 * bg_) (Sx4_.1 3 dd_ 5)).toNat (-1)) 115 0 (0 : Int).toNat (i_or (64 * bg_) (Sx4_.1 3 dd_ 5))) hIx13_ hFx14_ ⟨?_, ?_, ?_, ?_, trivial⟩ (Nat.lt_succ_self _)
  · obtain ⟨FF_, hFF_⟩ : ∃ FF_, FF_ = i_or (64 * bg_) (Sx4_.1 3 dd_ 5) := ⟨_, rfl⟩
    have r1_ : ((sm_aI (sm_aI Sx4_ 113 0 (i_or (64 * bg_) (Sx4_.1 3 dd_ 5)).toNat (-1)) 115 0 (0 : Int).toNat (i_or (64 * bg_) (Sx4_.1 3 dd_ 5)))).2.2.1 115 0 0 = FF_ := by (rw [rd_eq, if_pos (by decide)]; exact hFF_.symm)
    have r2_ : ∀ j9_, ((sm_aI (sm_aI Sx4_ 113 0 (i_or (64 * bg_) (Sx4_.1 3 dd_ 5)).toNat (-1)) 115 0 (0 : Int).toNat (i_or (64 * bg_) (Sx4_.1 3 dd_ 5)))).2.2.1 113 0 j9_ = if j9_ = FF_.toNat then (-1) else Sx4_.2.2.1 113 0 j9_ := fun j9_ => by rw [rd_ne (by decide), rd_eq, hFF_]
    intro j9_ hj9_ w9_
    rw [r2_] at w9_ ⊢
    left
    by_cases z9_ : j9_ = FF_.toNat
    · rw [if_pos z9_]
    · rw [if_neg z9_, e17_ j9_ hj9_] at w9_
      exact absurd rfl w9_
  · obtain ⟨FF_, hFF_⟩ : ∃ FF_, FF_ = i_or (64 * bg_) (Sx4_.1 3 dd_ 5) := ⟨_, rfl⟩
    have r1_ : ((sm_aI (sm_aI Sx4_ 113 0 (i_or (64 * bg_) (Sx4_.1 3 dd_ 5)).toNat (-1)) 115 0 (0 : Int).toNat (i_or (64 * bg_) (Sx4_.1 3 dd_ 5)))).2.2.1 115 0 0 = FF_ := by (rw [rd_eq, if_pos (by decide)]; exact hFF_.symm)
    have r2_ : ∀ j9_, ((sm_aI (sm_aI Sx4_ 113 0 (i_or (64 * bg_) (Sx4_.1 3 dd_ 5)).toNat (-1)) 115 0 (0 : Int).toNat (i_or (64 * bg_) (Sx4_.1 3 dd_ 5)))).2.2.1 113 0 j9_ = if j9_ = FF_.toNat then (-1) else Sx4_.2.2.1 113 0 j9_ := fun j9_ => by rw [rd_ne (by decide), rd_eq, hFF_]
    intro j9_ hj9_
    have z9_ : j9_ = 0 := by omega
    rw [z9_, r1_, r2_, if_pos rfl]
    exact ⟨by decide, by omega, by omega⟩
  · obtain ⟨FF_, hFF_⟩ : ∃ FF_, FF_ = i_or (64 * bg_) (Sx4_.1 3 dd_ 5) := ⟨_, rfl⟩
    have r1_ : ((sm_aI (sm_aI Sx4_ 113 0 (i_or (64 * bg_) (Sx4_.1 3 dd_ 5)).toNat (-1)) 115 0 (0 : Int).toNat (i_or (64 * bg_) (Sx4_.1 3 dd_ 5)))).2.2.1 115 0 0 = FF_ := by (rw [rd_eq, if_pos (by decide)]; exact hFF_.symm)
    have r2_ : ∀ j9_, ((sm_aI (sm_aI Sx4_ 113 0 (i_or (64 * bg_) (Sx4_.1 3 dd_ 5)).toNat (-1)) 115 0 (0 : Int).toNat (i_or (64 * bg_) (Sx4_.1 3 dd_ 5)))).2.2.1 113 0 j9_ = if j9_ = FF_.toNat then (-1) else Sx4_.2.2.1 113 0 j9_ := fun j9_ => by rw [rd_ne (by decide), rd_eq, hFF_]
    rw [cn1_cg (g := fun k9_ : Nat => if k9_ = FF_.toNat then (1 : Int) else 0) (fun k9_ hk9_ => ?_), cn1_one (j := FF_.toNat) (fun k9_ => ?_) 4096, if_pos (by omega)]
    · rfl
    · constructor
      · intro y9_; by_cases y8_ : k9_ = FF_.toNat; exact y8_; (rw [if_neg y8_] at y9_; exact absurd y9_ (by decide))
      · intro y9_; exact if_pos y9_
    · unfold pn2
      rw [r2_]
      by_cases y9_ : k9_ = FF_.toNat
      · rw [if_pos y9_, if_pos y9_]; rfl
      · rw [if_neg y9_, if_neg y9_, e17_ k9_ hk9_]; rfl
  · omega
end
