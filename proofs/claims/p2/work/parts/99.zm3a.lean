/-! paths found; written by wip/p55/gen/vg -/

theorem tpo_fr {w_ : sx_Wl} {S_ S'_ : sm_S} (h_ : tpo S_) (g_ : ai_fr (sx_W w_) S_ S'_) (h1_ : (sx_W w_).1 11 5 = false := by rfl) (a1_ : (sx_W w_).2.1 102 = false := by rfl) (a2_ : (sx_W w_).2.1 104 = false := by rfl) (a3_ : (sx_W w_).2.1 105 = false := by rfl) : tpo S'_ := by
  unfold tpo
  rw [g_.1 11 0 5 h1_, fr_arr g_ a1_, fr_arr g_ a2_, fr_arr g_ a3_]
  exact h_
theorem ttr_fr {w_ : sx_Wl} {S_ S'_ : sm_S} (h_ : ttr S_) (g_ : ai_fr (sx_W w_) S_ S'_) (h1_ : (sx_W w_).1 11 11 = false := by rfl) (a1_ : (sx_W w_).2.1 106 = false := by rfl) : ttr S'_ := by
  unfold ttr
  rw [g_.1 11 0 11 h1_, fr_arr g_ a1_]
  exact h_
/-! Times.lengthen -/
def vw_201 : sx_Wl := ([(11, 5), (11, 11)], [102, 103, 104, 105, 106], [])
def vq_201 (a2_ : Int) (cc_ : Nat) (S0_ : sm_S) (u_ : Option sm_V) (S1_ : sm_S) : Prop := u_ = none ∧ gi S1_ ∧ ai_fr (sx_W vw_201) S0_ S1_ ∧ (tpo S1_)
set_option maxHeartbeats 2000000 in
set_option maxRecDepth 20000 in
theorem vl_201 {sc_ : Nat × (Nat → Int)} (a2_ : Int) (cc_ : Nat) (S0_ : sm_S) (hs_ : S0_.1 2 cc_ 1 + S0_.1 2 cc_ 2 ≤ 12) (hp_ : tpo S0_) (h2_ : 0 ≤ a2_ ∧ a2_ < S0_.1 11 0 5) (hl_ : S0_.2.2.1 105 0 (152 * (S0_.2.2.1 102 0 a2_.toNat) + (S0_.2.2.1 104 0 (S0_.2.2.1 102 0 a2_.toNat).toNat) - 1).toNat < 10000) : ∀ nn_ : Nat, (∀ (bs_ : Int) (ls_ : Int) (ln_ : Int) (k_ : Int) (S_ : sm_S), gi S_ → ai_fr (sx_W vw_201) S0_ S_ → ((0 ≤ bs_ ∧ bs_ ≤ 1782 ∧ 0 ≤ ls_ ∧ ls_ ≤ 161 ∧ 0 ≤ k_ ∧ k_ ≤ 152) ∧ (tpo S_) ∧ (ttr S_) ∧ (1 ≤ S_.1 11 0 11 ∧ S_.1 11 0 11 ≤ 152) ∧ True) → ((90000 - k_).toNat) < nn_ → sm_T (mt_P sc_) 2 201 (74, [some (.inr (.inr (some (11, 0)))), some (.inr (.inr (some (2, cc_)))), some (.inl a2_), none, some (.inl bs_), some (.inl ls_), some (.inl ln_), some (.inl k_), none, none, none], [], S_) (fun ro9_ => ∃ u_ S1_, ro9_ = (.inl u_, S1_, 0) ∧ vq_201 a2_ cc_ S0_ u_ S1_)) ∧ (∀ (bs_ : Int) (ls_ : Int) (ln_ : Int) (g_ : Int) (S_ : sm_S), gi S_ → ai_fr (sx_W vw_201) S0_ S_ → ((0 ≤ bs_ ∧ bs_ ≤ 1782 ∧ 0 ≤ ls_ ∧ ls_ ≤ 161 ∧ 0 ≤ g_ ∧ g_ ≤ 162) ∧ (tpo S_) ∧ (ttr S_) ∧ (1 ≤ S_.1 11 0 11 ∧ S_.1 11 0 11 ≤ 152) ∧ True) → ((10000 + 10 * (500 - g_) + 9).toNat) < nn_ → sm_T (mt_P sc_) 2 201 (121, [some (.inr (.inr (some (11, 0)))), some (.inr (.inr (some (2, cc_)))), some (.inl a2_), none, some (.inl bs_), some (.inl ls_), some (.inl ln_), some (.inl g_), none, none, none], [], S_) (fun ro9_ => ∃ u_ S1_, ro9_ = (.inl u_, S1_, 0) ∧ vq_201 a2_ cc_ S0_ u_ S1_)) ∧ (∀ (bs_ : Int) (ls_ : Int) (ln_ : Int) (g_ : Int) (nt_ : Int) (fo_ : Int) (k_ : Int) (S_ : sm_S), gi S_ → ai_fr (sx_W vw_201) S0_ S_ → ((0 ≤ bs_ ∧ bs_ ≤ 1782 ∧ 0 ≤ ls_ ∧ ls_ ≤ 161 ∧ 0 ≤ g_ ∧ g_ < 150 ∧ 0 ≤ nt_ ∧ nt_ ≤ 161 ∧ 0 ≤ fo_ ∧ fo_ ≤ 1 ∧ 0 ≤ k_ ∧ k_ ≤ 3) ∧ (tpo S_) ∧ (ttr S_) ∧ (1 ≤ S_.1 11 0 11 ∧ S_.1 11 0 11 ≤ 152) ∧ True) → ((10000 + 10 * (500 - g_) + 8 - k_).toNat) < nn_ → sm_T (mt_P sc_) 2 201 (145, [some (.inr (.inr (some (11, 0)))), some (.inr (.inr (some (2, cc_)))), some (.inl a2_), none, some (.inl bs_), some (.inl ls_), some (.inl ln_), some (.inl g_), some (.inl nt_), some (.inl fo_), some (.inl k_)], [], S_) (fun ro9_ => ∃ u_ S1_, ro9_ = (.inl u_, S1_, 0) ∧ vq_201 a2_ cc_ S0_ u_ S1_)) ∧ (∀ (bs_ : Int) (ls_ : Int) (ln_ : Int) (e_ : Int) (S_ : sm_S), gi S_ → ai_fr (sx_W vw_201) S0_ S_ → ((0 ≤ bs_ ∧ bs_ ≤ 1782 ∧ 0 ≤ ls_ ∧ ls_ ≤ 161 ∧ 0 ≤ e_ ∧ e_ ≤ 22) ∧ (tpo S_) ∧ (ttr S_) ∧ (1 ≤ S_.1 11 0 11 ∧ S_.1 11 0 11 ≤ 152) ∧ True) → ((100 - e_).toNat) < nn_ → sm_T (mt_P sc_) 2 201 (231, [some (.inr (.inr (some (11, 0)))), some (.inr (.inr (some (2, cc_)))), some (.inl a2_), none, some (.inl bs_), some (.inl ls_), some (.inl ln_), some (.inl e_), none, none, none], [], S_) (fun ro9_ => ∃ u_ S1_, ro9_ = (.inl u_, S1_, 0) ∧ vq_201 a2_ cc_ S0_ u_ S1_)) := by
  intro nn_
  induction nn_ with
  | zero => exact ⟨fun _ _ _ _ _ _ _ _ h_ => absurd h_ (Nat.not_lt_zero _), fun _ _ _ _ _ _ _ _ h_ => absurd h_ (Nat.not_lt_zero _), fun _ _ _ _ _ _ _ _ _ _ _ h_ => absurd h_ (Nat.not_lt_zero _), fun _ _ _ _ _ _ _ _ h_ => absurd h_ (Nat.not_lt_zero _)⟩
  | succ nn_ ih_ =>
    refine ⟨?_, ?_, ?_, ?_⟩
    · rintro bs_ ls_ ln_ k_ S_ hI_ hF_ ⟨h0_, ht_, hr_, hn_, -⟩ hm_
      have z1_ : S_.1 2 cc_ 1 = S0_.1 2 cc_ 1 := hF_.1 2 cc_ 1 rfl
      have z2_ : S_.1 2 cc_ 2 = S0_.1 2 cc_ 2 := hF_.1 2 cc_ 2 rfl
      have cg9_ : 0 ≤ S_.1 2 cc_ 8 ∧ S_.1 2 cc_ 8 ≤ 150 := hI_.1 2 cc_ 8 rfl
      have ci_ : 0 ≤ S_.1 2 cc_ 1 ∧ S_.1 2 cc_ 1 ≤ 12 := hI_.1 2 cc_ 1 rfl
      have cr : 0 ≤ S_.1 2 cc_ 2 ∧ S_.1 2 cc_ 2 ≤ 6 := hI_.1 2 cc_ 2 rfl
      have bx1_ : 0 ≤ S_.1 11 0 11 ∧ S_.1 11 0 11 ≤ 152 := hI_.1 11 0 11 rfl
      refine sm_T_go 3 (c1 := (80, [some (.inr (.inr (some (11, 0)))), some (.inr (.inr (some (2, cc_)))), some (.inl a2_), none, some (.inl bs_), some (.inl ls_), some (.inl ln_), some (.inl k_), none, none, none], [.inl (S_.1 11 0 11), .inl k_], S_)) rfl ?_
      refine sm_T_br (a := 3) (z := 26) rfl (fun cx2_ => ?_) (fun cx2_ => ?_)
      · have cx2_ : (S_.1 11 0 11) ≤ k_ := of_decide_eq_true cx2_
        refine sm_T_go 3 (c1 := (110, [some (.inr (.inr (some (11, 0)))), some (.inr (.inr (some (2, cc_)))), some (.inl a2_), none, some (.inl bs_), some (.inl ls_), some (.inl ln_), some (.inl k_), none, none, none], [.inr (.inr (some (2, cc_))), .inl ls_, .inl 0], S_)) rfl ?_
        refine sm_T_cal (d1 := 0) (Q1 := vq_54 cc_ S_) rfl rfl (by decide) (vc_54 cc_ S_ hI_ ) (fun u_ Sx3_ px6_ => ?_)
        obtain ⟨rfl, vx8_, rfl, px6_⟩ := px6_
        have fg110_ := px6_.2
        refine sm_T_bin (w := ls_ - vx8_) rfl (bi_sub (by omega) (by omega) (by omega)) ?_ -- pc_ 113
        refine sm_T_go 1 (c1 := (115, [some (.inr (.inr (some (11, 0)))), some (.inr (.inr (some (2, cc_)))), some (.inl a2_), none, some (.inl bs_), some (.inl ls_), some (.inl ln_), some (.inl k_), none, none, none], [.inl 1, .inl (ls_ - vx8_), .inl 0], S_)) rfl ?_
        refine sm_T_bin (w := ls_ - vx8_ + 1) rfl (bi_add (by omega) (by omega) (by omega)) ?_ -- pc_ 115
        refine sm_T_nt (u := some (.inl (sm_mx 0 (ls_ - vx8_ + 1)))) (S1 := S_) rfl rfl rfl ?_
        have bx9_ := sm_mx_d 0 (ls_ - vx8_ + 1)
        refine sm_T_go 1 (c1 := (121, [some (.inr (.inr (some (11, 0)))), some (.inr (.inr (some (2, cc_)))), some (.inl a2_), none, some (.inl bs_), some (.inl ls_), some (.inl ln_), some (.inl (sm_mx 0 (ls_ - vx8_ + 1))), none, none, none], [], S_)) rfl ?_
        refine ih_.2.1 bs_ ls_ ln_ (sm_mx 0 (ls_ - vx8_ + 1)) S_ hI_ hF_ ⟨?_, ?_, ?_, ?_, trivial⟩ ?_
        · omega
        · first | exact ht_
        · first | exact hr_
        · first | exact hn_
        · omega
      · have cx2_ : ¬ ((S_.1 11 0 11) ≤ k_) := of_decide_eq_false cx2_
        have k9_ := hr_.1 k_.toNat (by omega)
        refine sm_T_go 6 (c1 := (95, [some (.inr (.inr (some (11, 0)))), some (.inr (.inr (some (2, cc_)))), some (.inl a2_), none, some (.inl bs_), some (.inl ls_), some (.inl ln_), some (.inl k_), none, none, none], [.inl k_, .inr (.inr (some (106, 0))), .inr (.inr (some (99, 0))), .inl ln_], S_)) rfl ?_
        refine sm_T_iald (n := 152) rfl rfl (by omega) (by omega) ?_
        have bx10_ : 0 ≤ S_.2.2.1 106 0 k_.toNat ∧ S_.2.2.1 106 0 k_.toNat ≤ 10161 := hI_.2 106 0 _
        refine sm_T_iald (n := 162) rfl rfl (by omega) (by omega) ?_
        have bx11_ : (-2147483648) ≤ S_.2.2.1 99 0 (S_.2.2.1 106 0 k_.toNat).toNat ∧ S_.2.2.1 99 0 (S_.2.2.1 106 0 k_.toNat).toNat ≤ 2147483647 := hI_.2 99 0 _
        refine sm_T_bin (w := (i_add ln_ (S_.2.2.1 99 0 (S_.2.2.1 106 0 k_.toNat).toNat))) rfl rfl ?_ -- pc_ 97
        have bx12_ := i_add_r ln_ (S_.2.2.1 99 0 (S_.2.2.1 106 0 k_.toNat).toNat)
        refine sm_T_go 1 (c1 := (100, [some (.inr (.inr (some (11, 0)))), some (.inr (.inr (some (2, cc_)))), some (.inl a2_), none, some (.inl bs_), some (.inl ls_), some (.inl (i_add ln_ (S_.2.2.1 99 0 (S_.2.2.1 106 0 k_.toNat).toNat))), some (.inl k_), none, none, none], [], S_)) rfl ?_
        refine sm_T_inc (a := 7) (z := 1) (v := k_) (w := k_ + 1) rfl rfl (by omega) (by omega) (by omega) ?_ -- pc_ 100
        refine sm_T_go 1 (c1 := (74, [some (.inr (.inr (some (11, 0)))), some (.inr (.inr (some (2, cc_)))), some (.inl a2_), none, some (.inl bs_), some (.inl ls_), some (.inl (i_add ln_ (S_.2.2.1 99 0 (S_.2.2.1 106 0 k_.toNat).toNat))), some (.inl (k_ + 1)), none, none, none], [], S_)) rfl ?_
        refine ih_.1 bs_ ls_ (i_add ln_ (S_.2.2.1 99 0 (S_.2.2.1 106 0 k_.toNat).toNat)) (k_ + 1) S_ hI_ hF_ ⟨?_, ?_, ?_, ?_, trivial⟩ ?_
        · omega
        · first | exact ht_
        · first | exact hr_
        · first | exact hn_
        · omega
    · rintro bs_ ls_ ln_ g_ S_ hI_ hF_ ⟨h0_, ht_, hr_, hn_, -⟩ hm_
      have z1_ : S_.1 2 cc_ 1 = S0_.1 2 cc_ 1 := hF_.1 2 cc_ 1 rfl
      have z2_ : S_.1 2 cc_ 2 = S0_.1 2 cc_ 2 := hF_.1 2 cc_ 2 rfl
      have cg9_ : 0 ≤ S_.1 2 cc_ 8 ∧ S_.1 2 cc_ 8 ≤ 150 := hI_.1 2 cc_ 8 rfl
      have ci_ : 0 ≤ S_.1 2 cc_ 1 ∧ S_.1 2 cc_ 1 ≤ 12 := hI_.1 2 cc_ 1 rfl
      have cr : 0 ≤ S_.1 2 cc_ 2 ∧ S_.1 2 cc_ 2 ≤ 6 := hI_.1 2 cc_ 2 rfl
      have bx1_ : 0 ≤ S_.1 2 cc_ 8 ∧ S_.1 2 cc_ 8 ≤ 150 := hI_.1 2 cc_ 8 rfl
      refine sm_T_go 3 (c1 := (127, [some (.inr (.inr (some (11, 0)))), some (.inr (.inr (some (2, cc_)))), some (.inl a2_), none, some (.inl bs_), some (.inl ls_), some (.inl ln_), some (.inl g_), none, none, none], [.inl (S_.1 2 cc_ 8), .inl g_], S_)) rfl ?_
      refine sm_T_br (a := 3) (z := 101) rfl (fun cx2_ => ?_) (fun cx2_ => ?_)
      · have cx2_ : (S_.1 2 cc_ 8) ≤ g_ := of_decide_eq_true cx2_
        refine sm_T_go 2 (c1 := (231, [some (.inr (.inr (some (11, 0)))), some (.inr (.inr (some (2, cc_)))), some (.inl a2_), none, some (.inl bs_), some (.inl ls_), some (.inl ln_), some (.inl 0), none, none, none], [], S_)) rfl ?_
        refine ih_.2.2.2 bs_ ls_ ln_ 0 S_ hI_ hF_ ⟨?_, ?_, ?_, ?_, trivial⟩ ?_
        · omega
        · first | exact ht_
        · first | exact hr_
        · first | exact hn_
        · omega
      · have cx2_ : ¬ ((S_.1 2 cc_ 8) ≤ g_) := of_decide_eq_false cx2_
        refine sm_T_go 1 (c1 := (131, [some (.inr (.inr (some (11, 0)))), some (.inr (.inr (some (2, cc_)))), some (.inl a2_), none, some (.inl bs_), some (.inl ls_), some (.inl ln_), some (.inl g_), none, none, none], [.inr (.inr (some (2, cc_)))], S_)) rfl ?_
        refine sm_T_cal (d1 := 0) (Q1 := vq_54 cc_ S_) rfl rfl (by decide) (vc_54 cc_ S_ hI_ ) (fun u_ Sx3_ px6_ => ?_)
        obtain ⟨rfl, vx8_, rfl, px6_⟩ := px6_
        have fg131_ := px6_.2
        refine sm_T_go 1 (c1 := (136, [some (.inr (.inr (some (11, 0)))), some (.inr (.inr (some (2, cc_)))), some (.inl a2_), none, some (.inl bs_), some (.inl ls_), some (.inl ln_), some (.inl g_), none, none, none], [.inl g_, .inl vx8_], S_)) rfl ?_
        refine sm_T_bin (w := vx8_ + g_) rfl (bi_add (by omega) (by omega) (by omega)) ?_ -- pc_ 136
        refine sm_T_go 5 (c1 := (145, [some (.inr (.inr (some (11, 0)))), some (.inr (.inr (some (2, cc_)))), some (.inl a2_), none, some (.inl bs_), some (.inl ls_), some (.inl ln_), some (.inl g_), some (.inl (vx8_ + g_)), some (.inl 0), some (.inl 0)], [], S_)) rfl ?_
        refine ih_.2.2.1 bs_ ls_ ln_ g_ (vx8_ + g_) 0 0 S_ hI_ hF_ ⟨?_, ?_, ?_, ?_, trivial⟩ ?_
        · omega
        · first | exact ht_
        · first | exact hr_
        · first | exact hn_
        · omega
    · rintro bs_ ls_ ln_ g_ nt_ fo_ k_ S_ hI_ hF_ ⟨h0_, ht_, hr_, hn_, -⟩ hm_
      have z1_ : S_.1 2 cc_ 1 = S0_.1 2 cc_ 1 := hF_.1 2 cc_ 1 rfl
      have z2_ : S_.1 2 cc_ 2 = S0_.1 2 cc_ 2 := hF_.1 2 cc_ 2 rfl
      have cg9_ : 0 ≤ S_.1 2 cc_ 8 ∧ S_.1 2 cc_ 8 ≤ 150 := hI_.1 2 cc_ 8 rfl
      have ci_ : 0 ≤ S_.1 2 cc_ 1 ∧ S_.1 2 cc_ 1 ≤ 12 := hI_.1 2 cc_ 1 rfl
      have cr : 0 ≤ S_.1 2 cc_ 2 ∧ S_.1 2 cc_ 2 ≤ 6 := hI_.1 2 cc_ 2 rfl
      refine sm_T_go 3 (c1 := (150, [some (.inr (.inr (some (11, 0)))), some (.inr (.inr (some (2, cc_)))), some (.inl a2_), none, some (.inl bs_), some (.inl ls_), some (.inl ln_), some (.inl g_), some (.inl nt_), some (.inl fo_), some (.inl k_)], [.inl g_, .inr (.inr (some (2, cc_))), .inl k_], S_)) rfl ?_
      refine sm_T_cal (d1 := 0) (Q1 := vq_59 g_ cc_ S_) rfl rfl (by decide) (vc_59 g_ cc_ S_ hI_ (by omega)) (fun u_ Sx1_ px4_ => ?_)
      obtain ⟨rfl, vx6_, rfl, px4_⟩ := px4_
      have gi150_ := px4_.1
      refine sm_T_br (a := 3) (z := 38) rfl (fun cx7_ => ?_) (fun cx7_ => ?_)
      · have cx7_ : vx6_ ≤ k_ := of_decide_eq_true cx7_
        refine sm_T_go 1 (c1 := (193, [some (.inr (.inr (some (11, 0)))), some (.inr (.inr (some (2, cc_)))), some (.inl a2_), none, some (.inl bs_), some (.inl ls_), some (.inl ln_), some (.inl g_), some (.inl nt_), some (.inl fo_), some (.inl k_)], [.inl fo_], S_)) rfl ?_
        refine sm_T_b0 (a := 0) (z := 29) rfl (fun cx8_ => ?_) (fun cx8_ => ?_)
        · have cx8_ : fo_ = 0 := of_decide_eq_true cx8_
          refine sm_T_inc (a := 7) (z := 1) (v := g_) (w := g_ + 1) rfl rfl (by omega) (by omega) (by omega) ?_ -- pc_ 222
          refine sm_T_go 1 (c1 := (121, [some (.inr (.inr (some (11, 0)))), some (.inr (.inr (some (2, cc_)))), some (.inl a2_), none, some (.inl bs_), some (.inl ls_), some (.inl ln_), some (.inl (g_ + 1)), some (.inl nt_), some (.inl fo_), some (.inl k_)], [], S_)) rfl ?_
          refine sm_T_wk [some (.inr (.inr (some (11, 0)))), some (.inr (.inr (some (2, cc_)))), some (.inl a2_), none, some (.inl bs_), some (.inl ls_), some (.inl ln_), some (.inl (g_ + 1)), none, none, none] (by exact ⟨rfl, rfl, rfl, rfl, rfl, rfl, rfl, trivial⟩) ?_
          refine ih_.2.1 bs_ ls_ ln_ (g_ + 1) S_ hI_ hF_ ⟨?_, ?_, ?_, ?_, trivial⟩ ?_
          · omega
          · first | exact ht_ | exact o219_
          · first | exact hr_ | exact r219_
          · first | exact hn_ | (rw [n219_]; exact hn_)
          · omega
        · have cx8_ : ¬ (fo_ = 0) := of_decide_eq_false cx8_
          refine sm_T_go 6 (c1 := (207, [some (.inr (.inr (some (11, 0)))), some (.inr (.inr (some (2, cc_)))), some (.inl a2_), none, some (.inl bs_), some (.inl ls_), some (.inl ln_), some (.inl g_), some (.inl nt_), some (.inl fo_), some (.inl k_)], [.inl nt_, .inr (.inr (some (99, 0))), .inl ln_, .inl nt_, .inr (.inr (some (11, 0)))], S_)) rfl ?_
          refine sm_T_iald (n := 162) rfl rfl (by omega) (by omega) ?_
          have bx9_ : (-2147483648) ≤ S_.2.2.1 99 0 nt_.toNat ∧ S_.2.2.1 99 0 nt_.toNat ≤ 2147483647 := hI_.2 99 0 _
          refine sm_T_bin (w := (i_add ln_ (S_.2.2.1 99 0 nt_.toNat))) rfl rfl ?_ -- pc_ 208
          have bx10_ := i_add_r ln_ (S_.2.2.1 99 0 nt_.toNat)
          refine sm_T_go 4 (c1 := (217, [some (.inr (.inr (some (11, 0)))), some (.inr (.inr (some (2, cc_)))), some (.inl a2_), none, some (.inl bs_), some (.inl ls_), some (.inl ln_), some (.inl g_), some (.inl nt_), some (.inl fo_), some (.inl k_)], [.inl nt_, .inl bs_, .inr (.inr (some (101, 0))), .inl (i_add ln_ (S_.2.2.1 99 0 nt_.toNat)), .inl nt_, .inr (.inr (some (11, 0)))], S_)) rfl ?_
          refine sm_T_bin (w := bs_ + nt_) rfl (bi_add (by omega) (by omega) (by omega)) ?_ -- pc_ 217
          refine sm_T_iald (n := 1944) rfl rfl (by omega) (by omega) ?_
          have bx11_ : (-2147483648) ≤ S_.2.2.1 101 0 (bs_ + nt_).toNat ∧ S_.2.2.1 101 0 (bs_ + nt_).toNat ≤ 2147483647 := hI_.2 101 0 _
          refine sm_T_cal (d1 := 1) (Q1 := vq_203 nt_ (i_add ln_ (S_.2.2.1 99 0 nt_.toNat)) (S_.2.2.1 101 0 (bs_ + nt_).toNat) S_) rfl rfl (by decide) (vc_203 nt_ (i_add ln_ (S_.2.2.1 99 0 nt_.toNat)) (S_.2.2.1 101 0 (bs_ + nt_).toNat) S_ hI_ (by exact ht_) (by exact hr_) (by omega) (by (intro u9_; exfalso; omega))) (fun u_ Sx12_ px15_ => ?_)
          obtain ⟨rfl, hIx13_, hFx14_, px15_⟩ := px15_
          have hFx16_ : ai_fr (sx_W vw_201) S0_ Sx12_ := ai_fr_tr hF_ (fr_le hFx14_ rfl)
          have o219_ := px15_
          have r219_ := ttr_fr hr_ hFx14_
          have n219_ := hFx14_.1 11 0 11 rfl
          refine sm_T_inc (a := 7) (z := 1) (v := g_) (w := g_ + 1) rfl rfl (by omega) (by omega) (by omega) ?_ -- pc_ 222
          refine sm_T_go 1 (c1 := (121, [some (.inr (.inr (some (11, 0)))), some (.inr (.inr (some (2, cc_)))), some (.inl a2_), none, some (.inl bs_), some (.inl ls_), some (.inl ln_), some (.inl (g_ + 1)), some (.inl nt_), some (.inl fo_), some (.inl k_)], [], Sx12_)) rfl ?_
          refine sm_T_wk [some (.inr (.inr (some (11, 0)))), some (.inr (.inr (some (2, cc_)))), some (.inl a2_), none, some (.inl bs_), some (.inl ls_), some (.inl ln_), some (.inl (g_ + 1)), none, none, none] (by exact ⟨rfl, rfl, rfl, rfl, rfl, rfl, rfl, trivial⟩) ?_
          refine ih_.2.1 bs_ ls_ ln_ (g_ + 1) Sx12_ hIx13_ hFx16_ ⟨?_, ?_, ?_, ?_, trivial⟩ ?_
          · omega
          · first | exact ht_ | exact o219_
          · first | exact hr_ | exact r219_
          · first | exact hn_ | (rw [n219_]; exact hn_)
          · omega
      · have cx7_ : ¬ (vx6_ ≤ k_) := of_decide_eq_false cx7_
        refine sm_T_go 1 (c1 := (158, [some (.inr (.inr (some (11, 0)))), some (.inr (.inr (some (2, cc_)))), some (.inl a2_), none, some (.inl bs_), some (.inl ls_), some (.inl ln_), some (.inl g_), some (.inl nt_), some (.inl fo_), some (.inl k_)], [.inl fo_], S_)) rfl ?_
        refine sm_T_b0 (a := 1) (z := 20) rfl (fun cx17_ => ?_) (fun cx17_ => ?_)
        · have cx17_ : fo_ ≠ 0 := of_decide_eq_true cx17_
          refine sm_T_go 3 (c1 := (185, [some (.inr (.inr (some (11, 0)))), some (.inr (.inr (some (2, cc_)))), some (.inl a2_), none, some (.inl bs_), some (.inl ls_), some (.inl ln_), some (.inl g_), some (.inl nt_), some (.inl 1), some (.inl k_)], [], S_)) rfl ?_
          refine sm_T_inc (a := 10) (z := 1) (v := k_) (w := k_ + 1) rfl rfl (by omega) (by omega) (by omega) ?_ -- pc_ 185
          refine sm_T_go 1 (c1 := (145, [some (.inr (.inr (some (11, 0)))), some (.inr (.inr (some (2, cc_)))), some (.inl a2_), none, some (.inl bs_), some (.inl ls_), some (.inl ln_), some (.inl g_), some (.inl nt_), some (.inl 1), some (.inl (k_ + 1))], [], S_)) rfl ?_
          refine ih_.2.2.1 bs_ ls_ ln_ g_ nt_ 1 (k_ + 1) S_ hI_ hF_ ⟨?_, ?_, ?_, ?_, trivial⟩ ?_
          · omega
          · first | exact ht_
          · first | exact hr_
          · first | exact hn_
          · omega
        · have cx17_ : ¬ (fo_ ≠ 0) := of_decide_eq_false cx17_
          refine sm_T_go 4 (c1 := (168, [some (.inr (.inr (some (11, 0)))), some (.inr (.inr (some (2, cc_)))), some (.inl a2_), none, some (.inl bs_), some (.inl ls_), some (.inl ln_), some (.inl g_), some (.inl nt_), some (.inl fo_), some (.inl k_)], [.inl g_, .inl 3, .inr (.inr (some (36, (0 + cc_))))], S_)) rfl ?_
          refine sm_T_bin (w := 3 * g_) rfl (bi_mul (by omega) (by omega) (by omega)) ?_ -- pc_ 168
          refine sm_T_go 1 (c1 := (171, [some (.inr (.inr (some (11, 0)))), some (.inr (.inr (some (2, cc_)))), some (.inl a2_), none, some (.inl bs_), some (.inl ls_), some (.inl ln_), some (.inl g_), some (.inl nt_), some (.inl fo_), some (.inl k_)], [.inl k_, .inl (3 * g_), .inr (.inr (some (36, (0 + cc_))))], S_)) rfl ?_
          refine sm_T_bin (w := 3 * g_ + k_) rfl (bi_add (by omega) (by omega) (by omega)) ?_ -- pc_ 171
          refine sm_T_iald (n := 450) rfl rfl (by omega) (by omega) ?_
          have bx18_ : 0 ≤ S_.2.2.1 36 (0 + cc_) (3 * g_ + k_).toNat ∧ S_.2.2.1 36 (0 + cc_) (3 * g_ + k_).toNat ≤ 161 := hI_.2 36 (0 + cc_) _
          refine sm_T_go 1 (c1 := (175, [some (.inr (.inr (some (11, 0)))), some (.inr (.inr (some (2, cc_)))), some (.inl a2_), none, some (.inl bs_), some (.inl ls_), some (.inl ln_), some (.inl g_), some (.inl nt_), some (.inl fo_), some (.inl k_)], [.inl ls_, .inl (S_.2.2.1 36 (0 + cc_) (3 * g_ + k_).toNat)], S_)) rfl ?_
          refine sm_T_br (a := 1) (z := 7) rfl (fun cx19_ => ?_) (fun cx19_ => ?_)
          · have cx19_ : (S_.2.2.1 36 (0 + cc_) (3 * g_ + k_).toNat) ≠ ls_ := of_decide_eq_true cx19_
            refine sm_T_go 2 (c1 := (185, [some (.inr (.inr (some (11, 0)))), some (.inr (.inr (some (2, cc_)))), some (.inl a2_), none, some (.inl bs_), some (.inl ls_), some (.inl ln_), some (.inl g_), some (.inl nt_), some (.inl 0), some (.inl k_)], [], S_)) rfl ?_
            refine sm_T_inc (a := 10) (z := 1) (v := k_) (w := k_ + 1) rfl rfl (by omega) (by omega) (by omega) ?_ -- pc_ 185
            refine sm_T_go 1 (c1 := (145, [some (.inr (.inr (some (11, 0)))), some (.inr (.inr (some (2, cc_)))), some (.inl a2_), none, some (.inl bs_), some (.inl ls_), some (.inl ln_), some (.inl g_), some (.inl nt_), some (.inl 0), some (.inl (k_ + 1))], [], S_)) rfl ?_
            refine ih_.2.2.1 bs_ ls_ ln_ g_ nt_ 0 (k_ + 1) S_ hI_ hF_ ⟨?_, ?_, ?_, ?_, trivial⟩ ?_
            · omega
            · first | exact ht_
            · first | exact hr_
            · first | exact hn_
            · omega
          · have cx19_ : ¬ ((S_.2.2.1 36 (0 + cc_) (3 * g_ + k_).toNat) ≠ ls_) := of_decide_eq_false cx19_
            refine sm_T_go 3 (c1 := (185, [some (.inr (.inr (some (11, 0)))), some (.inr (.inr (some (2, cc_)))), some (.inl a2_), none, some (.inl bs_), some (.inl ls_), some (.inl ln_), some (.inl g_), some (.inl nt_), some (.inl 1), some (.inl k_)], [], S_)) rfl ?_
            refine sm_T_inc (a := 10) (z := 1) (v := k_) (w := k_ + 1) rfl rfl (by omega) (by omega) (by omega) ?_ -- pc_ 185
            refine sm_T_go 1 (c1 := (145, [some (.inr (.inr (some (11, 0)))), some (.inr (.inr (some (2, cc_)))), some (.inl a2_), none, some (.inl bs_), some (.inl ls_), some (.inl ln_), some (.inl g_), some (.inl nt_), some (.inl 1), some (.inl (k_ + 1))], [], S_)) rfl ?_
            refine ih_.2.2.1 bs_ ls_ ln_ g_ nt_ 1 (k_ + 1) S_ hI_ hF_ ⟨?_, ?_, ?_, ?_, trivial⟩ ?_
            · omega
            · first | exact ht_
            · first | exact hr_
            · first | exact hn_
            · omega
    · rintro bs_ ls_ ln_ e_ S_ hI_ hF_ ⟨h0_, ht_, hr_, hn_, -⟩ hm_
      have z1_ : S_.1 2 cc_ 1 = S0_.1 2 cc_ 1 := hF_.1 2 cc_ 1 rfl
      have z2_ : S_.1 2 cc_ 2 = S0_.1 2 cc_ 2 := hF_.1 2 cc_ 2 rfl
      have cg9_ : 0 ≤ S_.1 2 cc_ 8 ∧ S_.1 2 cc_ 8 ≤ 150 := hI_.1 2 cc_ 8 rfl
      have ci_ : 0 ≤ S_.1 2 cc_ 1 ∧ S_.1 2 cc_ 1 ≤ 12 := hI_.1 2 cc_ 1 rfl
      have cr : 0 ≤ S_.1 2 cc_ 2 ∧ S_.1 2 cc_ 2 ≤ 6 := hI_.1 2 cc_ 2 rfl
      have co_ : 0 ≤ S_.1 2 cc_ 3 ∧ S_.1 2 cc_ 3 ≤ 16 := hI_.1 2 cc_ 3 rfl
      refine sm_T_go 2 (c1 := (234, [some (.inr (.inr (some (11, 0)))), some (.inr (.inr (some (2, cc_)))), some (.inl a2_), none, some (.inl bs_), some (.inl ls_), some (.inl ln_), some (.inl e_), none, none, none], [.inr (.inr (some (2, cc_))), .inl e_], S_)) rfl ?_
      refine sm_T_cal (d1 := 0) (Q1 := vq_57 cc_ S_) rfl rfl (by decide) (vc_57 cc_ S_ hI_ ) (fun u_ Sx1_ px4_ => ?_)
      obtain ⟨rfl, vx6_, rfl, px4_⟩ := px4_
      have nt234_ := px4_.2
      refine sm_T_br (a := 3) (z := 65) rfl (fun cx7_ => ?_) (fun cx7_ => ?_)
      · have cx7_ : vx6_ ≤ e_ := of_decide_eq_true cx7_
        refine sm_T_rv rfl ⟨_, _, rfl, rfl, hI_, hF_, ?_⟩
        exact ht_
      · have cx7_ : ¬ (vx6_ ≤ e_) := of_decide_eq_false cx7_
        refine sm_T_go 2 (c1 := (243, [some (.inr (.inr (some (11, 0)))), some (.inr (.inr (some (2, cc_)))), some (.inl a2_), none, some (.inl bs_), some (.inl ls_), some (.inl ln_), some (.inl e_), none, none, none], [.inl e_, .inr (.inr (some (2, cc_)))], S_)) rfl ?_
        refine sm_T_cal (d1 := 0) (Q1 := vq_58 e_ cc_ S_) rfl rfl (by decide) (vc_58 e_ cc_ S_ hI_ (by omega)) (fun u_ Sx8_ px11_ => ?_)
        obtain ⟨rfl, vx13_, rfl, px11_⟩ := px11_
        have en243_ := px11_
        refine sm_T_go 1 (c1 := (248, [some (.inr (.inr (some (11, 0)))), some (.inr (.inr (some (2, cc_)))), some (.inl a2_), none, some (.inl bs_), some (.inl ls_), some (.inl ln_), some (.inl e_), none, none, none], [.inl ls_, .inl vx13_], S_)) rfl ?_
        refine sm_T_br (a := 1) (z := 48) rfl (fun cx14_ => ?_) (fun cx14_ => ?_)
        · have cx14_ : vx13_ ≠ ls_ := of_decide_eq_true cx14_
          refine sm_T_inc (a := 7) (z := 1) (v := e_) (w := e_ + 1) rfl rfl (by omega) (by omega) (by omega) ?_ -- pc_ 296
          refine sm_T_go 1 (c1 := (231, [some (.inr (.inr (some (11, 0)))), some (.inr (.inr (some (2, cc_)))), some (.inl a2_), none, some (.inl bs_), some (.inl ls_), some (.inl ln_), some (.inl (e_ + 1)), none, none, none], [], S_)) rfl ?_
          refine ih_.2.2.2 bs_ ls_ ln_ (e_ + 1) S_ hI_ hF_ ⟨?_, ?_, ?_, ?_, trivial⟩ ?_
          · omega
          · first | exact ht_ | exact o293_
          · first | exact hr_ | exact r293_
          · first | exact hn_ | (rw [n293_]; exact hn_)
          · omega
        · have cx14_ : ¬ (vx13_ ≠ ls_) := of_decide_eq_false cx14_
          have f9_ : S_.2.2.1 106 0 (0 : Int).toNat < 12 := hr_.2 (by omega)
          refine sm_T_go 5 (c1 := (260, [some (.inr (.inr (some (11, 0)))), some (.inr (.inr (some (2, cc_)))), some (.inl a2_), none, some (.inl bs_), some (.inl ls_), some (.inl ln_), some (.inl e_), none, none, none], [.inl 0, .inr (.inr (some (106, 0))), .inr (.inr (some (39, (0 + cc_))))], S_)) rfl ?_
          refine sm_T_iald (n := 152) rfl rfl (by omega) (by omega) ?_
          have bx15_ : 0 ≤ S_.2.2.1 106 0 (0 : Int).toNat ∧ S_.2.2.1 106 0 (0 : Int).toNat ≤ 10161 := hI_.2 106 0 _
          refine sm_T_iald (n := 12) rfl rfl (by omega) (by omega) ?_
          have bx16_ : 0 ≤ S_.2.2.1 39 (0 + cc_) (S_.2.2.1 106 0 (0 : Int).toNat).toNat ∧ S_.2.2.1 39 (0 + cc_) (S_.2.2.1 106 0 (0 : Int).toNat).toNat ≤ 4194303 := hI_.2 39 (0 + cc_) _
          refine sm_T_go 1 (c1 := (264, [some (.inr (.inr (some (11, 0)))), some (.inr (.inr (some (2, cc_)))), some (.inl a2_), none, some (.inl bs_), some (.inl ls_), some (.inl ln_), some (.inl e_), none, none, none], [.inl e_, .inl (S_.2.2.1 39 (0 + cc_) (S_.2.2.1 106 0 (0 : Int).toNat).toNat)], S_)) rfl ?_
          refine sm_T_bin (w := (i_shr (S_.2.2.1 39 (0 + cc_) (S_.2.2.1 106 0 (0 : Int).toNat).toNat) e_)) rfl rfl ?_ -- pc_ 264
          first | have bx17_ := i_shr_p (x_ := (S_.2.2.1 39 (0 + cc_) (S_.2.2.1 106 0 (0 : Int).toNat).toNat)) (e_ := e_) (by omega) (by omega) (by omega) | have bx17_ := i_shr_n (S_.2.2.1 39 (0 + cc_) (S_.2.2.1 106 0 (0 : Int).toNat).toNat) e_
          refine sm_T_go 1 (c1 := (266, [some (.inr (.inr (some (11, 0)))), some (.inr (.inr (some (2, cc_)))), some (.inl a2_), none, some (.inl bs_), some (.inl ls_), some (.inl ln_), some (.inl e_), none, none, none], [.inl 1, .inl (i_shr (S_.2.2.1 39 (0 + cc_) (S_.2.2.1 106 0 (0 : Int).toNat).toNat) e_)], S_)) rfl ?_
          refine sm_T_bin (w := ((i_shr (S_.2.2.1 39 (0 + cc_) (S_.2.2.1 106 0 (0 : Int).toNat).toNat) e_) % 2)) rfl (bi_msk (k := 1) (by decide)) ?_ -- pc_ 266
          refine sm_T_b0 (a := 1) (z := 29) rfl (fun cx18_ => ?_) (fun cx18_ => ?_)
          · have cx18_ : ((i_shr (S_.2.2.1 39 (0 + cc_) (S_.2.2.1 106 0 (0 : Int).toNat).toNat) e_) % 2) ≠ 0 := of_decide_eq_true cx18_
            refine sm_T_inc (a := 7) (z := 1) (v := e_) (w := e_ + 1) rfl rfl (by omega) (by omega) (by omega) ?_ -- pc_ 296
            refine sm_T_go 1 (c1 := (231, [some (.inr (.inr (some (11, 0)))), some (.inr (.inr (some (2, cc_)))), some (.inl a2_), none, some (.inl bs_), some (.inl ls_), some (.inl ln_), some (.inl (e_ + 1)), none, none, none], [], S_)) rfl ?_
            refine ih_.2.2.2 bs_ ls_ ln_ (e_ + 1) S_ hI_ hF_ ⟨?_, ?_, ?_, ?_, trivial⟩ ?_
            · omega
            · first | exact ht_ | exact o293_
            · first | exact hr_ | exact r293_
            · first | exact hn_ | (rw [n293_]; exact hn_)
            · omega
          · have cx18_ : ¬ (((i_shr (S_.2.2.1 39 (0 + cc_) (S_.2.2.1 106 0 (0 : Int).toNat).toNat) e_) % 2) ≠ 0) := of_decide_eq_false cx18_
            refine sm_T_go 3 (c1 := (276, [some (.inr (.inr (some (11, 0)))), some (.inr (.inr (some (2, cc_)))), some (.inl a2_), none, some (.inl bs_), some (.inl ls_), some (.inl ln_), some (.inl e_), none, none, none], [.inl e_, .inl 10000, .inr (.inr (some (11, 0)))], S_)) rfl ?_
            refine sm_T_bin (w := e_ + 10000) rfl (bi_add (by omega) (by omega) (by omega)) ?_ -- pc_ 276
            have bx19_ : 0 ≤ S_.1 2 cc_ 3 ∧ S_.1 2 cc_ 3 ≤ 16 := hI_.1 2 cc_ 3 rfl
            refine sm_T_go 4 (c1 := (285, [some (.inr (.inr (some (11, 0)))), some (.inr (.inr (some (2, cc_)))), some (.inl a2_), none, some (.inl bs_), some (.inl ls_), some (.inl ln_), some (.inl e_), none, none, none], [.inl (S_.1 2 cc_ 3), .inl e_, .inl ln_, .inl (e_ + 10000), .inr (.inr (some (11, 0)))], S_)) rfl ?_
            refine sm_T_br (a := 3) (z := 7) rfl (fun cx20_ => ?_) (fun cx20_ => ?_)
            · have cx20_ : (S_.1 2 cc_ 3) ≤ e_ := of_decide_eq_true cx20_
              refine sm_T_go 1 (c1 := (293, [some (.inr (.inr (some (11, 0)))), some (.inr (.inr (some (2, cc_)))), some (.inl a2_), none, some (.inl bs_), some (.inl ls_), some (.inl ln_), some (.inl e_), none, none, none], [.inl 2, .inl ln_, .inl (e_ + 10000), .inr (.inr (some (11, 0)))], S_)) rfl ?_
              refine sm_T_cal (d1 := 1) (Q1 := vq_203 (e_ + 10000) ln_ 2 S_) rfl rfl (by decide) (vc_203 (e_ + 10000) ln_ 2 S_ hI_ (by exact ht_) (by exact hr_) (by omega) (by (intro u9_; exfalso; omega))) (fun u_ Sx21_ px24_ => ?_)
              obtain ⟨rfl, hIx22_, hFx23_, px24_⟩ := px24_
              have hFx25_ : ai_fr (sx_W vw_201) S0_ Sx21_ := ai_fr_tr hF_ (fr_le hFx23_ rfl)
              have ex26_ : Sx21_.1 2 cc_ 3 = S_.1 2 cc_ 3 := hFx23_.1 2 cc_ 3 rfl
              have o293_ := px24_
              have r293_ := ttr_fr hr_ hFx23_
              have n293_ := hFx23_.1 11 0 11 rfl
              refine sm_T_inc (a := 7) (z := 1) (v := e_) (w := e_ + 1) rfl rfl (by omega) (by omega) (by omega) ?_ -- pc_ 296
              refine sm_T_go 1 (c1 := (231, [some (.inr (.inr (some (11, 0)))), some (.inr (.inr (some (2, cc_)))), some (.inl a2_), none, some (.inl bs_), some (.inl ls_), some (.inl ln_), some (.inl (e_ + 1)), none, none, none], [], Sx21_)) rfl ?_
              refine ih_.2.2.2 bs_ ls_ ln_ (e_ + 1) Sx21_ hIx22_ hFx25_ ⟨?_, ?_, ?_, ?_, trivial⟩ ?_
              · omega
              · first | exact ht_ | exact o293_
              · first | exact hr_ | exact r293_
              · first | exact hn_ | (rw [n293_]; exact hn_)
              · omega
            · have cx20_ : ¬ ((S_.1 2 cc_ 3) ≤ e_) := of_decide_eq_false cx20_
              refine sm_T_go 2 (c1 := (293, [some (.inr (.inr (some (11, 0)))), some (.inr (.inr (some (2, cc_)))), some (.inl a2_), none, some (.inl bs_), some (.inl ls_), some (.inl ln_), some (.inl e_), none, none, none], [.inl 0, .inl ln_, .inl (e_ + 10000), .inr (.inr (some (11, 0)))], S_)) rfl ?_
              refine sm_T_cal (d1 := 1) (Q1 := vq_203 (e_ + 10000) ln_ 0 S_) rfl rfl (by decide) (vc_203 (e_ + 10000) ln_ 0 S_ hI_ (by exact ht_) (by exact hr_) (by omega) (by (intro u9_; exfalso; omega))) (fun u_ Sx27_ px30_ => ?_)
              obtain ⟨rfl, hIx28_, hFx29_, px30_⟩ := px30_
              have hFx31_ : ai_fr (sx_W vw_201) S0_ Sx27_ := ai_fr_tr hF_ (fr_le hFx29_ rfl)
              have ex32_ : Sx27_.1 2 cc_ 3 = S_.1 2 cc_ 3 := hFx29_.1 2 cc_ 3 rfl
              have o293_ := px30_
              have r293_ := ttr_fr hr_ hFx29_
              have n293_ := hFx29_.1 11 0 11 rfl
              refine sm_T_inc (a := 7) (z := 1) (v := e_) (w := e_ + 1) rfl rfl (by omega) (by omega) (by omega) ?_ -- pc_ 296
              refine sm_T_go 1 (c1 := (231, [some (.inr (.inr (some (11, 0)))), some (.inr (.inr (some (2, cc_)))), some (.inl a2_), none, some (.inl bs_), some (.inl ls_), some (.inl ln_), some (.inl (e_ + 1)), none, none, none], [], Sx27_)) rfl ?_
              refine ih_.2.2.2 bs_ ls_ ln_ (e_ + 1) Sx27_ hIx28_ hFx31_ ⟨?_, ?_, ?_, ?_, trivial⟩ ?_
              · omega
              · first | exact ht_ | exact o293_
              · first | exact hr_ | exact r293_
              · first | exact hn_ | (rw [n293_]; exact hn_)
              · omega
set_option maxHeartbeats 2000000 in
set_option maxRecDepth 20000 in
theorem vc_201 {sc_ : Nat × (Nat → Int)} (a2_ : Int) (cc_ : Nat) (S0_ : sm_S) (hI_ : gi S0_) (hs_ : S0_.1 2 cc_ 1 + S0_.1 2 cc_ 2 ≤ 12) (hp_ : tpo S0_) (h2_ : 0 ≤ a2_ ∧ a2_ < S0_.1 11 0 5) (hl_ : S0_.2.2.1 105 0 (152 * (S0_.2.2.1 102 0 a2_.toNat) + (S0_.2.2.1 104 0 (S0_.2.2.1 102 0 a2_.toNat).toNat) - 1).toNat < 10000) : sm_T (mt_P sc_) 2 201 (0, [some (.inr (.inr (some (11, 0)))), some (.inr (.inr (some (2, cc_)))), some (.inl a2_), none, none, none, none, none, none, none, none], [], S0_) (fun ro9_ => ∃ u_ S1_, ro9_ = (.inl u_, S1_, 0) ∧ vq_201 a2_ cc_ S0_ u_ S1_) := by
  have hF_ : ai_fr (sx_W vw_201) S0_ S0_ := ai_fr_rf
  have p40_ := hp_.1
  have co_ : 0 ≤ S0_.2.2.1 102 0 a2_.toNat ∧ S0_.2.2.1 102 0 a2_.toNat ≤ 40 := hI_.2 102 0 _
  have t9_ := hp_.2 a2_.toNat (by omega) (by omega)
  have t1_ := t9_.1
  have t2_ := t9_.2.1
  have t3_ := t9_.2.2.1
  have t4_ := t9_.2.2.2.1
  have t5_ := t9_.2.2.2.2
  rw [show 152 * (S0_.2.2.1 102 0 a2_.toNat).toNat + ((S0_.2.2.1 104 0 (S0_.2.2.1 102 0 a2_.toNat).toNat) - 1).toNat = (152 * (S0_.2.2.1 102 0 a2_.toNat) + (S0_.2.2.1 104 0 (S0_.2.2.1 102 0 a2_.toNat).toNat) - 1).toNat by omega] at t5_
  refine sm_T_go 3 (c1 := (5, [some (.inr (.inr (some (11, 0)))), some (.inr (.inr (some (2, cc_)))), some (.inl a2_), none, none, none, none, none, none, none, none], [.inl a2_, .inr (.inr (some (102, 0)))], S0_)) rfl ?_
  refine sm_T_iald (n := 41) rfl rfl (by omega) (by omega) ?_
  have bx1_ : 0 ≤ S0_.2.2.1 102 0 a2_.toNat ∧ S0_.2.2.1 102 0 a2_.toNat ≤ 40 := hI_.2 102 0 _
  refine sm_T_go 5 (c1 := (13, [some (.inr (.inr (some (11, 0)))), some (.inr (.inr (some (2, cc_)))), some (.inl a2_), some (.inl (S0_.2.2.1 102 0 a2_.toNat)), none, none, none, none, none, none, none], [.inl (S0_.2.2.1 102 0 a2_.toNat), .inr (.inr (some (104, 0))), .inr (.inr (some (11, 0)))], S0_)) rfl ?_
  refine sm_T_iald (n := 41) rfl rfl (by omega) (by omega) ?_
  have bx2_ : 0 ≤ S0_.2.2.1 104 0 (S0_.2.2.1 102 0 a2_.toNat).toNat ∧ S0_.2.2.1 104 0 (S0_.2.2.1 102 0 a2_.toNat).toNat ≤ 152 := hI_.2 104 0 _
  have hIx3_ : gi (sm_pI S0_ 11 0 11 (S0_.2.2.1 104 0 (S0_.2.2.1 102 0 a2_.toNat).toNat)) := gi_pI hI_ (show 0 ≤ (S0_.2.2.1 104 0 (S0_.2.2.1 102 0 a2_.toNat).toNat) ∧ (S0_.2.2.1 104 0 (S0_.2.2.1 102 0 a2_.toNat).toNat) ≤ 152 from ⟨by omega, by omega⟩)
  have hFx4_ : ai_fr (sx_W vw_201) S0_ (sm_pI S0_ 11 0 11 (S0_.2.2.1 104 0 (S0_.2.2.1 102 0 a2_.toNat).toNat)) := ai_fr_tr hF_ (ai_fr_pI rfl)
  refine sm_T_go 5 (c1 := (25, [some (.inr (.inr (some (11, 0)))), some (.inr (.inr (some (2, cc_)))), some (.inl a2_), some (.inl (S0_.2.2.1 102 0 a2_.toNat)), none, none, none, none, none, none, none], [.inl 152, .inl (S0_.2.2.1 102 0 a2_.toNat), .inr (.inr (some (105, 0)))], sm_pI S0_ 11 0 11 (S0_.2.2.1 104 0 (S0_.2.2.1 102 0 a2_.toNat).toNat))) rfl ?_
  refine sm_T_bin (w := 152 * (S0_.2.2.1 102 0 a2_.toNat)) rfl (bi_mul (by omega) (by omega) (by omega)) ?_ -- pc_ 25
  refine sm_T_go 5 (c1 := (35, [some (.inr (.inr (some (11, 0)))), some (.inr (.inr (some (2, cc_)))), some (.inl a2_), some (.inl (S0_.2.2.1 102 0 a2_.toNat)), none, none, none, none, none, none, none], [.inl (S0_.2.2.1 104 0 (S0_.2.2.1 102 0 a2_.toNat).toNat), .inl 0, .inr (.inr (some (106, 0))), .inl (152 * (S0_.2.2.1 102 0 a2_.toNat)), .inr (.inr (some (105, 0)))], sm_pI S0_ 11 0 11 (S0_.2.2.1 104 0 (S0_.2.2.1 102 0 a2_.toNat).toNat))) rfl ?_
  refine sm_T_nt (u := none) (S1 := sm_acI (sm_pI S0_ 11 0 11 (S0_.2.2.1 104 0 (S0_.2.2.1 102 0 a2_.toNat).toNat)) 105 0 106 0 (152 * (S0_.2.2.1 102 0 a2_.toNat)).toNat (0 : Int).toNat (S0_.2.2.1 104 0 (S0_.2.2.1 102 0 a2_.toNat).toNat).toNat) rfl rfl (nt_acI (sc := sc_) (t := 105) (i := 0) (t' := 106) (i' := 0) (x := 152 * (S0_.2.2.1 102 0 a2_.toNat)) (y := 0) (m := (S0_.2.2.1 104 0 (S0_.2.2.1 102 0 a2_.toNat).toNat)) (n := 6232) (n1 := 152) rfl rfl (by omega) (by omega) (by omega) (by omega) (by omega)) ?_
  have hIx5_ : gi (sm_acI (sm_pI S0_ 11 0 11 (S0_.2.2.1 104 0 (S0_.2.2.1 102 0 a2_.toNat).toNat)) 105 0 106 0 (152 * (S0_.2.2.1 102 0 a2_.toNat)).toNat (0 : Int).toNat (S0_.2.2.1 104 0 (S0_.2.2.1 102 0 a2_.toNat).toNat).toNat) := gi_ac hIx3_ (by decide) (by decide)
  have hFx6_ : ai_fr (sx_W vw_201) S0_ (sm_acI (sm_pI S0_ 11 0 11 (S0_.2.2.1 104 0 (S0_.2.2.1 102 0 a2_.toNat).toNat)) 105 0 106 0 (152 * (S0_.2.2.1 102 0 a2_.toNat)).toNat (0 : Int).toNat (S0_.2.2.1 104 0 (S0_.2.2.1 102 0 a2_.toNat).toNat).toNat) := ai_fr_tr hFx4_ (fr_ac rfl)
  refine sm_T_go 2 (c1 := (40, [some (.inr (.inr (some (11, 0)))), some (.inr (.inr (some (2, cc_)))), some (.inl a2_), some (.inl (S0_.2.2.1 102 0 a2_.toNat)), none, none, none, none, none, none, none], [.inl a2_, .inr (.inr (some (11, 0)))], sm_acI (sm_pI S0_ 11 0 11 (S0_.2.2.1 104 0 (S0_.2.2.1 102 0 a2_.toNat).toNat)) 105 0 106 0 (152 * (S0_.2.2.1 102 0 a2_.toNat)).toNat (0 : Int).toNat (S0_.2.2.1 104 0 (S0_.2.2.1 102 0 a2_.toNat).toNat).toNat)) rfl ?_
  refine sm_T_cal (d1 := 0) (Q1 := vq_202 a2_ (sm_acI (sm_pI S0_ 11 0 11 (S0_.2.2.1 104 0 (S0_.2.2.1 102 0 a2_.toNat).toNat)) 105 0 106 0 (152 * (S0_.2.2.1 102 0 a2_.toNat)).toNat (0 : Int).toNat (S0_.2.2.1 104 0 (S0_.2.2.1 102 0 a2_.toNat).toNat).toNat)) rfl rfl (by decide) (vc_202 a2_ (sm_acI (sm_pI S0_ 11 0 11 (S0_.2.2.1 104 0 (S0_.2.2.1 102 0 a2_.toNat).toNat)) 105 0 106 0 (152 * (S0_.2.2.1 102 0 a2_.toNat)).toNat (0 : Int).toNat (S0_.2.2.1 104 0 (S0_.2.2.1 102 0 a2_.toNat).toNat).toNat) hIx5_ (by (show 0 ≤ a2_ ∧ a2_ < S0_.1 11 0 5; omega)) (by exact hp_)) (fun u_ Sx7_ px10_ => ?_)
  obtain ⟨rfl, hIx8_, hFx9_, px10_⟩ := px10_
  have hFx11_ : ai_fr (sx_W vw_201) S0_ Sx7_ := ai_fr_tr hFx6_ (fr_le hFx9_ rfl)
  have r40_ := px10_
  have s40_ : Sx7_.1 11 0 11 = (S0_.2.2.1 104 0 (S0_.2.2.1 102 0 a2_.toNat).toNat) := hFx9_.1 11 0 11 rfl
  have w40_ := fr_arr (t := 106) (i := 0) hFx9_ rfl
  have v40_ : ∀ j_ : Nat, (j_ : Int) < (S0_.2.2.1 104 0 (S0_.2.2.1 102 0 a2_.toNat).toNat) → Sx7_.2.2.1 106 0 j_ = S0_.2.2.1 105 0 (152 * (S0_.2.2.1 102 0 a2_.toNat).toNat + j_) := fun j_ hj_ => by (rw [w40_, sm_acI_at, cp_at (b_ := (0 : Int).toNat) (Nat.zero_le _) (by show j_ < 0 + Int.toNat _; omega)]; rw [rd_fa]; exact congrArg _ (by show Int.toNat _ + (j_ - 0) = _; omega))
  have T40_ : ttr Sx7_ := ⟨fun j_ hj_ => by (rw [s40_] at hj_; rw [v40_ j_ hj_]; by_cases y9_ : (j_ : Int) < (S0_.2.2.1 104 0 (S0_.2.2.1 102 0 a2_.toNat).toNat) - 1; exact t4_ j_ y9_; (rw [show 152 * (S0_.2.2.1 102 0 a2_.toNat).toNat + j_ = (152 * (S0_.2.2.1 102 0 a2_.toNat) + (S0_.2.2.1 104 0 (S0_.2.2.1 102 0 a2_.toNat).toNat) - 1).toNat by omega]; omega)), fun _ => by (rw [v40_ 0 (by omega), Nat.add_zero]; exact t3_)⟩
  have a40_ : Sx7_.2.2.1 106 0 (0 : Int).toNat < 12 := T40_.2 (by omega)
  have b40_ := T40_.1 ((S0_.2.2.1 104 0 (S0_.2.2.1 102 0 a2_.toNat).toNat) - 1).toNat (by omega)
  rw [show ((S0_.2.2.1 104 0 (S0_.2.2.1 102 0 a2_.toNat).toNat) - 1).toNat = (Sx7_.1 11 0 11 - 1).toNat by omega] at b40_
  have c40_ : 0 ≤ Sx7_.2.2.1 106 0 0 ∧ Sx7_.2.2.1 106 0 0 ≤ 10161 := hIx8_.2 106 0 _
  refine sm_T_go 3 (c1 := (48, [some (.inr (.inr (some (11, 0)))), some (.inr (.inr (some (2, cc_)))), some (.inl a2_), some (.inl (S0_.2.2.1 102 0 a2_.toNat)), none, none, none, none, none, none, none], [.inl 0, .inr (.inr (some (106, 0)))], Sx7_)) rfl ?_
  refine sm_T_iald (n := 152) rfl rfl (by omega) (by omega) ?_
  have bx12_ : 0 ≤ Sx7_.2.2.1 106 0 (0 : Int).toNat ∧ Sx7_.2.2.1 106 0 (0 : Int).toNat ≤ 10161 := hIx8_.2 106 0 _
  refine sm_T_go 1 (c1 := (52, [some (.inr (.inr (some (11, 0)))), some (.inr (.inr (some (2, cc_)))), some (.inl a2_), some (.inl (S0_.2.2.1 102 0 a2_.toNat)), none, none, none, none, none, none, none], [.inl 162, .inl (Sx7_.2.2.1 106 0 (0 : Int).toNat)], Sx7_)) rfl ?_
  refine sm_T_bin (w := 162 * (Sx7_.2.2.1 106 0 (0 : Int).toNat)) rfl (bi_mul (by omega) (by omega) (by omega)) ?_ -- pc_ 52
  have bx13_ : 0 ≤ Sx7_.1 11 0 11 ∧ Sx7_.1 11 0 11 ≤ 152 := hIx8_.1 11 0 11 rfl
  refine sm_T_go 6 (c1 := (64, [some (.inr (.inr (some (11, 0)))), some (.inr (.inr (some (2, cc_)))), some (.inl a2_), some (.inl (S0_.2.2.1 102 0 a2_.toNat)), some (.inl (162 * (Sx7_.2.2.1 106 0 (0 : Int).toNat))), none, none, none, none, none, none], [.inl 1, .inl (Sx7_.1 11 0 11), .inr (.inr (some (106, 0)))], Sx7_)) rfl ?_
  refine sm_T_bin (w := (Sx7_.1 11 0 11) - 1) rfl (bi_sub (by omega) (by omega) (by omega)) ?_ -- pc_ 64
  refine sm_T_iald (n := 152) rfl rfl (by omega) (by omega) ?_
  have bx14_ : 0 ≤ Sx7_.2.2.1 106 0 ((Sx7_.1 11 0 11) - 1).toNat ∧ Sx7_.2.2.1 106 0 ((Sx7_.1 11 0 11) - 1).toNat ≤ 10161 := hIx8_.2 106 0 _
  refine sm_T_go 5 (c1 := (74, [some (.inr (.inr (some (11, 0)))), some (.inr (.inr (some (2, cc_)))), some (.inl a2_), some (.inl (S0_.2.2.1 102 0 a2_.toNat)), some (.inl (162 * (Sx7_.2.2.1 106 0 (0 : Int).toNat))), some (.inl (Sx7_.2.2.1 106 0 ((Sx7_.1 11 0 11) - 1).toNat)), some (.inl 0), some (.inl 0), none, none, none], [], Sx7_)) rfl ?_
  refine sm_T_wk [some (.inr (.inr (some (11, 0)))), some (.inr (.inr (some (2, cc_)))), some (.inl a2_), none, some (.inl (162 * (Sx7_.2.2.1 106 0 (0 : Int).toNat))), some (.inl (Sx7_.2.2.1 106 0 ((Sx7_.1 11 0 11) - 1).toNat)), some (.inl 0), some (.inl 0), none, none, none] (by exact ⟨rfl, rfl, rfl, rfl, rfl, rfl, rfl, trivial⟩) ?_
  refine (vl_201 a2_ cc_ S0_ hs_ hp_ h2_ hl_ _).1 (162 * (Sx7_.2.2.1 106 0 (0 : Int).toNat)) (Sx7_.2.2.1 106 0 ((Sx7_.1 11 0 11) - 1).toNat) 0 0 Sx7_ hIx8_ hFx11_ ⟨?_, ?_, ?_, ?_, trivial⟩ (Nat.lt_succ_self _)
  · omega
  · exact r40_
  · exact T40_
  · (rw [s40_]; exact ⟨t1_, t2_⟩)
