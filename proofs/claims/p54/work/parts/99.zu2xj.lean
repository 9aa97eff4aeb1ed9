/-! the reference: words that show a fault; written by wip/p55/gen/vg -/

/-- an_ end of_ the_ first K_ tells otherwise than the_ right word -/
def oxr (R_ N_ : Nat → Int) (e_ : Nat → Int) (i_ K_ : Nat) : Prop := ∃ k_, k_ < K_ ∧ lbt (R_ k_) i_ ≠ nev (fun n_ => lbt (N_ n_) i_) (e_ k_)
theorem oxr_s {R_ N_ e_ : Nat → Int} {i_ K_ : Nat} {x_ y_ : Int} {P_ : Prop} (h_ : lbt x_ i_ = true ↔ P_ ∨ oxr R_ N_ e_ i_ K_) (hy_ : lbt y_ i_ = nev (fun n_ => lbt (N_ n_) i_) (e_ K_)) : lbt (l_4 x_ (l_5 (R_ K_) y_)) i_ = true ↔ P_ ∨ oxr R_ N_ e_ i_ (K_ + 1) := by
  rw [lbt_4, lbt_5, hy_, Bool.or_eq_true, h_]
  have q_ : (Bool.xor (lbt (R_ K_) i_) (nev (fun n_ => lbt (N_ n_) i_) (e_ K_)) = true) ↔ lbt (R_ K_) i_ ≠ nev (fun n_ => lbt (N_ n_) i_) (e_ K_) := by
    cases lbt (R_ K_) i_ <;> cases nev (fun n_ => lbt (N_ n_) i_) (e_ K_) <;> decide
  rw [q_]
  constructor
  · rintro ((a_ | ⟨k_, hk_, a_⟩) | a_)
    · exact Or.inl a_
    · exact Or.inr ⟨k_, by omega, a_⟩
    · exact Or.inr ⟨K_, by omega, a_⟩
  · rintro (a_ | ⟨k_, hk_, a_⟩)
    · exact Or.inl (Or.inl a_)
    · by_cases c_ : k_ = K_
      · rw [c_] at a_
        exact Or.inr a_
      · exact Or.inl (Or.inr ⟨k_, by omega, a_⟩)
theorem oxr_0 {R_ N_ e_ : Nat → Int} {i_ : Nat} {x_ : Int} {P_ : Prop} (h_ : lbt x_ i_ = true ↔ P_) : lbt x_ i_ = true ↔ P_ ∨ oxr R_ N_ e_ i_ 0 := by
  rw [h_]
  exact ⟨Or.inl, fun z_ => z_.elim id (fun ⟨k_, hk_, _⟩ => absurd hk_ (Nat.not_lt_zero _))⟩
theorem rsh_of {c_ f_ st_ pn_ : Int} {S0_ : sm_S} {N_ : Nat → Int} {w_ i_ : Nat} {b_ : Bool} (hr_ : rgh9 c_ w_ S0_ S0_) (hi_ : i_ < 64) (hd_ : fdq (rnc c_ S0_) (gis c_ S0_) (S0_.2.2.1 228 0 c_.toNat).toNat f_ st_ pn_) (hu_ : rcf9 c_ S0_ st_ pn_ f_ (64 * w_ + i_) (fun n_ => lbt (N_ n_) i_)) (hb_ : b_ = true ↔ (False ∨ oxr (S0_.2.2.2 293 0) N_ (rno c_ S0_) i_ (S0_.2.2.1 225 0 c_.toNat).toNat) ∨ oxr (fun k_ => S0_.2.2.2 293 0 (16 + k_)) N_ (rnx c_ S0_) i_ (S0_.2.2.1 224 0 c_.toNat).toNat) : rshq c_ S0_ f_ (64 * w_ + i_) b_ := by
  obtain ⟨R_, h1_, h2_, h3_⟩ := hr_
  refine ⟨st_, pn_, _, _, hd_, h1_ i_ hi_, hu_, hb_.trans ?_⟩
  unfold shd oxr
  constructor
  · rintro ((h_ | ⟨k_, hk_, q_⟩) | ⟨k_, hk_, q_⟩)
    · exact h_.elim
    · exact Or.inl ⟨k_, hk_, by rw [← h2_ k_ (by omega) i_ hi_]; exact q_⟩
    · exact Or.inr ⟨k_, hk_, by rw [← h3_ k_ (by omega) i_ hi_]; exact q_⟩
  · rintro (⟨k_, hk_, q_⟩ | ⟨k_, hk_, q_⟩)
    · exact Or.inl (Or.inr ⟨k_, hk_, by rw [h2_ k_ (by omega) i_ hi_]; exact q_⟩)
    · exact Or.inr ⟨k_, hk_, by
        show lbt (S0_.2.2.2 293 0 (16 + k_)) i_ ≠ _
        rw [h3_ k_ (by omega) i_ hi_]
        exact q_⟩
theorem rsh_fr {w_ : sx_Wl} {c_ : Int} {S_ S'_ : sm_S} (g_ : ai_fr (sx_W w_) S_ S'_) (r_ : rwf w_ = true := by rfl) {f_ : Int} {p_ : Nat} {b_ : Bool} : rshq c_ S'_ f_ p_ b_ ↔ rshq c_ S_ f_ p_ b_ := by
  have k_ := krX_fr (c_ := c_) g_ (rwf_0 r_ rfl) (rwf_0 r_ rfl) (rwf_0 r_ rfl) (rwf_0 r_ rfl)
  have e1_ : rno c_ S'_ = rno c_ S_ := by
    funext j_
    unfold rno
    rw [fr_arr (t := 231) (i := 0) g_ (rwf_0 r_ rfl)]
  have e2_ : rnx c_ S'_ = rnx c_ S_ := by
    funext j_
    unfold rnx
    rw [fr_arr (t := 232) (i := 0) g_ (rwf_0 r_ rfl)]
  unfold rshq rcvq rcf9 rnc
  rw [gis_fr g_ r_, k_.1, k_.2.1, k_.2.2, e1_, e2_, fr_arr (t := 223) (i := 0) g_ (rwf_0 r_ rfl), fr_arr (t := 224) (i := 0) g_ (rwf_0 r_ rfl), fr_arr (t := 225) (i := 0) g_ (rwf_0 r_ rfl), fr_arr (t := 228) (i := 0) g_ (rwf_0 r_ rfl)]
theorem rgh_fr {w_ : sx_Wl} {c_ : Int} {j_ : Nat} {S_ S'_ T_ : sm_S} (h_ : rgh9 c_ j_ S_ T_) (g_ : ai_fr (sx_W w_) S_ S'_) (r_ : rwf w_ = true := by rfl) : rgh9 c_ j_ S'_ T_ := by
  have k_ := krX_fr (c_ := c_) g_ (rwf_0 r_ rfl) (rwf_0 r_ rfl) (rwf_0 r_ rfl) (rwf_0 r_ rfl)
  have e1_ : rno c_ S'_ = rno c_ S_ := by
    funext j_
    unfold rno
    rw [fr_arr (t := 231) (i := 0) g_ (rwf_0 r_ rfl)]
  have e2_ : rnx c_ S'_ = rnx c_ S_ := by
    funext j_
    unfold rnx
    rw [fr_arr (t := 232) (i := 0) g_ (rwf_0 r_ rfl)]
  unfold rgh9 rcvq at *
  rw [k_.1, k_.2.1, k_.2.2, e1_, e2_, fr_arr (t := 223) (i := 0) g_ (rwf_0 r_ rfl), fr_arr (t := 224) (i := 0) g_ (rwf_0 r_ rfl), fr_arr (t := 225) (i := 0) g_ (rwf_0 r_ rfl), fr_arr (t := 228) (i := 0) g_ (rwf_0 r_ rfl)]
  exact h_
/-! M_.shownWord -/
def vw_518n : sx_Wl := ([(13, 221), (13, 222)], [238], [])
def vq_518n (c_ : Int) (w_ : Int) (f_ : Int) (S0_ : sm_S) (u_ : Option sm_V) (S1_ : sm_S) : Prop := ∃ v_ : Int, u_ = some (.inr (.inl v_)) ∧ gi S1_ ∧ ai_fr (sx_W vw_518n) S0_ S1_ ∧ ((∀ i9_ : Nat, i9_ < 64 → ((i9_ : Int) < 2 ^ (S0_.2.2.1 223 0 c_.toNat + S0_.2.2.1 224 0 c_.toNat).toNat ∨ 6 ≤ S0_.2.2.1 223 0 c_.toNat + S0_.2.2.1 224 0 c_.toNat) → rshq c_ S0_ f_ (64 * w_.toNat + i9_) (lbt v_ i9_)) ∧ (∀ i9_ : Nat, i9_ < 64 → ¬ ((i9_ : Int) < 2 ^ (S0_.2.2.1 223 0 c_.toNat + S0_.2.2.1 224 0 c_.toNat).toNat ∨ 6 ≤ S0_.2.2.1 223 0 c_.toNat + S0_.2.2.1 224 0 c_.toNat) → lbt v_ i9_ = false) ∧ lcn v_)
set_option maxHeartbeats 1000000 in
set_option maxRecDepth 20000 in
theorem vl_518n {sc_ : Nat × (Nat → Int)} (c_ : Int) (w_ : Int) (f_ : Int) (S0_ : sm_S) (hc_ : 0 ≤ c_ ∧ c_ ≤ 3) (hx_ : S0_.2.2.1 223 0 c_.toNat + S0_.2.2.1 224 0 c_.toNat ≤ 12) (hg_ : cgt c_ S0_) (ho_ : con c_ S0_) (hw_ : 0 ≤ w_ ∧ w_ ≤ 63) (hf_ : 0 ≤ f_ ∧ f_ < fco c_ S0_) (hr_ : rgh9 c_ w_.toNat S0_ S0_) : ∀ nn_ : Nat, (∀ (lt_ : Int) (k_ : Int) (S_ : sm_S), gi S_ → ai_fr (sx_W vw_518n) S0_ S_ → ((0 ≤ k_ ∧ k_ ≤ 16 ∧ k_ ≤ S0_.2.2.1 225 0 c_.toNat) ∧ (lcn lt_) ∧ (fdq (rnc c_ S0_) (gis c_ S0_) (S0_.2.2.1 228 0 c_.toNat).toNat f_ (S_.1 13 0 221) (S_.1 13 0 222)) ∧ (∀ i9_ : Nat, i9_ < 64 → rcf9 c_ S0_ (S_.1 13 0 221) (S_.1 13 0 222) f_ (64 * w_.toNat + i9_) (fun n_ => lbt (S_.2.2.2 238 0 n_) i9_)) ∧ (∀ i9_ : Nat, i9_ < 64 → (lbt lt_ i9_ = true ↔ False ∨ oxr (S_.2.2.2 293 0) (S_.2.2.2 238 0) (rno c_ S0_) i9_ k_.toNat)) ∧ True) → ((900 - k_).toNat) < nn_ → sm_T (mt_P sc_) 2 518 (40, [some (.inr (.inr (some (13, 0)))), some (.inl c_), some (.inl w_), some (.inl f_), some (.inr (.inl lt_)), none, some (.inl k_)], [], S_) (fun ro9_ => ∃ u_ S1_, ro9_ = (.inl u_, S1_, 0) ∧ vq_518n c_ w_ f_ S0_ u_ S1_)) ∧ (∀ (lt_ : Int) (k_ : Int) (S_ : sm_S), gi S_ → ai_fr (sx_W vw_518n) S0_ S_ → ((0 ≤ k_ ∧ k_ ≤ 6 ∧ k_ ≤ S0_.2.2.1 224 0 c_.toNat) ∧ (lcn lt_) ∧ (fdq (rnc c_ S0_) (gis c_ S0_) (S0_.2.2.1 228 0 c_.toNat).toNat f_ (S_.1 13 0 221) (S_.1 13 0 222)) ∧ (∀ i9_ : Nat, i9_ < 64 → rcf9 c_ S0_ (S_.1 13 0 221) (S_.1 13 0 222) f_ (64 * w_.toNat + i9_) (fun n_ => lbt (S_.2.2.2 238 0 n_) i9_)) ∧ (∀ i9_ : Nat, i9_ < 64 → (lbt lt_ i9_ = true ↔ (False ∨ oxr (S_.2.2.2 293 0) (S_.2.2.2 238 0) (rno c_ S0_) i9_ (S0_.2.2.1 225 0 c_.toNat).toNat) ∨ oxr (fun k7_ => S_.2.2.2 293 0 (16 + k7_)) (S_.2.2.2 238 0) (rnx c_ S0_) i9_ k_.toNat)) ∧ True) → ((500 - k_).toNat) < nn_ → sm_T (mt_P sc_) 2 518 (92, [some (.inr (.inr (some (13, 0)))), some (.inl c_), some (.inl w_), some (.inl f_), some (.inr (.inl lt_)), none, some (.inl k_)], [], S_) (fun ro9_ => ∃ u_ S1_, ro9_ = (.inl u_, S1_, 0) ∧ vq_518n c_ w_ f_ S0_ u_ S1_)) := by
  intro nn_
  induction nn_ with
  | zero => exact ⟨fun _ _ _ _ _ _ h_ => absurd h_ (Nat.not_lt_zero _), fun _ _ _ _ _ _ h_ => absurd h_ (Nat.not_lt_zero _)⟩
  | succ nn_ ih_ =>
    refine ⟨?_, ?_⟩
    · rintro lt_ k_ S_ hI_ hF_ ⟨h0_, hl_, hd_, hu_, ht_, -⟩ hm_
      have f223_ : S_.2.2.1 223 0 = S0_.2.2.1 223 0 := fr_arr hF_ rfl
      have f224_ : S_.2.2.1 224 0 = S0_.2.2.1 224 0 := fr_arr hF_ rfl
      have f225_ : S_.2.2.1 225 0 = S0_.2.2.1 225 0 := fr_arr hF_ rfl
      have f228_ : S_.2.2.1 228 0 = S0_.2.2.1 228 0 := fr_arr hF_ rfl
      have x223_ : S_.2.2.1 223 0 c_.toNat = S0_.2.2.1 223 0 c_.toNat := congrFun f223_ _
      have x224_ : S_.2.2.1 224 0 c_.toNat = S0_.2.2.1 224 0 c_.toNat := congrFun f224_ _
      have x225_ : S_.2.2.1 225 0 c_.toNat = S0_.2.2.1 225 0 c_.toNat := congrFun f225_ _
      have x228_ : S_.2.2.1 228 0 c_.toNat = S0_.2.2.1 228 0 c_.toNat := congrFun f228_ _
      have cA_ : 0 ≤ S_.2.2.1 223 0 c_.toNat ∧ S_.2.2.1 223 0 c_.toNat ≤ 12 := hI_.2 223 0 _
      have cB_ : 0 ≤ S_.2.2.1 224 0 c_.toNat ∧ S_.2.2.1 224 0 c_.toNat ≤ 6 := hI_.2 224 0 _
      have cG_ : 0 ≤ S_.2.2.1 228 0 c_.toNat ∧ S_.2.2.1 228 0 c_.toNat ≤ 150 := hI_.2 228 0 _
      have ho9_ := con_fr hc_.1 hI_ ho_ hF_
      have f231_ : S_.2.2.1 231 0 = S0_.2.2.1 231 0 := fr_arr hF_ rfl
      have f232_ : S_.2.2.1 232 0 = S0_.2.2.1 232 0 := fr_arr hF_ rfl
      have c25_ : 0 ≤ S_.2.2.1 225 0 c_.toNat ∧ S_.2.2.1 225 0 c_.toNat ≤ 16 := hI_.2 225 0 _
      have g293_ : S_.2.2.2 293 0 = S0_.2.2.2 293 0 := fr_lon (t_ := 293) (i_ := 0) hF_ rfl
      refine sm_T_go 4 (c1 := (47, [some (.inr (.inr (some (13, 0)))), some (.inl c_), some (.inl w_), some (.inl f_), some (.inr (.inl lt_)), none, some (.inl k_)], [.inl c_, .inr (.inr (some (225, 0))), .inl k_], S_)) rfl ?_
      refine sm_T_iald (n := 4) rfl rfl (by omega) (by omega) ?_
      have bx1_ : 0 ≤ S_.2.2.1 225 0 c_.toNat ∧ S_.2.2.1 225 0 c_.toNat ≤ 16 := hI_.2 225 0 _
      refine sm_T_br (a := 3) (z := 41) rfl (fun cx2_ => ?_) (fun cx2_ => ?_)
      · have cx2_ : (S_.2.2.1 225 0 c_.toNat) ≤ k_ := of_decide_eq_true cx2_
        refine sm_T_go 2 (c1 := (92, [some (.inr (.inr (some (13, 0)))), some (.inl c_), some (.inl w_), some (.inl f_), some (.inr (.inl lt_)), none, some (.inl 0)], [], S_)) rfl ?_
        refine ih_.2 lt_ 0 S_ hI_ hF_ ⟨?_, ?_, ?_, ?_, ?_, trivial⟩ ?_
        · omega
        · first | exact hl_ | exact lcn_i _
        · exact hd_
        · exact hu_
        · (intro i9_ hi9_; have z9_ := ht_ i9_ hi9_; rw [show k_.toNat = (S0_.2.2.1 225 0 c_.toNat).toNat by omega] at z9_; exact oxr_0 z9_)
        · omega
      · have cx2_ : ¬ ((S_.2.2.1 225 0 c_.toNat) ≤ k_) := of_decide_eq_false cx2_
        have o9_ := ho9_.1 k_ (by omega) (by omega)
        refine sm_T_go 4 (c1 := (59, [some (.inr (.inr (some (13, 0)))), some (.inl c_), some (.inl w_), some (.inl f_), some (.inr (.inl lt_)), none, some (.inl k_)], [.inl k_, .inr (.inr (some (293, 0))), .inr (.inl lt_)], S_)) rfl ?_
        refine sm_T_lald (n := 32) rfl rfl (by omega) (by omega) ?_
        refine sm_T_go 6 (c1 := (71, [some (.inr (.inr (some (13, 0)))), some (.inl c_), some (.inl w_), some (.inl f_), some (.inr (.inl lt_)), none, some (.inl k_)], [.inl c_, .inl 16, .inr (.inr (some (231, 0))), .inr (.inr (some (238, 0))), .inr (.inl (S_.2.2.2 293 0 k_.toNat)), .inr (.inl lt_)], S_)) rfl ?_
        refine sm_T_bin (w := 16 * c_) rfl (bi_mul (by omega) (by omega) (by omega)) ?_ -- pc_ 71
        refine sm_T_go 1 (c1 := (74, [some (.inr (.inr (some (13, 0)))), some (.inl c_), some (.inl w_), some (.inl f_), some (.inr (.inl lt_)), none, some (.inl k_)], [.inl k_, .inl (16 * c_), .inr (.inr (some (231, 0))), .inr (.inr (some (238, 0))), .inr (.inl (S_.2.2.2 293 0 k_.toNat)), .inr (.inl lt_)], S_)) rfl ?_
        refine sm_T_bin (w := 16 * c_ + k_) rfl (bi_add (by omega) (by omega) (by omega)) ?_ -- pc_ 74
        refine sm_T_iald (n := 64) rfl rfl (by omega) (by omega) ?_
        have bx3_ : (-2) ≤ S_.2.2.1 231 0 (16 * c_ + k_).toNat ∧ S_.2.2.1 231 0 (16 * c_ + k_).toNat ≤ 9000 := hI_.2 231 0 _
        refine sm_T_cal (d1 := 0) (Q1 := vq_516n (S_.2.2.1 231 0 (16 * c_ + k_).toNat) S_) rfl rfl (by decide) (vc_516n (S_.2.2.1 231 0 (16 * c_ + k_).toNat) S_ hI_ (by omega)) (fun u_ Sx4_ px7_ => ?_)
        obtain ⟨rfl, vx9_, rfl, px7_⟩ := px7_
        have e76_ : ∀ i9_ : Nat, i9_ < 64 → lbt vx9_ i9_ = nev (fun n_ => lbt (S_.2.2.2 238 0 n_) i9_) (rno c_ S0_ k_.toNat) := fun i9_ hi9_ => by (have z9_ := px7_ i9_ hi9_; rw [z9_]; unfold rno; rw [f231_, show ((k_.toNat : Nat) : Int) = k_ by omega])
        refine sm_T_go 3 (c1 := (83, [some (.inr (.inr (some (13, 0)))), some (.inl c_), some (.inl w_), some (.inl f_), some (.inr (.inl (l_4 lt_ ((l_5 ((S_.2.2.2 293 0 k_.toNat)) vx9_))))), none, some (.inl k_)], [], S_)) rfl ?_
        refine sm_T_inc (a := 6) (z := 1) (v := k_) (w := k_ + 1) rfl rfl (by omega) (by omega) (by omega) ?_ -- pc_ 83
        refine sm_T_go 1 (c1 := (40, [some (.inr (.inr (some (13, 0)))), some (.inl c_), some (.inl w_), some (.inl f_), some (.inr (.inl (l_4 lt_ ((l_5 ((S_.2.2.2 293 0 k_.toNat)) vx9_))))), none, some (.inl (k_ + 1))], [], S_)) rfl ?_
        refine ih_.1 ((l_4 lt_ ((l_5 ((S_.2.2.2 293 0 k_.toNat)) vx9_)))) (k_ + 1) S_ hI_ hF_ ⟨?_, ?_, ?_, ?_, ?_, trivial⟩ ?_
        · omega
        · first | exact hl_ | exact lcn_i _
        · exact hd_
        · exact hu_
        · (intro i9_ hi9_; rw [show (k_ + 1).toNat = k_.toNat + 1 by omega]; exact oxr_s (ht_ i9_ hi9_) (e76_ i9_ hi9_))
        · omega
    · rintro lt_ k_ S_ hI_ hF_ ⟨h0_, hl_, hd_, hu_, ht_, -⟩ hm_
      have f223_ : S_.2.2.1 223 0 = S0_.2.2.1 223 0 := fr_arr hF_ rfl
      have f224_ : S_.2.2.1 224 0 = S0_.2.2.1 224 0 := fr_arr hF_ rfl
      have f225_ : S_.2.2.1 225 0 = S0_.2.2.1 225 0 := fr_arr hF_ rfl
      have f228_ : S_.2.2.1 228 0 = S0_.2.2.1 228 0 := fr_arr hF_ rfl
      have x223_ : S_.2.2.1 223 0 c_.toNat = S0_.2.2.1 223 0 c_.toNat := congrFun f223_ _
      have x224_ : S_.2.2.1 224 0 c_.toNat = S0_.2.2.1 224 0 c_.toNat := congrFun f224_ _
      have x225_ : S_.2.2.1 225 0 c_.toNat = S0_.2.2.1 225 0 c_.toNat := congrFun f225_ _
      have x228_ : S_.2.2.1 228 0 c_.toNat = S0_.2.2.1 228 0 c_.toNat := congrFun f228_ _
      have cA_ : 0 ≤ S_.2.2.1 223 0 c_.toNat ∧ S_.2.2.1 223 0 c_.toNat ≤ 12 := hI_.2 223 0 _
      have cB_ : 0 ≤ S_.2.2.1 224 0 c_.toNat ∧ S_.2.2.1 224 0 c_.toNat ≤ 6 := hI_.2 224 0 _
      have cG_ : 0 ≤ S_.2.2.1 228 0 c_.toNat ∧ S_.2.2.1 228 0 c_.toNat ≤ 150 := hI_.2 228 0 _
      have ho9_ := con_fr hc_.1 hI_ ho_ hF_
      have f231_ : S_.2.2.1 231 0 = S0_.2.2.1 231 0 := fr_arr hF_ rfl
      have f232_ : S_.2.2.1 232 0 = S0_.2.2.1 232 0 := fr_arr hF_ rfl
      have c25_ : 0 ≤ S_.2.2.1 225 0 c_.toNat ∧ S_.2.2.1 225 0 c_.toNat ≤ 16 := hI_.2 225 0 _
      have g293_ : S_.2.2.2 293 0 = S0_.2.2.2 293 0 := fr_lon (t_ := 293) (i_ := 0) hF_ rfl
      refine sm_T_go 4 (c1 := (99, [some (.inr (.inr (some (13, 0)))), some (.inl c_), some (.inl w_), some (.inl f_), some (.inr (.inl lt_)), none, some (.inl k_)], [.inl c_, .inr (.inr (some (224, 0))), .inl k_], S_)) rfl ?_
      refine sm_T_iald (n := 4) rfl rfl (by omega) (by omega) ?_
      have bx1_ : 0 ≤ S_.2.2.1 224 0 c_.toNat ∧ S_.2.2.1 224 0 c_.toNat ≤ 6 := hI_.2 224 0 _
      refine sm_T_br (a := 3) (z := 44) rfl (fun cx2_ => ?_) (fun cx2_ => ?_)
      · have cx2_ : (S_.2.2.1 224 0 c_.toNat) ≤ k_ := of_decide_eq_true cx2_
        refine sm_T_go 3 (c1 := (149, [some (.inr (.inr (some (13, 0)))), some (.inl c_), some (.inl w_), some (.inl f_), some (.inr (.inl lt_)), none, some (.inl k_)], [.inl c_, .inr (.inr (some (223, 0)))], S_)) rfl ?_
        refine sm_T_iald (n := 4) rfl rfl (by omega) (by omega) ?_
        have bx3_ : 0 ≤ S_.2.2.1 223 0 c_.toNat ∧ S_.2.2.1 223 0 c_.toNat ≤ 12 := hI_.2 223 0 _
        refine sm_T_go 3 (c1 := (155, [some (.inr (.inr (some (13, 0)))), some (.inl c_), some (.inl w_), some (.inl f_), some (.inr (.inl lt_)), none, some (.inl k_)], [.inl c_, .inr (.inr (some (224, 0))), .inl (S_.2.2.1 223 0 c_.toNat)], S_)) rfl ?_
        refine sm_T_iald (n := 4) rfl rfl (by omega) (by omega) ?_
        refine sm_T_bin (w := (S_.2.2.1 223 0 c_.toNat) + (S_.2.2.1 224 0 c_.toNat)) rfl (bi_add (by omega) (by omega) (by omega)) ?_ -- pc_ 156
        refine sm_T_go 3 (c1 := (163, [some (.inr (.inr (some (13, 0)))), some (.inl c_), some (.inl w_), some (.inl f_), some (.inr (.inl lt_)), none, some (.inl ((S_.2.2.1 223 0 c_.toNat) + (S_.2.2.1 224 0 c_.toNat)))], [.inl 6, .inl ((S_.2.2.1 223 0 c_.toNat) + (S_.2.2.1 224 0 c_.toNat))], S_)) rfl ?_
        refine sm_T_br (a := 3) (z := 17) rfl (fun cx4_ => ?_) (fun cx4_ => ?_)
        · have cx4_ : 6 ≤ (S_.2.2.1 223 0 c_.toNat) + (S_.2.2.1 224 0 c_.toNat) := of_decide_eq_true cx4_
          refine sm_T_go 1 (c1 := (182, [some (.inr (.inr (some (13, 0)))), some (.inl c_), some (.inl w_), some (.inl f_), some (.inr (.inl lt_)), none, some (.inl ((S_.2.2.1 223 0 c_.toNat) + (S_.2.2.1 224 0 c_.toNat)))], [.inr (.inl lt_)], S_)) rfl ?_
          refine sm_T_rl rfl ⟨_, _, rfl, _, rfl, hI_, hF_, ?_⟩
          have n9_ : k_.toNat = (S0_.2.2.1 224 0 c_.toNat).toNat := by omega
          have hb9_ : ∀ i9_ : Nat, i9_ < 64 → rshq c_ S0_ f_ (64 * w_.toNat + i9_) (lbt lt_ i9_) := fun i9_ hi9_ => by (have z9_ := ht_ i9_ hi9_; rw [n9_, g293_] at z9_; exact rsh_of hr_ hi9_ hd_ (hu_ i9_ hi9_) z9_)
          first | (have c9_ : 6 ≤ S0_.2.2.1 223 0 c_.toNat + S0_.2.2.1 224 0 c_.toNat := (by omega); exact ⟨fun i9_ hi9_ _ => hb9_ i9_ hi9_, fun i9_ hi9_ z9_ => absurd (Or.inr c9_) z9_, hl_⟩) | (obtain ⟨b9_, e9_⟩ : ∃ b9_ : Nat, S0_.2.2.1 223 0 c_.toNat + S0_.2.2.1 224 0 c_.toNat = (b9_ : Int) := ⟨(S0_.2.2.1 223 0 c_.toNat + S0_.2.2.1 224 0 c_.toNat).toNat, by omega⟩; have m9_ : ∀ i9_ : Nat, i9_ < 64 → lbt (l_1 (l_s0 1 (i_shl 1 (S_.2.2.1 223 0 c_.toNat + S_.2.2.1 224 0 c_.toNat))) 1) i9_ = decide (i9_ < 2 ^ b9_) := fun i9_ hi9_ => (by (rw [x223_, x224_, e9_]; exact lbt_k (by omega) hi9_)); have p9_ := pw_nn (k_ := b9_); refine ⟨fun i9_ hi9_ q9_ => ?_, fun i9_ hi9_ q9_ => ?_, lcn_i _⟩; (rw [e9_, Int.toNat_natCast] at q9_; rw [lbt_3, m9_ i9_ hi9_, decide_eq_true (by omega), Bool.and_true]; exact hb9_ i9_ hi9_); (rw [e9_, Int.toNat_natCast] at q9_; rw [lbt_3, m9_ i9_ hi9_, decide_eq_false (by omega), Bool.and_false]))
        · have cx4_ : ¬ (6 ≤ (S_.2.2.1 223 0 c_.toNat) + (S_.2.2.1 224 0 c_.toNat)) := of_decide_eq_false cx4_
          refine sm_T_go 4 (c1 := (172, [some (.inr (.inr (some (13, 0)))), some (.inl c_), some (.inl w_), some (.inl f_), some (.inr (.inl lt_)), none, some (.inl ((S_.2.2.1 223 0 c_.toNat) + (S_.2.2.1 224 0 c_.toNat)))], [.inl ((S_.2.2.1 223 0 c_.toNat) + (S_.2.2.1 224 0 c_.toNat)), .inl 1, .inr (.inl 1), .inr (.inl lt_)], S_)) rfl ?_
          refine sm_T_bin (w := (i_shl 1 ((S_.2.2.1 223 0 c_.toNat) + (S_.2.2.1 224 0 c_.toNat)))) rfl rfl ?_ -- pc_ 172
          refine sm_T_go 5 (c1 := (182, [some (.inr (.inr (some (13, 0)))), some (.inl c_), some (.inl w_), some (.inl f_), some (.inr (.inl lt_)), none, some (.inl ((S_.2.2.1 223 0 c_.toNat) + (S_.2.2.1 224 0 c_.toNat)))], [.inr (.inl (l_3 lt_ ((l_1 ((l_s0 1 (i_shl 1 ((S_.2.2.1 223 0 c_.toNat) + (S_.2.2.1 224 0 c_.toNat))))) 1))))], S_)) rfl ?_
          refine sm_T_rl rfl ⟨_, _, rfl, _, rfl, hI_, hF_, ?_⟩
          have n9_ : k_.toNat = (S0_.2.2.1 224 0 c_.toNat).toNat := by omega
          have hb9_ : ∀ i9_ : Nat, i9_ < 64 → rshq c_ S0_ f_ (64 * w_.toNat + i9_) (lbt lt_ i9_) := fun i9_ hi9_ => by (have z9_ := ht_ i9_ hi9_; rw [n9_, g293_] at z9_; exact rsh_of hr_ hi9_ hd_ (hu_ i9_ hi9_) z9_)
          first | (have c9_ : 6 ≤ S0_.2.2.1 223 0 c_.toNat + S0_.2.2.1 224 0 c_.toNat := (by omega); exact ⟨fun i9_ hi9_ _ => hb9_ i9_ hi9_, fun i9_ hi9_ z9_ => absurd (Or.inr c9_) z9_, hl_⟩) | (obtain ⟨b9_, e9_⟩ : ∃ b9_ : Nat, S0_.2.2.1 223 0 c_.toNat + S0_.2.2.1 224 0 c_.toNat = (b9_ : Int) := ⟨(S0_.2.2.1 223 0 c_.toNat + S0_.2.2.1 224 0 c_.toNat).toNat, by omega⟩; have m9_ : ∀ i9_ : Nat, i9_ < 64 → lbt (l_1 (l_s0 1 (i_shl 1 (S_.2.2.1 223 0 c_.toNat + S_.2.2.1 224 0 c_.toNat))) 1) i9_ = decide (i9_ < 2 ^ b9_) := fun i9_ hi9_ => (by (rw [x223_, x224_, e9_]; exact lbt_k (by omega) hi9_)); have p9_ := pw_nn (k_ := b9_); refine ⟨fun i9_ hi9_ q9_ => ?_, fun i9_ hi9_ q9_ => ?_, lcn_i _⟩; (rw [e9_, Int.toNat_natCast] at q9_; rw [lbt_3, m9_ i9_ hi9_, decide_eq_true (by omega), Bool.and_true]; exact hb9_ i9_ hi9_); (rw [e9_, Int.toNat_natCast] at q9_; rw [lbt_3, m9_ i9_ hi9_, decide_eq_false (by omega), Bool.and_false]))
      · have cx2_ : ¬ ((S_.2.2.1 224 0 c_.toNat) ≤ k_) := of_decide_eq_false cx2_
        have o9_ := ho9_.2 k_ (by omega) (by omega)
        refine sm_T_go 5 (c1 := (113, [some (.inr (.inr (some (13, 0)))), some (.inl c_), some (.inl w_), some (.inl f_), some (.inr (.inl lt_)), none, some (.inl k_)], [.inl k_, .inl 16, .inr (.inr (some (293, 0))), .inr (.inl lt_)], S_)) rfl ?_
        refine sm_T_bin (w := k_ + 16) rfl (bi_add (by omega) (by omega) (by omega)) ?_ -- pc_ 113
        refine sm_T_lald (n := 32) rfl rfl (by omega) (by omega) ?_
        refine sm_T_go 6 (c1 := (126, [some (.inr (.inr (some (13, 0)))), some (.inl c_), some (.inl w_), some (.inl f_), some (.inr (.inl lt_)), none, some (.inl k_)], [.inl c_, .inl 6, .inr (.inr (some (232, 0))), .inr (.inr (some (238, 0))), .inr (.inl (S_.2.2.2 293 0 (k_ + 16).toNat)), .inr (.inl lt_)], S_)) rfl ?_
        refine sm_T_bin (w := 6 * c_) rfl (bi_mul (by omega) (by omega) (by omega)) ?_ -- pc_ 126
        refine sm_T_go 1 (c1 := (129, [some (.inr (.inr (some (13, 0)))), some (.inl c_), some (.inl w_), some (.inl f_), some (.inr (.inl lt_)), none, some (.inl k_)], [.inl k_, .inl (6 * c_), .inr (.inr (some (232, 0))), .inr (.inr (some (238, 0))), .inr (.inl (S_.2.2.2 293 0 (k_ + 16).toNat)), .inr (.inl lt_)], S_)) rfl ?_
        refine sm_T_bin (w := 6 * c_ + k_) rfl (bi_add (by omega) (by omega) (by omega)) ?_ -- pc_ 129
        refine sm_T_iald (n := 24) rfl rfl (by omega) (by omega) ?_
        have bx5_ : (-2) ≤ S_.2.2.1 232 0 (6 * c_ + k_).toNat ∧ S_.2.2.1 232 0 (6 * c_ + k_).toNat ≤ 9000 := hI_.2 232 0 _
        refine sm_T_cal (d1 := 0) (Q1 := vq_516n (S_.2.2.1 232 0 (6 * c_ + k_).toNat) S_) rfl rfl (by decide) (vc_516n (S_.2.2.1 232 0 (6 * c_ + k_).toNat) S_ hI_ (by omega)) (fun u_ Sx6_ px9_ => ?_)
        obtain ⟨rfl, vx11_, rfl, px9_⟩ := px9_
        have e131_ : ∀ i9_ : Nat, i9_ < 64 → lbt vx11_ i9_ = nev (fun n_ => lbt (S_.2.2.2 238 0 n_) i9_) (rnx c_ S0_ k_.toNat) := fun i9_ hi9_ => by (have z9_ := px9_ i9_ hi9_; rw [z9_]; unfold rnx; rw [f232_, show ((k_.toNat : Nat) : Int) = k_ by omega])
        refine sm_T_go 3 (c1 := (138, [some (.inr (.inr (some (13, 0)))), some (.inl c_), some (.inl w_), some (.inl f_), some (.inr (.inl (l_4 lt_ ((l_5 ((S_.2.2.2 293 0 (k_ + 16).toNat)) vx11_))))), none, some (.inl k_)], [], S_)) rfl ?_
        refine sm_T_inc (a := 6) (z := 1) (v := k_) (w := k_ + 1) rfl rfl (by omega) (by omega) (by omega) ?_ -- pc_ 138
        refine sm_T_go 1 (c1 := (92, [some (.inr (.inr (some (13, 0)))), some (.inl c_), some (.inl w_), some (.inl f_), some (.inr (.inl (l_4 lt_ ((l_5 ((S_.2.2.2 293 0 (k_ + 16).toNat)) vx11_))))), none, some (.inl (k_ + 1))], [], S_)) rfl ?_
        refine ih_.2 ((l_4 lt_ ((l_5 ((S_.2.2.2 293 0 (k_ + 16).toNat)) vx11_)))) (k_ + 1) S_ hI_ hF_ ⟨?_, ?_, ?_, ?_, ?_, trivial⟩ ?_
        · omega
        · first | exact hl_ | exact lcn_i _
        · exact hd_
        · exact hu_
        · (intro i9_ hi9_; rw [show (k_ + 1).toNat = k_.toNat + 1 by omega, show (k_ + 16).toNat = 16 + k_.toNat by omega]; exact oxr_s (R_ := fun k7_ => S_.2.2.2 293 0 (16 + k7_)) (ht_ i9_ hi9_) (e131_ i9_ hi9_))
        · omega
set_option maxHeartbeats 1000000 in
set_option maxRecDepth 20000 in
theorem vc_518n {sc_ : Nat × (Nat → Int)} (c_ : Int) (w_ : Int) (f_ : Int) (S0_ : sm_S) (hI_ : gi S0_) (hc_ : 0 ≤ c_ ∧ c_ ≤ 3) (hx_ : S0_.2.2.1 223 0 c_.toNat + S0_.2.2.1 224 0 c_.toNat ≤ 12) (hg_ : cgt c_ S0_) (ho_ : con c_ S0_) (hw_ : 0 ≤ w_ ∧ w_ ≤ 63) (hf_ : 0 ≤ f_ ∧ f_ < fco c_ S0_) (hr_ : rgh9 c_ w_.toNat S0_ S0_) : sm_T (mt_P sc_) 2 518 (0, [some (.inr (.inr (some (13, 0)))), some (.inl c_), some (.inl w_), some (.inl f_), none, none, none], [], S0_) (fun ro9_ => ∃ u_ S1_, ro9_ = (.inl u_, S1_, 0) ∧ vq_518n c_ w_ f_ S0_ u_ S1_) := by
  have hF_ : ai_fr (sx_W vw_518n) S0_ S0_ := ai_fr_rf
  refine sm_T_go 3 (c1 := (3, [some (.inr (.inr (some (13, 0)))), some (.inl c_), some (.inl w_), some (.inl f_), none, none, none], [.inl f_, .inl c_, .inr (.inr (some (13, 0)))], S0_)) rfl ?_
  refine sm_T_cal (d1 := 1) (Q1 := vq_515n c_ f_ S0_) rfl rfl (by decide) (vc_515n c_ f_ S0_ hI_ (by exact hc_) (by exact hx_) (by exact hf_)) (fun u_ Sx1_ px4_ => ?_)
  obtain ⟨rfl, hIx2_, hFx3_, px4_⟩ := px4_
  have hFx5_ : ai_fr (sx_W vw_518n) S0_ Sx1_ := ai_fr_tr hF_ (fr_le hFx3_ rfl)
  have y223_ : Sx1_.2.2.1 223 0 c_.toNat = S0_.2.2.1 223 0 c_.toNat := congrFun (fr_arr hFx3_ rfl) _
  have y224_ : Sx1_.2.2.1 224 0 c_.toNat = S0_.2.2.1 224 0 c_.toNat := congrFun (fr_arr hFx3_ rfl) _
  have y228_ : Sx1_.2.2.1 228 0 c_.toNat = S0_.2.2.1 228 0 c_.toNat := congrFun (fr_arr hFx3_ rfl) _
  have k3_ := krX_fr (c_ := c_) hFx5_
  have e3_ := px4_
  have bx6_ : (-1) ≤ Sx1_.1 13 0 221 ∧ Sx1_.1 13 0 221 ≤ 161 := hIx2_.1 13 0 221 rfl
  have bx7_ : (-1) ≤ Sx1_.1 13 0 222 ∧ Sx1_.1 13 0 222 ≤ 460 := hIx2_.1 13 0 222 rfl
  refine sm_T_go 9 (c1 := (19, [some (.inr (.inr (some (13, 0)))), some (.inl c_), some (.inl w_), some (.inl f_), none, none, none], [.inl 1, .inl f_, .inl (Sx1_.1 13 0 222), .inl (Sx1_.1 13 0 221), .inl w_, .inl c_, .inr (.inr (some (13, 0)))], Sx1_)) rfl ?_
  refine sm_T_bin (w := (f_ % 2)) rfl (bi_msk (k := 1) (by decide)) ?_ -- pc_ 19
  refine sm_T_go 1 (c1 := (21, [some (.inr (.inr (some (13, 0)))), some (.inl c_), some (.inl w_), some (.inl f_), none, none, none], [.inl 1, .inl (f_ % 2), .inl (Sx1_.1 13 0 222), .inl (Sx1_.1 13 0 221), .inl w_, .inl c_, .inr (.inr (some (13, 0)))], Sx1_)) rfl ?_
  refine sm_T_br (a := 1) (z := 9) rfl (fun cx8_ => ?_) (fun cx8_ => ?_)
  · have cx8_ : (f_ % 2) ≠ 1 := of_decide_eq_true cx8_
    refine sm_T_go 1 (c1 := (31, [some (.inr (.inr (some (13, 0)))), some (.inl c_), some (.inl w_), some (.inl f_), none, none, none], [.inr (.inl 0), .inl (Sx1_.1 13 0 222), .inl (Sx1_.1 13 0 221), .inl w_, .inl c_, .inr (.inr (some (13, 0)))], Sx1_)) rfl ?_
    refine sm_T_cal (d1 := 1) (Q1 := vq_430f c_ w_ (Sx1_.1 13 0 221) (Sx1_.1 13 0 222) 0 Sx1_) rfl rfl (by decide) (vc_430f c_ w_ (Sx1_.1 13 0 221) (Sx1_.1 13 0 222) 0 Sx1_ hIx2_ (by exact hc_) (by exact hw_) (by omega) (by exact cgt_fr hc_.1 hIx2_ hg_ hFx5_)) (fun u_ Sx9_ px12_ => ?_)
    obtain ⟨rfl, hIx10_, hFx11_, px12_⟩ := px12_
    have hFx13_ : ai_fr (sx_W vw_518n) S0_ Sx9_ := ai_fr_tr hFx5_ (fr_le hFx11_ rfl)
    have ex14_ : Sx9_.1 13 0 221 = Sx1_.1 13 0 221 := hFx11_.1 13 0 221 rfl
    have ex15_ : Sx9_.1 13 0 222 = Sx1_.1 13 0 222 := hFx11_.1 13 0 222 rfl
    have d31_ : fdq (rnc c_ S0_) (gis c_ S0_) (S0_.2.2.1 228 0 c_.toNat).toNat f_ (Sx9_.1 13 0 221) (Sx9_.1 13 0 222) := by (rw [(hFx11_).1 13 0 221 rfl, (hFx11_).1 13 0 222 rfl]; exact e3_)
    have u31_ : ∀ i9_ : Nat, i9_ < 64 → rcf9 c_ S0_ (Sx9_.1 13 0 221) (Sx9_.1 13 0 222) f_ (64 * w_.toNat + i9_) (fun n_ => lbt (Sx9_.2.2.2 238 0 n_) i9_) := fun i9_ hi9_ => by (have z9_ := px12_ i9_ hi9_; rw [k3_.1, k3_.2.1, k3_.2.2, y223_, y224_, y228_] at z9_; (first | rw [show lbt 0 i9_ = decide (f_ % 2 = 1) from lbt_0.trans (decide_eq_false (by omega)).symm] at z9_ | rw [show lbt (-1) i9_ = decide (f_ % 2 = 1) from (lbt_m hi9_).trans (decide_eq_true (by omega)).symm] at z9_); unfold rcf9; rw [(hFx11_).1 13 0 221 rfl, (hFx11_).1 13 0 222 rfl]; exact z9_)
    refine sm_T_go 4 (c1 := (40, [some (.inr (.inr (some (13, 0)))), some (.inl c_), some (.inl w_), some (.inl f_), some (.inr (.inl 0)), none, some (.inl 0)], [], Sx9_)) rfl ?_
    refine (vl_518n c_ w_ f_ S0_ hc_ hx_ hg_ ho_ hw_ hf_ hr_ _).1 0 0 Sx9_ hIx10_ hFx13_ ⟨?_, ?_, ?_, ?_, ?_, trivial⟩ (Nat.lt_succ_self _)
    · (have c25_ : 0 ≤ S0_.2.2.1 225 0 c_.toNat := (hI_.2 225 0 _).1; omega)
    · exact lcn_i 0
    · exact d31_
    · exact u31_
    · (intro i9_ hi9_; refine oxr_0 (P_ := False) ?_; rw [lbt_0]; exact ⟨fun z9_ => absurd z9_ (by decide), False.elim⟩)
  · have cx8_ : ¬ ((f_ % 2) ≠ 1) := of_decide_eq_false cx8_
    refine sm_T_nt (u := some (.inr (.inl (-1)))) (S1 := Sx1_) rfl rfl rfl ?_
    refine sm_T_go 1 (c1 := (31, [some (.inr (.inr (some (13, 0)))), some (.inl c_), some (.inl w_), some (.inl f_), none, none, none], [.inr (.inl (-1)), .inl (Sx1_.1 13 0 222), .inl (Sx1_.1 13 0 221), .inl w_, .inl c_, .inr (.inr (some (13, 0)))], Sx1_)) rfl ?_
    refine sm_T_cal (d1 := 1) (Q1 := vq_430f c_ w_ (Sx1_.1 13 0 221) (Sx1_.1 13 0 222) (-1) Sx1_) rfl rfl (by decide) (vc_430f c_ w_ (Sx1_.1 13 0 221) (Sx1_.1 13 0 222) (-1) Sx1_ hIx2_ (by exact hc_) (by exact hw_) (by omega) (by exact cgt_fr hc_.1 hIx2_ hg_ hFx5_)) (fun u_ Sx16_ px19_ => ?_)
    obtain ⟨rfl, hIx17_, hFx18_, px19_⟩ := px19_
    have hFx20_ : ai_fr (sx_W vw_518n) S0_ Sx16_ := ai_fr_tr hFx5_ (fr_le hFx18_ rfl)
    have ex21_ : Sx16_.1 13 0 221 = Sx1_.1 13 0 221 := hFx18_.1 13 0 221 rfl
    have ex22_ : Sx16_.1 13 0 222 = Sx1_.1 13 0 222 := hFx18_.1 13 0 222 rfl
    have d31_ : fdq (rnc c_ S0_) (gis c_ S0_) (S0_.2.2.1 228 0 c_.toNat).toNat f_ (Sx16_.1 13 0 221) (Sx16_.1 13 0 222) := by (rw [(hFx18_).1 13 0 221 rfl, (hFx18_).1 13 0 222 rfl]; exact e3_)
    have u31_ : ∀ i9_ : Nat, i9_ < 64 → rcf9 c_ S0_ (Sx16_.1 13 0 221) (Sx16_.1 13 0 222) f_ (64 * w_.toNat + i9_) (fun n_ => lbt (Sx16_.2.2.2 238 0 n_) i9_) := fun i9_ hi9_ => by (have z9_ := px19_ i9_ hi9_; rw [k3_.1, k3_.2.1, k3_.2.2, y223_, y224_, y228_] at z9_; (first | rw [show lbt 0 i9_ = decide (f_ % 2 = 1) from lbt_0.trans (decide_eq_false (by omega)).symm] at z9_ | rw [show lbt (-1) i9_ = decide (f_ % 2 = 1) from (lbt_m hi9_).trans (decide_eq_true (by omega)).symm] at z9_); unfold rcf9; rw [(hFx18_).1 13 0 221 rfl, (hFx18_).1 13 0 222 rfl]; exact z9_)
    refine sm_T_go 4 (c1 := (40, [some (.inr (.inr (some (13, 0)))), some (.inl c_), some (.inl w_), some (.inl f_), some (.inr (.inl 0)), none, some (.inl 0)], [], Sx16_)) rfl ?_
    refine (vl_518n c_ w_ f_ S0_ hc_ hx_ hg_ ho_ hw_ hf_ hr_ _).1 0 0 Sx16_ hIx17_ hFx20_ ⟨?_, ?_, ?_, ?_, ?_, trivial⟩ (Nat.lt_succ_self _)
    · (have c25_ : 0 ≤ S0_.2.2.1 225 0 c_.toNat := (hI_.2 225 0 _).1; omega)
    · exact lcn_i 0
    · exact d31_
    · exact u31_
    · (intro i9_ hi9_; refine oxr_0 (P_ := False) ?_; rw [lbt_0]; exact ⟨fun z9_ => absurd z9_ (by decide), False.elim⟩)
