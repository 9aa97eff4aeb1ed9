/-! the reference: faults, right words; written by wip/p55/gen/vg -/

/-- which net_ or pin_ is_ stuck under fault f_ -/
def fdq (NC_ : Int) (gn_ : Nat → Nat) (G_ : Nat) (f_ st_ pn_ : Int) : Prop := (f_ / 2 < NC_ ∧ st_ = f_ / 2 ∧ pn_ = -1) ∨ (NC_ ≤ f_ / 2 ∧ st_ = -1 ∧ ∃ g_ : Nat, g_ < G_ ∧ ((sn9 gn_ g_ : Nat) : Int) ≤ f_ / 2 - NC_ ∧ f_ / 2 - NC_ < ((sn9 gn_ (g_ + 1) : Nat) : Int) ∧ pn_ = 3 * (g_ : Int) + (f_ / 2 - NC_ - ((sn9 gn_ g_ : Nat) : Int)))
theorem fdq_u {NC_ f_ st_ pn_ st'_ pn'_ : Int} {gn_ : Nat → Nat} {G_ : Nat} (h_ : fdq NC_ gn_ G_ f_ st_ pn_) (h'_ : fdq NC_ gn_ G_ f_ st'_ pn'_) : st_ = st'_ ∧ pn_ = pn'_ := by
  rcases h_ with ⟨a1_, a2_, a3_⟩ | ⟨a1_, a2_, g_, a3_, a4_, a5_, a6_⟩
  · rcases h'_ with ⟨b1_, b2_, b3_⟩ | ⟨b1_, b2_, -⟩
    · omega
    · omega
  · rcases h'_ with ⟨b1_, b2_, b3_⟩ | ⟨b1_, b2_, g'_, b3_, b4_, b5_, b6_⟩
    · omega
    · have e_ : g_ = g'_ := by
        rcases Nat.lt_trichotomy g_ g'_ with c_ | c_ | c_
        · have := sn9_m gn_ (n_ := g_ + 1) (m_ := g'_) c_
          omega
        · exact c_
        · have := sn9_m gn_ (n_ := g'_ + 1) (m_ := g_) c_
          omega
      subst e_
      omega
theorem sn9_cg {g_ g'_ : Nat → Nat} {G_ : Nat} (h_ : ∀ k_, k_ < G_ → g'_ k_ = g_ k_) : ∀ n_, n_ ≤ G_ → sn9 g'_ n_ = sn9 g_ n_
  | 0, _ => rfl
  | n_ + 1, hn_ => by rw [sn9_s, sn9_s, sn9_cg h_ n_ (by omega), h_ n_ (by omega)]
theorem fdq_cg {NC_ f_ st_ pn_ : Int} {gn_ gn'_ : Nat → Nat} {G_ : Nat} (e_ : ∀ k_, k_ < G_ → gn'_ k_ = gn_ k_) (h_ : fdq NC_ gn_ G_ f_ st_ pn_) : fdq NC_ gn'_ G_ f_ st_ pn_ := by
  rcases h_ with h_ | ⟨a1_, a2_, g_, a3_, a4_, a5_, a6_⟩
  · exact Or.inl h_
  · refine Or.inr ⟨a1_, a2_, g_, a3_, ?_, ?_, ?_⟩
    · rw [sn9_cg e_ g_ (by omega)]; exact a4_
    · rw [sn9_cg e_ (g_ + 1) (by omega)]; exact a5_
    · rw [sn9_cg e_ g_ (by omega)]; exact a6_
/-- an_ end tells otherwise -/
def shd (v_ u_ : Nat → Bool) (eo_ en_ : Nat → Int) (NO_ NS_ : Nat) : Prop := (∃ k_, k_ < NO_ ∧ nev v_ (eo_ k_) ≠ nev u_ (eo_ k_)) ∨ ∃ k_, k_ < NS_ ∧ nev v_ (en_ k_) ≠ nev u_ (en_ k_)
def rno (c_ : Int) (S_ : sm_S) (k_ : Nat) : Int := S_.2.2.1 231 0 (16 * c_ + (k_ : Int)).toNat
def rnx (c_ : Int) (S_ : sm_S) (k_ : Nat) : Int := S_.2.2.1 232 0 (6 * c_ + (k_ : Int)).toNat
def rnc (c_ : Int) (S_ : sm_S) : Int := S_.2.2.1 223 0 c_.toNat + S_.2.2.1 224 0 c_.toNat + S_.2.2.1 228 0 c_.toNat
/-- values under fault f_ -/
def rcf9 (c_ : Int) (S_ : sm_S) (st_ pn_ f_ : Int) (p_ : Nat) (u_ : Nat → Bool) : Prop := cvf (S_.2.2.1 223 0 c_.toNat + S_.2.2.1 224 0 c_.toNat).toNat (S_.2.2.1 228 0 c_.toNat).toNat (krT c_ S_) (krN c_ S_) (krA c_ S_) st_ pn_ (decide (f_ % 2 = 1)) p_ u_
/-- pattern p_ shows fault f_ -/
def rshq (c_ : Int) (S_ : sm_S) (f_ : Int) (p_ : Nat) (b_ : Bool) : Prop := ∃ (st_ pn_ : Int) (v_ u_ : Nat → Bool), fdq (rnc c_ S_) (gis c_ S_) (S_.2.2.1 228 0 c_.toNat).toNat f_ st_ pn_ ∧ rcvq c_ S_ p_ v_ ∧ rcf9 c_ S_ st_ pn_ f_ p_ u_ ∧ (b_ = true ↔ shd v_ u_ (rno c_ S_) (rnx c_ S_) (S_.2.2.1 225 0 c_.toNat).toNat (S_.2.2.1 224 0 c_.toNat).toNat)
/-- the_ right words -/
def rgh9 (c_ : Int) (w_ : Nat) (S0_ S_ : sm_S) : Prop := ∃ R_ : Nat → Int, (∀ i_, i_ < 64 → rcvq c_ S0_ (64 * w_ + i_) (fun n_ => lbt (R_ n_) i_)) ∧ (∀ k_ : Nat, (k_ : Int) < S0_.2.2.1 225 0 c_.toNat → ∀ i_, i_ < 64 → lbt (S_.2.2.2 293 0 k_) i_ = nev (fun n_ => lbt (R_ n_) i_) (rno c_ S0_ k_)) ∧ ∀ k_ : Nat, (k_ : Int) < S0_.2.2.1 224 0 c_.toNat → ∀ i_, i_ < 64 → lbt (S_.2.2.2 293 0 (16 + k_)) i_ = nev (fun n_ => lbt (R_ n_) i_) (rnx c_ S0_ k_)
theorem nev_1 {v_ : Nat → Bool} {n_ : Int} (h_ : n_ = -1) : nev v_ n_ = false := by
  unfold nev
  rw [if_pos h_]
theorem nev_2 {v_ : Nat → Bool} {n_ : Int} (h_ : n_ = -2) : nev v_ n_ = true := by
  unfold nev
  rw [if_neg (by omega), if_pos h_]
theorem nev_3 {v_ : Nat → Bool} {n_ : Int} (h_ : n_ ≠ -1) (h'_ : n_ ≠ -2) : nev v_ n_ = v_ n_.toNat := by
  unfold nev
  rw [if_neg h_, if_neg h'_]
/-! M_.findFault -/
def vw_515n : sx_Wl := ([(13, 221), (13, 222)], [], [])
def vq_515n (c_ : Int) (f_ : Int) (S0_ : sm_S) (u_ : Option sm_V) (S1_ : sm_S) : Prop := u_ = none ∧ gi S1_ ∧ ai_fr (sx_W vw_515n) S0_ S1_ ∧ (fdq (rnc c_ S0_) (gis c_ S0_) (S0_.2.2.1 228 0 c_.toNat).toNat f_ (S1_.1 13 0 221) (S1_.1 13 0 222))
set_option maxHeartbeats 1000000 in
set_option maxRecDepth 20000 in
theorem vl_515n {sc_ : Nat × (Nat → Int)} (c_ : Int) (f_ : Int) (S0_ : sm_S) (hc_ : 0 ≤ c_ ∧ c_ ≤ 3) (hx_ : S0_.2.2.1 223 0 c_.toNat + S0_.2.2.1 224 0 c_.toNat ≤ 12) (hf_ : 0 ≤ f_ ∧ f_ < fco c_ S0_) : ∀ nn_ : Nat, (∀ (l_ : Int) (g_ : Int) (S_ : sm_S), gi S_ → ai_fr (sx_W vw_515n) S0_ S_ → ((0 ≤ g_ ∧ 0 ≤ l_ ∧ l_ ≤ 2000) ∧ (l_ = f_ / 2 - (S0_.2.2.1 223 0 c_.toNat + S0_.2.2.1 224 0 c_.toNat + S0_.2.2.1 228 0 c_.toNat) - (sn9 (gis c_ S0_) g_.toNat : Int) ∧ S0_.2.2.1 223 0 c_.toNat + S0_.2.2.1 224 0 c_.toNat + S0_.2.2.1 228 0 c_.toNat ≤ f_ / 2) ∧ (S_.1 13 0 221 = -1) ∧ (l_ + (sn9 (gis c_ S0_) g_.toNat : Int) < (sn9 (gis c_ S0_) (S0_.2.2.1 228 0 c_.toNat).toNat : Int)) ∧ True) → ((500 - g_).toNat) < nn_ → sm_T (mt_P sc_) 1 515 (40, [some (.inr (.inr (some (13, 0)))), some (.inl c_), some (.inl f_), some (.inl l_), some (.inl g_)], [], S_) (fun ro9_ => ∃ u_ S1_, ro9_ = (.inl u_, S1_, 0) ∧ vq_515n c_ f_ S0_ u_ S1_)) := by
  intro nn_
  induction nn_ with
  | zero => exact fun _ _ _ _ _ _ h_ => absurd h_ (Nat.not_lt_zero _)
  | succ nn_ ih_ =>
    rintro l_ g_ S_ hI_ hF_ ⟨h0_, hl_, hs_, h1_, -⟩ hm_
    have f228_ : S_.2.2.1 228 0 = S0_.2.2.1 228 0 := fr_arr hF_ rfl
    have f229_ : S_.2.2.1 229 0 = S0_.2.2.1 229 0 := fr_arr hF_ rfl
    have f234_ : S_.2.2.1 234 0 = S0_.2.2.1 234 0 := fr_arr hF_ rfl
    have x228_ : S_.2.2.1 228 0 c_.toNat = S0_.2.2.1 228 0 c_.toNat := congrFun f228_ _
    have cA_ : 0 ≤ S_.2.2.1 223 0 c_.toNat ∧ S_.2.2.1 223 0 c_.toNat ≤ 12 := hI_.2 223 0 _
    have cB_ : 0 ≤ S_.2.2.1 224 0 c_.toNat ∧ S_.2.2.1 224 0 c_.toNat ≤ 6 := hI_.2 224 0 _
    have cG_ : 0 ≤ S_.2.2.1 228 0 c_.toNat ∧ S_.2.2.1 228 0 c_.toNat ≤ 150 := hI_.2 228 0 _
    have g9_ : g_ < S0_.2.2.1 228 0 c_.toNat := by (by_cases y9_ : S0_.2.2.1 228 0 c_.toNat ≤ g_; (exfalso; have m9_ := sn9_m (gis c_ S0_) (n_ := (S0_.2.2.1 228 0 c_.toNat).toNat) (m_ := g_.toNat) (by omega); omega); omega)
    have q9_ : (gis c_ S0_ g_.toNat : Int) = S_.2.2.1 234 0 (12 * c_ + S_.2.2.1 229 0 (150 * c_ + g_).toNat).toNat := by (unfold gis; rw [show ((g_.toNat : Nat) : Int) = g_ by omega, f234_, f229_]; have w9_ : 0 ≤ S_.2.2.1 234 0 (12 * c_ + S_.2.2.1 229 0 (150 * c_ + g_).toNat).toNat := (hI_.2 234 0 _).1; rw [f234_, f229_] at w9_; omega)
    have s9_ := sn9_s (gis c_ S0_) g_.toNat
    have T9_ : (g_ + 1).toNat = g_.toNat + 1 := by omega
    refine sm_T_go 6 (c1 := (49, [some (.inr (.inr (some (13, 0)))), some (.inl c_), some (.inl f_), some (.inl l_), some (.inl g_)], [.inl g_, .inl c_, .inr (.inr (some (13, 0))), .inr (.inr (some (234, 0))), .inl l_], S_)) rfl ?_
    refine sm_T_cal (d1 := 0) (Q1 := vq_421 c_ g_ S_) rfl rfl (by decide) (vc_421 c_ g_ S_ hI_ (by omega) (by omega)) (fun u_ Sx1_ px4_ => ?_)
    obtain ⟨rfl, vx6_, rfl, px4_⟩ := px4_
    have e49_ := px4_
    rw [← e49_.2] at q9_
    refine sm_T_iald (n := 48) rfl rfl (by omega) (by omega) ?_
    have bx7_ : 0 ≤ S_.2.2.1 234 0 vx6_.toNat ∧ S_.2.2.1 234 0 vx6_.toNat ≤ 3 := hI_.2 234 0 _
    refine sm_T_br (a := 2) (z := 24) rfl (fun cx8_ => ?_) (fun cx8_ => ?_)
    · have cx8_ : l_ < (S_.2.2.1 234 0 vx6_.toNat) := of_decide_eq_true cx8_
      refine sm_T_go 3 (c1 := (81, [some (.inr (.inr (some (13, 0)))), some (.inl c_), some (.inl f_), some (.inl l_), some (.inl g_)], [.inl g_, .inl 3, .inr (.inr (some (13, 0)))], S_)) rfl ?_
      refine sm_T_bin (w := 3 * g_) rfl (bi_mul (by omega) (by omega) (by omega)) ?_ -- pc_ 81
      refine sm_T_go 1 (c1 := (83, [some (.inr (.inr (some (13, 0)))), some (.inl c_), some (.inl f_), some (.inl l_), some (.inl g_)], [.inl l_, .inl (3 * g_), .inr (.inr (some (13, 0)))], S_)) rfl ?_
      refine sm_T_bin (w := 3 * g_ + l_) rfl (bi_add (by omega) (by omega) (by omega)) ?_ -- pc_ 83
      have hIx9_ : gi (sm_pI S_ 13 0 222 (3 * g_ + l_)) := gi_pI hI_ (show (-1) ≤ 3 * g_ + l_ ∧ 3 * g_ + l_ ≤ 460 from ⟨by omega, by omega⟩)
      have hFx10_ : ai_fr (sx_W vw_515n) S0_ (sm_pI S_ 13 0 222 (3 * g_ + l_)) := ai_fr_tr hF_ (ai_fr_pI rfl)
      refine sm_T_go 1 (c1 := (87, [some (.inr (.inr (some (13, 0)))), some (.inl c_), some (.inl f_), some (.inl l_), some (.inl g_)], [], sm_pI S_ 13 0 222 (3 * g_ + l_))) rfl ?_
      refine sm_T_rv rfl ⟨_, _, rfl, rfl, hIx9_, hFx10_, ?_⟩
      unfold rnc
      first | exact Or.inl ⟨by omega, rf_eq, (rf_nk (by decide)).trans rf_eq⟩ | exact Or.inr ⟨by omega, (rf_nk (by decide)).trans hs_, g_.toNat, by omega, by omega, by (rw [s9_]; push_cast; omega), rf_eq.trans (by omega)⟩
    · have cx8_ : ¬ (l_ < (S_.2.2.1 234 0 vx6_.toNat)) := of_decide_eq_false cx8_
      refine sm_T_go 6 (c1 := (65, [some (.inr (.inr (some (13, 0)))), some (.inl c_), some (.inl f_), some (.inl l_), some (.inl g_)], [.inl g_, .inl c_, .inr (.inr (some (13, 0))), .inr (.inr (some (234, 0))), .inl l_], S_)) rfl ?_
      refine sm_T_cal (d1 := 0) (Q1 := vq_421 c_ g_ S_) rfl rfl (by decide) (vc_421 c_ g_ S_ hI_ (by omega) (by omega)) (fun u_ Sx11_ px14_ => ?_)
      obtain ⟨rfl, vx16_, rfl, px14_⟩ := px14_
      have e65_ := px14_
      refine sm_T_iald (n := 48) rfl rfl (by omega) (by omega) ?_
      have bx17_ : 0 ≤ S_.2.2.1 234 0 vx16_.toNat ∧ S_.2.2.1 234 0 vx16_.toNat ≤ 3 := hI_.2 234 0 _
      refine sm_T_bin (w := l_ - (S_.2.2.1 234 0 vx16_.toNat)) rfl (bi_sub (by omega) (by omega) (by omega)) ?_ -- pc_ 69
      refine sm_T_go 1 (c1 := (71, [some (.inr (.inr (some (13, 0)))), some (.inl c_), some (.inl f_), some (.inl (l_ - (S_.2.2.1 234 0 vx16_.toNat))), some (.inl g_)], [], S_)) rfl ?_
      refine sm_T_inc (a := 4) (z := 1) (v := g_) (w := g_ + 1) rfl rfl (by omega) (by omega) (by omega) ?_ -- pc_ 71
      refine sm_T_go 1 (c1 := (40, [some (.inr (.inr (some (13, 0)))), some (.inl c_), some (.inl f_), some (.inl (l_ - (S_.2.2.1 234 0 vx16_.toNat))), some (.inl (g_ + 1))], [], S_)) rfl ?_
      refine ih_ (l_ - (S_.2.2.1 234 0 vx16_.toNat)) (g_ + 1) S_ hI_ hF_ ⟨?_, ?_, ?_, ?_, trivial⟩ ?_
      · (have z9_ := e65_.2.trans e49_.2.symm; subst z9_; omega)
      · (have z9_ := e65_.2.trans e49_.2.symm; subst z9_; rw [T9_, s9_]; push_cast; omega)
      · exact hs_
      · (have z9_ := e65_.2.trans e49_.2.symm; subst z9_; rw [T9_, s9_]; push_cast; omega)
      · omega
set_option maxHeartbeats 1000000 in
set_option maxRecDepth 20000 in
theorem vc_515n {sc_ : Nat × (Nat → Int)} (c_ : Int) (f_ : Int) (S0_ : sm_S) (hI_ : gi S0_) (hc_ : 0 ≤ c_ ∧ c_ ≤ 3) (hx_ : S0_.2.2.1 223 0 c_.toNat + S0_.2.2.1 224 0 c_.toNat ≤ 12) (hf_ : 0 ≤ f_ ∧ f_ < fco c_ S0_) : sm_T (mt_P sc_) 1 515 (0, [some (.inr (.inr (some (13, 0)))), some (.inl c_), some (.inl f_), none, none], [], S0_) (fun ro9_ => ∃ u_ S1_, ro9_ = (.inl u_, S1_, 0) ∧ vq_515n c_ f_ S0_ u_ S1_) := by
  have hF_ : ai_fr (sx_W vw_515n) S0_ S0_ := ai_fr_rf
  have cA_ : 0 ≤ S0_.2.2.1 223 0 c_.toNat ∧ S0_.2.2.1 223 0 c_.toNat ≤ 12 := hI_.2 223 0 _
  have cB_ : 0 ≤ S0_.2.2.1 224 0 c_.toNat ∧ S0_.2.2.1 224 0 c_.toNat ≤ 6 := hI_.2 224 0 _
  have cG_ : 0 ≤ S0_.2.2.1 228 0 c_.toNat ∧ S0_.2.2.1 228 0 c_.toNat ≤ 150 := hI_.2 228 0 _
  have u9_ : fco c_ S0_ = 2 * (S0_.2.2.1 223 0 c_.toNat + S0_.2.2.1 224 0 c_.toNat + S0_.2.2.1 228 0 c_.toNat) + 2 * (sn9 (gis c_ S0_) (S0_.2.2.1 228 0 c_.toNat).toNat : Int) := rfl
  have fb9_ := fco_b hI_ hx_
  refine sm_T_go 2 (c1 := (2, [some (.inr (.inr (some (13, 0)))), some (.inl c_), some (.inl f_), none, none], [.inl 2, .inl f_], S0_)) rfl ?_
  refine sm_T_bin (w := (f_ / 2)) rfl (bi_div (by omega) (by omega) (by omega) (by omega)) ?_ -- pc_ 2
  have hIx1_ : gi (sm_pI S0_ 13 0 221 (-1)) := gi_pI hI_ (show (-1) ≤ (-1) ∧ (-1) ≤ 161 from ⟨by omega, by omega⟩)
  have hFx2_ : ai_fr (sx_W vw_515n) S0_ (sm_pI S0_ 13 0 221 (-1)) := ai_fr_tr hF_ (ai_fr_pI rfl)
  have hIx3_ : gi (sm_pI (sm_pI S0_ 13 0 221 (-1)) 13 0 222 (-1)) := gi_pI hIx1_ (show (-1) ≤ (-1) ∧ (-1) ≤ 460 from ⟨by omega, by omega⟩)
  have hFx4_ : ai_fr (sx_W vw_515n) S0_ (sm_pI (sm_pI S0_ 13 0 221 (-1)) 13 0 222 (-1)) := ai_fr_tr hFx2_ (ai_fr_pI rfl)
  refine sm_T_go 10 (c1 := (17, [some (.inr (.inr (some (13, 0)))), some (.inl c_), some (.inl f_), some (.inl (f_ / 2)), none], [.inl c_, .inr (.inr (some (13, 0))), .inl (f_ / 2)], sm_pI (sm_pI S0_ 13 0 221 (-1)) 13 0 222 (-1))) rfl ?_
  refine sm_T_cal (d1 := 0) (Q1 := vq_422 c_ (sm_pI (sm_pI S0_ 13 0 221 (-1)) 13 0 222 (-1))) rfl rfl (by decide) (vc_422 c_ (sm_pI (sm_pI S0_ 13 0 221 (-1)) 13 0 222 (-1)) hIx3_ (by omega)) (fun u_ Sx5_ px8_ => ?_)
  obtain ⟨rfl, vx10_, rfl, px8_⟩ := px8_
  have e17_ : (0 ≤ vx10_ ∧ vx10_ ≤ 168) ∧ vx10_ = S0_.2.2.1 223 0 c_.toNat + S0_.2.2.1 224 0 c_.toNat + S0_.2.2.1 228 0 c_.toNat := px8_
  refine sm_T_br (a := 3) (z := 9) rfl (fun cx11_ => ?_) (fun cx11_ => ?_)
  · have cx11_ : vx10_ ≤ (f_ / 2) := of_decide_eq_true cx11_
    refine sm_T_go 3 (c1 := (32, [some (.inr (.inr (some (13, 0)))), some (.inl c_), some (.inl f_), some (.inl (f_ / 2)), none], [.inl c_, .inr (.inr (some (13, 0))), .inl (f_ / 2)], sm_pI (sm_pI S0_ 13 0 221 (-1)) 13 0 222 (-1))) rfl ?_
    refine sm_T_cal (d1 := 0) (Q1 := vq_422 c_ (sm_pI (sm_pI S0_ 13 0 221 (-1)) 13 0 222 (-1))) rfl rfl (by decide) (vc_422 c_ (sm_pI (sm_pI S0_ 13 0 221 (-1)) 13 0 222 (-1)) hIx3_ (by omega)) (fun u_ Sx12_ px15_ => ?_)
    obtain ⟨rfl, vx17_, rfl, px15_⟩ := px15_
    have e32_ : (0 ≤ vx17_ ∧ vx17_ ≤ 168) ∧ vx17_ = S0_.2.2.1 223 0 c_.toNat + S0_.2.2.1 224 0 c_.toNat + S0_.2.2.1 228 0 c_.toNat := px15_
    refine sm_T_bin (w := (f_ / 2) - vx17_) rfl (bi_sub (by omega) (by omega) (by omega)) ?_ -- pc_ 35
    refine sm_T_go 3 (c1 := (40, [some (.inr (.inr (some (13, 0)))), some (.inl c_), some (.inl f_), some (.inl ((f_ / 2) - vx17_)), some (.inl 0)], [], sm_pI (sm_pI S0_ 13 0 221 (-1)) 13 0 222 (-1))) rfl ?_
    refine (vl_515n c_ f_ S0_ hc_ hx_ hf_ _) ((f_ / 2) - vx17_) 0 (sm_pI (sm_pI S0_ 13 0 221 (-1)) 13 0 222 (-1)) hIx3_ hFx4_ ⟨?_, ?_, ?_, ?_, trivial⟩ (Nat.lt_succ_self _)
    · ((try simp only [rd_eq, rd_ne, rf_eq, rf_nk, rf_nt, rd_fa, rd_af, rd_fl, rd_al, rd_lf, rd_la, rd_leq, rd_lne, rd_fr, rd_ar, ne_eq, Nat.reduceEqDiff, not_false_eq_true] at *); omega)
    · (rw [show (0 : Int).toNat = 0 from rfl]; show _ = _ - ((0 : Nat) : Int) ∧ _; (try simp only [rd_eq, rd_ne, rf_eq, rf_nk, rf_nt, rd_fa, rd_af, rd_fl, rd_al, rd_lf, rd_la, rd_leq, rd_lne, rd_fr, rd_ar, ne_eq, Nat.reduceEqDiff, not_false_eq_true] at *); omega)
    · exact (rf_nk (by decide)).trans rf_eq
    · (rw [show (0 : Int).toNat = 0 from rfl]; show _ + ((0 : Nat) : Int) < _; (try simp only [rd_eq, rd_ne, rf_eq, rf_nk, rf_nt, rd_fa, rd_af, rd_fl, rd_al, rd_lf, rd_la, rd_leq, rd_lne, rd_fr, rd_ar, ne_eq, Nat.reduceEqDiff, not_false_eq_true] at *); omega)
  · have cx11_ : ¬ (vx10_ ≤ (f_ / 2)) := of_decide_eq_false cx11_
    have hIx18_ : gi (sm_pI (sm_pI (sm_pI S0_ 13 0 221 (-1)) 13 0 222 (-1)) 13 0 221 (f_ / 2)) := gi_pI hIx3_ (show (-1) ≤ (f_ / 2) ∧ (f_ / 2) ≤ 161 from ⟨by omega, by omega⟩)
    have hFx19_ : ai_fr (sx_W vw_515n) S0_ (sm_pI (sm_pI (sm_pI S0_ 13 0 221 (-1)) 13 0 222 (-1)) 13 0 221 (f_ / 2)) := ai_fr_tr hFx4_ (ai_fr_pI rfl)
    refine sm_T_go 3 (c1 := (28, [some (.inr (.inr (some (13, 0)))), some (.inl c_), some (.inl f_), some (.inl (f_ / 2)), none], [], sm_pI (sm_pI (sm_pI S0_ 13 0 221 (-1)) 13 0 222 (-1)) 13 0 221 (f_ / 2))) rfl ?_
    refine sm_T_rv rfl ⟨_, _, rfl, rfl, hIx18_, hFx19_, ?_⟩
    unfold rnc
    first | exact Or.inl ⟨by omega, rf_eq, (rf_nk (by decide)).trans rf_eq⟩ | exact Or.inr ⟨by omega, (rf_nk (by decide)).trans hs_, g_.toNat, by omega, by omega, by (rw [s9_]; push_cast; omega), rf_eq.trans (by omega)⟩
/-! M_.wordOfEnd -/
def vw_516n : sx_Wl := ([], [], [])
def vq_516n (n_ : Int) (S0_ : sm_S) (u_ : Option sm_V) (S1_ : sm_S) : Prop := S0_ = S1_ ∧ ∃ v_ : Int, u_ = some (.inr (.inl v_)) ∧ (∀ i9_ : Nat, i9_ < 64 → lbt v_ i9_ = nev (fun m_ => lbt (S0_.2.2.2 238 0 m_) i9_) n_)
set_option maxHeartbeats 400000 in
set_option maxRecDepth 20000 in
theorem vc_516n {sc_ : Nat × (Nat → Int)} (n_ : Int) (S0_ : sm_S) (hI_ : gi S0_) (hn_ : -2 ≤ n_ ∧ n_ ≤ 255) : sm_T (mt_P sc_) 0 516 (0, [some (.inr (.inr (some (238, 0)))), some (.inl n_)], [], S0_) (fun ro9_ => ∃ u_ S1_, ro9_ = (.inl u_, S1_, 0) ∧ vq_516n n_ S0_ u_ S1_) := by
  have hF_ : ai_fr (sx_W vw_516n) S0_ S0_ := ai_fr_rf
  refine sm_T_go 2 (c1 := (2, [some (.inr (.inr (some (238, 0)))), some (.inl n_)], [.inl (-1), .inl n_], S0_)) rfl ?_
  refine sm_T_br (a := 1) (z := 7) rfl (fun cx1_ => ?_) (fun cx1_ => ?_)
  · have cx1_ : n_ ≠ (-1) := of_decide_eq_true cx1_
    refine sm_T_go 2 (c1 := (12, [some (.inr (.inr (some (238, 0)))), some (.inl n_)], [.inl (-2), .inl n_], S0_)) rfl ?_
    refine sm_T_br (a := 1) (z := 9) rfl (fun cx2_ => ?_) (fun cx2_ => ?_)
    · have cx2_ : n_ ≠ (-2) := of_decide_eq_true cx2_
      refine sm_T_go 2 (c1 := (23, [some (.inr (.inr (some (238, 0)))), some (.inl n_)], [.inl n_, .inr (.inr (some (238, 0)))], S0_)) rfl ?_
      refine sm_T_lald (n := 256) rfl rfl (by omega) (by omega) ?_
      refine sm_T_rl rfl ⟨_, _, rfl, rfl, _, rfl, ?_⟩
      intro i9_ hi9_
      first | (rw [nev_1 (by omega)]; exact lbt_0) | (rw [nev_2 (by omega)]; exact lbt_m hi9_) | (rw [nev_3 (by omega) (by omega)])
    · have cx2_ : ¬ (n_ ≠ (-2)) := of_decide_eq_false cx2_
      refine sm_T_nt (u := some (.inr (.inl (-1)))) (S1 := S0_) rfl rfl rfl ?_
      refine sm_T_go 1 (c1 := (24, [some (.inr (.inr (some (238, 0)))), some (.inl n_)], [.inr (.inl (-1))], S0_)) rfl ?_
      refine sm_T_rl rfl ⟨_, _, rfl, rfl, _, rfl, ?_⟩
      intro i9_ hi9_
      first | (rw [nev_1 (by omega)]; exact lbt_0) | (rw [nev_2 (by omega)]; exact lbt_m hi9_) | (rw [nev_3 (by omega) (by omega)])
  · have cx1_ : ¬ (n_ ≠ (-1)) := of_decide_eq_false cx1_
    refine sm_T_go 2 (c1 := (24, [some (.inr (.inr (some (238, 0)))), some (.inl n_)], [.inr (.inl 0)], S0_)) rfl ?_
    refine sm_T_rl rfl ⟨_, _, rfl, rfl, _, rfl, ?_⟩
    intro i9_ hi9_
    first | (rw [nev_1 (by omega)]; exact lbt_0) | (rw [nev_2 (by omega)]; exact lbt_m hi9_) | (rw [nev_3 (by omega) (by omega)])
/-! M_.layRight -/
def vw_517n : sx_Wl := ([], [238, 293], [])
def vq_517n (c_ : Int) (w_ : Int) (S0_ : sm_S) (u_ : Option sm_V) (S1_ : sm_S) : Prop := u_ = none ∧ gi S1_ ∧ ai_fr (sx_W vw_517n) S0_ S1_ ∧ (rgh9 c_ w_.toNat S0_ S1_)
set_option maxHeartbeats 400000 in
set_option maxRecDepth 20000 in
theorem vl_517n {sc_ : Nat × (Nat → Int)} (c_ : Int) (w_ : Int) (S0_ : sm_S) (hc_ : 0 ≤ c_ ∧ c_ ≤ 3) (hx_ : S0_.2.2.1 223 0 c_.toNat + S0_.2.2.1 224 0 c_.toNat ≤ 12) (hg_ : cgt c_ S0_) (ho_ : con c_ S0_) (hw_ : 0 ≤ w_ ∧ w_ ≤ 63) : ∀ nn_ : Nat, (∀ (k_ : Int) (S_ : sm_S), gi S_ → ai_fr (sx_W vw_517n) S0_ S_ → ((0 ≤ k_ ∧ k_ ≤ 16) ∧ (∀ i9_ : Nat, i9_ < 64 → rcvq c_ S0_ (64 * w_.toNat + i9_) (fun n_ => lbt (S_.2.2.2 238 0 n_) i9_)) ∧ (∀ k9_ : Nat, (k9_ : Int) < k_ → ∀ i9_ : Nat, i9_ < 64 → lbt (S_.2.2.2 293 0 k9_) i9_ = nev (fun n_ => lbt (S_.2.2.2 238 0 n_) i9_) (rno c_ S0_ k9_)) ∧ True) → ((900 - k_).toNat) < nn_ → sm_T (mt_P sc_) 2 517 (11, [some (.inr (.inr (some (13, 0)))), some (.inl c_), some (.inl w_), some (.inl k_)], [], S_) (fun ro9_ => ∃ u_ S1_, ro9_ = (.inl u_, S1_, 0) ∧ vq_517n c_ w_ S0_ u_ S1_)) ∧ (∀ (k_ : Int) (S_ : sm_S), gi S_ → ai_fr (sx_W vw_517n) S0_ S_ → ((0 ≤ k_ ∧ k_ ≤ 6) ∧ (∀ i9_ : Nat, i9_ < 64 → rcvq c_ S0_ (64 * w_.toNat + i9_) (fun n_ => lbt (S_.2.2.2 238 0 n_) i9_)) ∧ (∀ k9_ : Nat, (k9_ : Int) < S0_.2.2.1 225 0 c_.toNat → ∀ i9_ : Nat, i9_ < 64 → lbt (S_.2.2.2 293 0 k9_) i9_ = nev (fun n_ => lbt (S_.2.2.2 238 0 n_) i9_) (rno c_ S0_ k9_)) ∧ (∀ k9_ : Nat, (k9_ : Int) < k_ → ∀ i9_ : Nat, i9_ < 64 → lbt (S_.2.2.2 293 0 (16 + k9_)) i9_ = nev (fun n_ => lbt (S_.2.2.2 238 0 n_) i9_) (rnx c_ S0_ k9_)) ∧ True) → ((500 - k_).toNat) < nn_ → sm_T (mt_P sc_) 2 517 (53, [some (.inr (.inr (some (13, 0)))), some (.inl c_), some (.inl w_), some (.inl k_)], [], S_) (fun ro9_ => ∃ u_ S1_, ro9_ = (.inl u_, S1_, 0) ∧ vq_517n c_ w_ S0_ u_ S1_)) := by
  intro nn_
  induction nn_ with
  | zero => exact ⟨fun _ _ _ _ _ h_ => absurd h_ (Nat.not_lt_zero _), fun _ _ _ _ _ h_ => absurd h_ (Nat.not_lt_zero _)⟩
  | succ nn_ ih_ =>
    refine ⟨?_, ?_⟩
    · rintro k_ S_ hI_ hF_ ⟨h0_, hv_, hro_, -⟩ hm_
      have f223_ : S_.2.2.1 223 0 = S0_.2.2.1 223 0 := fr_arr hF_ rfl
      have f224_ : S_.2.2.1 224 0 = S0_.2.2.1 224 0 := fr_arr hF_ rfl
      have f225_ : S_.2.2.1 225 0 = S0_.2.2.1 225 0 := fr_arr hF_ rfl
      have f228_ : S_.2.2.1 228 0 = S0_.2.2.1 228 0 := fr_arr hF_ rfl
      have x223_ : S_.2.2.1 223 0 c_.toNat = S0_.2.2.1 223 0 c_.toNat := congrFun f223_ _
      have x224_ : S_.2.2.1 224 0 c_.toNat = S0_.2.2.1 224 0 c_.toNat := congrFun f224_ _
      have x225_ : S_.2.2.1 225 0 c_.toNat = S0_.2.2.1 225 0 c_.toNat := congrFun f225_ _
      have x228_ : S_.2.2.1 228 0 c_.toNat = S0_.2.2.1 228 0 c_.toNat := congrFun f228_ _
      have cA_ : 0 ≤ S_.2.2.1 223 0 c_.toNat ∧ S_.2.2.1 223 0 c_.toNat ≤ 12 := hI_.2 223 0 _
      have cB_ : 0 ≤ S_.2.2.1 224 0 c_.toNat ∧ S_.2.2.1 224 0 c_.toNat ≤ 6 := hI_.2 224 0 _
      have cG_ : 0 ≤ S_.2.2.1 228 0 c_.toNat ∧ S_.2.2.1 228 0 c_.toNat ≤ 150 := hI_.2 228 0 _
      have ho9_ := con_fr hc_.1 hI_ ho_ hF_
      have f231_ : S_.2.2.1 231 0 = S0_.2.2.1 231 0 := fr_arr hF_ rfl
      have f232_ : S_.2.2.1 232 0 = S0_.2.2.1 232 0 := fr_arr hF_ rfl
      have c25_ : 0 ≤ S_.2.2.1 225 0 c_.toNat ∧ S_.2.2.1 225 0 c_.toNat ≤ 16 := hI_.2 225 0 _
      refine sm_T_go 4 (c1 := (17, [some (.inr (.inr (some (13, 0)))), some (.inl c_), some (.inl w_), some (.inl k_)], [.inl c_, .inr (.inr (some (225, 0))), .inl k_], S_)) rfl ?_
      refine sm_T_iald (n := 4) rfl rfl (by omega) (by omega) ?_
      have bx1_ : 0 ≤ S_.2.2.1 225 0 c_.toNat ∧ S_.2.2.1 225 0 c_.toNat ≤ 16 := hI_.2 225 0 _
      refine sm_T_br (a := 3) (z := 33) rfl (fun cx2_ => ?_) (fun cx2_ => ?_)
      · have cx2_ : (S_.2.2.1 225 0 c_.toNat) ≤ k_ := of_decide_eq_true cx2_
        refine sm_T_go 2 (c1 := (53, [some (.inr (.inr (some (13, 0)))), some (.inl c_), some (.inl w_), some (.inl 0)], [], S_)) rfl ?_
        refine ih_.2 0 S_ hI_ hF_ ⟨?_, ?_, ?_, ?_, trivial⟩ ?_
        · omega
        · exact hv_
        · (intro k9_ hk9_; exact hro_ k9_ (by omega))
        · (intro k9_ hk9_; exfalso; omega)
        · omega
      · have cx2_ : ¬ ((S_.2.2.1 225 0 c_.toNat) ≤ k_) := of_decide_eq_false cx2_
        have o9_ := ho9_.1 k_ (by omega) (by omega)
        refine sm_T_go 9 (c1 := (37, [some (.inr (.inr (some (13, 0)))), some (.inl c_), some (.inl w_), some (.inl k_)], [.inl c_, .inl 16, .inr (.inr (some (231, 0))), .inr (.inr (some (238, 0))), .inl k_, .inr (.inr (some (293, 0)))], S_)) rfl ?_
        refine sm_T_bin (w := 16 * c_) rfl (bi_mul (by omega) (by omega) (by omega)) ?_ -- pc_ 37
        refine sm_T_go 1 (c1 := (39, [some (.inr (.inr (some (13, 0)))), some (.inl c_), some (.inl w_), some (.inl k_)], [.inl k_, .inl (16 * c_), .inr (.inr (some (231, 0))), .inr (.inr (some (238, 0))), .inl k_, .inr (.inr (some (293, 0)))], S_)) rfl ?_
        refine sm_T_bin (w := 16 * c_ + k_) rfl (bi_add (by omega) (by omega) (by omega)) ?_ -- pc_ 39
        refine sm_T_iald (n := 64) rfl rfl (by omega) (by omega) ?_
        have bx3_ : (-2) ≤ S_.2.2.1 231 0 (16 * c_ + k_).toNat ∧ S_.2.2.1 231 0 (16 * c_ + k_).toNat ≤ 9000 := hI_.2 231 0 _
        refine sm_T_cal (d1 := 0) (Q1 := vq_516n (S_.2.2.1 231 0 (16 * c_ + k_).toNat) S_) rfl rfl (by decide) (vc_516n (S_.2.2.1 231 0 (16 * c_ + k_).toNat) S_ hI_ (by omega)) (fun u_ Sx4_ px7_ => ?_)
        obtain ⟨rfl, vx9_, rfl, px7_⟩ := px7_
        have e41_ : ∀ i9_ : Nat, i9_ < 64 → lbt vx9_ i9_ = nev (fun n_ => lbt (S_.2.2.2 238 0 n_) i9_) (rno c_ S0_ k_.toNat) := fun i9_ hi9_ => by (have z9_ := px7_ i9_ hi9_; rw [z9_]; unfold rno; rw [f231_, show ((k_.toNat : Nat) : Int) = k_ by omega])
        refine sm_T_last (n := 32) rfl rfl (by omega) (by omega) ?_
        have hIx10_ : gi (sm_aL S_ 293 0 k_.toNat vx9_) := gi_aL hI_
        have hFx11_ : ai_fr (sx_W vw_517n) S0_ (sm_aL S_ 293 0 k_.toNat vx9_) := ai_fr_tr hF_ (ai_fr_aL rfl)
        refine sm_T_inc (a := 3) (z := 1) (v := k_) (w := k_ + 1) rfl rfl (by omega) (by omega) (by omega) ?_ -- pc_ 45
        refine sm_T_go 1 (c1 := (11, [some (.inr (.inr (some (13, 0)))), some (.inl c_), some (.inl w_), some (.inl (k_ + 1))], [], sm_aL S_ 293 0 k_.toNat vx9_)) rfl ?_
        refine ih_.1 (k_ + 1) (sm_aL S_ 293 0 k_.toNat vx9_) hIx10_ hFx11_ ⟨?_, ?_, ?_, trivial⟩ ?_
        · omega
        · exact hv_
        · intro k9_ hk9_ i9_ hi9_
          rw [rd_leq]
          by_cases z9_ : k9_ = k_.toNat
          · rw [if_pos z9_, z9_]; exact e41_ i9_ hi9_
          · rw [if_neg z9_]; exact hro_ k9_ (by omega) i9_ hi9_
        · omega
    · rintro k_ S_ hI_ hF_ ⟨h0_, hv_, hro_, hrn_, -⟩ hm_
      have f223_ : S_.2.2.1 223 0 = S0_.2.2.1 223 0 := fr_arr hF_ rfl
      have f224_ : S_.2.2.1 224 0 = S0_.2.2.1 224 0 := fr_arr hF_ rfl
      have f225_ : S_.2.2.1 225 0 = S0_.2.2.1 225 0 := fr_arr hF_ rfl
      have f228_ : S_.2.2.1 228 0 = S0_.2.2.1 228 0 := fr_arr hF_ rfl
      have x223_ : S_.2.2.1 223 0 c_.toNat = S0_.2.2.1 223 0 c_.toNat := congrFun f223_ _
      have x224_ : S_.2.2.1 224 0 c_.toNat = S0_.2.2.1 224 0 c_.toNat := congrFun f224_ _
      have x225_ : S_.2.2.1 225 0 c_.toNat = S0_.2.2.1 225 0 c_.toNat := congrFun f225_ _
      have x228_ : S_.2.2.1 228 0 c_.toNat = S0_.2.2.1 228 0 c_.toNat := congrFun f228_ _
      have cA_ : 0 ≤ S_.2.2.1 223 0 c_.toNat ∧ S_.2.2.1 223 0 c_.toNat ≤ 12 := hI_.2 223 0 _
      have cB_ : 0 ≤ S_.2.2.1 224 0 c_.toNat ∧ S_.2.2.1 224 0 c_.toNat ≤ 6 := hI_.2 224 0 _
      have cG_ : 0 ≤ S_.2.2.1 228 0 c_.toNat ∧ S_.2.2.1 228 0 c_.toNat ≤ 150 := hI_.2 228 0 _
      have ho9_ := con_fr hc_.1 hI_ ho_ hF_
      have f231_ : S_.2.2.1 231 0 = S0_.2.2.1 231 0 := fr_arr hF_ rfl
      have f232_ : S_.2.2.1 232 0 = S0_.2.2.1 232 0 := fr_arr hF_ rfl
      have c25_ : 0 ≤ S_.2.2.1 225 0 c_.toNat ∧ S_.2.2.1 225 0 c_.toNat ≤ 16 := hI_.2 225 0 _
      refine sm_T_go 4 (c1 := (59, [some (.inr (.inr (some (13, 0)))), some (.inl c_), some (.inl w_), some (.inl k_)], [.inl c_, .inr (.inr (some (224, 0))), .inl k_], S_)) rfl ?_
      refine sm_T_iald (n := 4) rfl rfl (by omega) (by omega) ?_
      have bx1_ : 0 ≤ S_.2.2.1 224 0 c_.toNat ∧ S_.2.2.1 224 0 c_.toNat ≤ 6 := hI_.2 224 0 _
      refine sm_T_br (a := 3) (z := 36) rfl (fun cx2_ => ?_) (fun cx2_ => ?_)
      · have cx2_ : (S_.2.2.1 224 0 c_.toNat) ≤ k_ := of_decide_eq_true cx2_
        refine sm_T_rv rfl ⟨_, _, rfl, rfl, hI_, hF_, ?_⟩
        exact ⟨S_.2.2.2 238 0, hv_, fun k9_ hk9_ => hro_ k9_ hk9_, fun k9_ hk9_ => hrn_ k9_ (by omega)⟩
      · have cx2_ : ¬ ((S_.2.2.1 224 0 c_.toNat) ≤ k_) := of_decide_eq_false cx2_
        have o9_ := ho9_.2 k_ (by omega) (by omega)
        refine sm_T_go 4 (c1 := (70, [some (.inr (.inr (some (13, 0)))), some (.inl c_), some (.inl w_), some (.inl k_)], [.inl k_, .inl 16, .inr (.inr (some (293, 0)))], S_)) rfl ?_
        refine sm_T_bin (w := k_ + 16) rfl (bi_add (by omega) (by omega) (by omega)) ?_ -- pc_ 70
        refine sm_T_go 6 (c1 := (82, [some (.inr (.inr (some (13, 0)))), some (.inl c_), some (.inl w_), some (.inl k_)], [.inl c_, .inl 6, .inr (.inr (some (232, 0))), .inr (.inr (some (238, 0))), .inl (k_ + 16), .inr (.inr (some (293, 0)))], S_)) rfl ?_
        refine sm_T_bin (w := 6 * c_) rfl (bi_mul (by omega) (by omega) (by omega)) ?_ -- pc_ 82
        refine sm_T_go 1 (c1 := (84, [some (.inr (.inr (some (13, 0)))), some (.inl c_), some (.inl w_), some (.inl k_)], [.inl k_, .inl (6 * c_), .inr (.inr (some (232, 0))), .inr (.inr (some (238, 0))), .inl (k_ + 16), .inr (.inr (some (293, 0)))], S_)) rfl ?_
        refine sm_T_bin (w := 6 * c_ + k_) rfl (bi_add (by omega) (by omega) (by omega)) ?_ -- pc_ 84
        refine sm_T_iald (n := 24) rfl rfl (by omega) (by omega) ?_
        have bx3_ : (-2) ≤ S_.2.2.1 232 0 (6 * c_ + k_).toNat ∧ S_.2.2.1 232 0 (6 * c_ + k_).toNat ≤ 9000 := hI_.2 232 0 _
        refine sm_T_cal (d1 := 0) (Q1 := vq_516n (S_.2.2.1 232 0 (6 * c_ + k_).toNat) S_) rfl rfl (by decide) (vc_516n (S_.2.2.1 232 0 (6 * c_ + k_).toNat) S_ hI_ (by omega)) (fun u_ Sx4_ px7_ => ?_)
        obtain ⟨rfl, vx9_, rfl, px7_⟩ := px7_
        have e86_ : ∀ i9_ : Nat, i9_ < 64 → lbt vx9_ i9_ = nev (fun n_ => lbt (S_.2.2.2 238 0 n_) i9_) (rnx c_ S0_ k_.toNat) := fun i9_ hi9_ => by (have z9_ := px7_ i9_ hi9_; rw [z9_]; unfold rnx; rw [f232_, show ((k_.toNat : Nat) : Int) = k_ by omega])
        refine sm_T_last (n := 32) rfl rfl (by omega) (by omega) ?_
        have hIx10_ : gi (sm_aL S_ 293 0 (k_ + 16).toNat vx9_) := gi_aL hI_
        have hFx11_ : ai_fr (sx_W vw_517n) S0_ (sm_aL S_ 293 0 (k_ + 16).toNat vx9_) := ai_fr_tr hF_ (ai_fr_aL rfl)
        refine sm_T_inc (a := 3) (z := 1) (v := k_) (w := k_ + 1) rfl rfl (by omega) (by omega) (by omega) ?_ -- pc_ 90
        refine sm_T_go 1 (c1 := (53, [some (.inr (.inr (some (13, 0)))), some (.inl c_), some (.inl w_), some (.inl (k_ + 1))], [], sm_aL S_ 293 0 (k_ + 16).toNat vx9_)) rfl ?_
        refine ih_.2 (k_ + 1) (sm_aL S_ 293 0 (k_ + 16).toNat vx9_) hIx10_ hFx11_ ⟨?_, ?_, ?_, ?_, trivial⟩ ?_
        · omega
        · exact hv_
        · intro k9_ hk9_ i9_ hi9_
          rw [rd_leq, if_neg (by omega)]
          exact hro_ k9_ hk9_ i9_ hi9_
        · intro k9_ hk9_ i9_ hi9_
          rw [rd_leq]
          by_cases z9_ : 16 + k9_ = (k_ + 16).toNat
          · rw [if_pos z9_, show k9_ = k_.toNat by omega]; exact e86_ i9_ hi9_
          · rw [if_neg z9_]; exact hrn_ k9_ (by omega) i9_ hi9_
        · omega
set_option maxHeartbeats 400000 in
set_option maxRecDepth 20000 in
theorem vc_517n {sc_ : Nat × (Nat → Int)} (c_ : Int) (w_ : Int) (S0_ : sm_S) (hI_ : gi S0_) (hc_ : 0 ≤ c_ ∧ c_ ≤ 3) (hx_ : S0_.2.2.1 223 0 c_.toNat + S0_.2.2.1 224 0 c_.toNat ≤ 12) (hg_ : cgt c_ S0_) (ho_ : con c_ S0_) (hw_ : 0 ≤ w_ ∧ w_ ≤ 63) : sm_T (mt_P sc_) 2 517 (0, [some (.inr (.inr (some (13, 0)))), some (.inl c_), some (.inl w_), none], [], S0_) (fun ro9_ => ∃ u_ S1_, ro9_ = (.inl u_, S1_, 0) ∧ vq_517n c_ w_ S0_ u_ S1_) := by
  have hF_ : ai_fr (sx_W vw_517n) S0_ S0_ := ai_fr_rf
  refine sm_T_go 6 (c1 := (6, [some (.inr (.inr (some (13, 0)))), some (.inl c_), some (.inl w_), none], [.inr (.inl 0), .inl (-1), .inl (-1), .inl w_, .inl c_, .inr (.inr (some (13, 0)))], S0_)) rfl ?_
  refine sm_T_cal (d1 := 1) (Q1 := vq_430f c_ w_ (-1) (-1) 0 S0_) rfl rfl (by decide) (vc_430f c_ w_ (-1) (-1) 0 S0_ hI_ (by exact hc_) (by exact hw_) (by exact hx_) (by exact hg_)) (fun u_ Sx1_ px4_ => ?_)
  obtain ⟨rfl, hIx2_, hFx3_, px4_⟩ := px4_
  have hFx5_ : ai_fr (sx_W vw_517n) S0_ Sx1_ := ai_fr_tr hF_ (fr_le hFx3_ rfl)
  have v6_ : ∀ i9_ : Nat, i9_ < 64 → rcvq c_ S0_ (64 * w_.toNat + i9_) (fun n_ => lbt (Sx1_.2.2.2 238 0 n_) i9_) := fun i9_ hi9_ => (cvf_0 (by omega) (by omega)).mp (px4_ i9_ hi9_)
  refine sm_T_go 2 (c1 := (11, [some (.inr (.inr (some (13, 0)))), some (.inl c_), some (.inl w_), some (.inl 0)], [], Sx1_)) rfl ?_
  refine (vl_517n c_ w_ S0_ hc_ hx_ hg_ ho_ hw_ _).1 0 Sx1_ hIx2_ hFx5_ ⟨?_, ?_, ?_, trivial⟩ (Nat.lt_succ_self _)
  · omega
  · exact v6_
  · (intro k9_ hk9_; exfalso; omega)
