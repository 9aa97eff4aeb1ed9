/-! 99.zs4 -/
section
/-! the reference: tests; written by wip/p55/gen/vg -/

/-! the_ reference: tests -/
theorem lbz {x_ : Int} (h_ : lcn x_) (z_ : ∀ j_ : Nat, j_ < 64 → l_3 (l_s2 x_ (j_ : Int)) 1 = 0) : x_ = 0 := by
  have p_ : ∀ j_, j_ < 64 → (Int64.ofInt x_).toBitVec.getLsbD j_ = false := by
    intro j_ hj_
    have q_ := z_ j_ hj_
    unfold l_3 l_s2 at q_
    rw [Int64.ofInt_toInt] at q_
    generalize Int64.ofInt x_ = a_ at q_ ⊢
    have m_ : ((Int32.ofInt ((j_ : Nat) : Int)).toInt64.toUInt64 &&& Int64.toUInt64 63).toNat = j_ := by
      have c_ : ∀ i_ : Fin 64, ((Int32.ofInt ((i_.val : Nat) : Int)).toInt64.toUInt64 &&& Int64.toUInt64 63).toNat = i_.val := by decide +kernel
      exact c_ ⟨j_, hj_⟩
    generalize (Int32.ofInt ((j_ : Nat) : Int)).toInt64.toUInt64 &&& Int64.toUInt64 63 = s_ at q_ m_
    have r_ : ((a_.toUInt64 >>> s_).toInt64 &&& Int64.ofInt 1) = 0 := Int64.toInt_inj.mp q_
    have r2_ : (a_.toUInt64 >>> s_).toBitVec &&& 1#64 = 0#64 := by
      have e_ : ((a_.toUInt64 >>> s_).toInt64 &&& Int64.ofInt 1).toBitVec = 0#64 := by rw [r_]; rfl
      exact e_
    have t_ := congrArg (fun b_ => b_.getLsbD 0) r2_
    simp only [BitVec.getLsbD_and] at t_
    have u_ : (a_.toUInt64 >>> s_).toBitVec.getLsbD 0 = false := by simpa using t_
    have v_ : (a_.toUInt64 >>> s_).toBitVec.getLsbD 0 = (a_.toUInt64 >>> s_).toNat.testBit 0 := rfl
    rw [v_, UInt64.toNat_shiftRight, m_, Nat.mod_eq_of_lt hj_, Nat.testBit_shiftRight, Nat.add_zero] at u_
    exact u_
  have p3_ : (Int64.ofInt x_).toBitVec = 0 := by
    apply BitVec.eq_of_getLsbD_eq
    intro i_ hi_
    rw [p_ i_ hi_]
    simp
  have p4_ : Int64.ofInt x_ = 0 := Int64.toBitVec_inj.mp p3_
  have h2_ : (Int64.ofInt x_).toInt = x_ := h_
  rw [← h2_, p4_]
  rfl
theorem lcn_i (X_ : Int64) : lcn X_.toInt := by
  unfold lcn
  rw [Int64.ofInt_toInt]
theorem lcmp_0 {x_ : Int} : sm_lcmp x_ 0 = 0 ↔ x_ = 0 := by
  unfold sm_lcmp
  split
  · rename_i h_
    exact ⟨fun z_ => absurd z_ (by decide), fun z_ => by omega⟩
  · split
    · rename_i h_
      exact ⟨fun _ => h_, fun _ => rfl⟩
    · rename_i h_
      exact ⟨fun z_ => absurd z_ (by decide), fun z_ => absurd z_ h_⟩
/-- how_ many inputs the_ gates have; how_ many faults there are_ -/
def gis (c_ : Int) (S_ : sm_S) (g_ : Nat) : Nat := (S_.2.2.1 234 0 (12 * c_ + S_.2.2.1 229 0 (150 * c_ + (g_ : Int)).toNat).toNat).toNat
def fco (c_ : Int) (S_ : sm_S) : Int := 2 * (S_.2.2.1 223 0 c_.toNat + S_.2.2.1 224 0 c_.toNat + S_.2.2.1 228 0 c_.toNat) + 2 * (sn9 (gis c_ S_) (S_.2.2.1 228 0 c_.toNat).toNat : Int)
theorem gis_fr {w_ : sx_Wl} {c_ : Int} {S_ S'_ : sm_S} (g_ : ai_fr (sx_W w_) S_ S'_) (r_ : rwf w_ = true := by rfl) : gis c_ S'_ = gis c_ S_ := by
  funext k_
  unfold gis
  rw [fr_arr g_ (rwf_0 r_ (t_ := 234) rfl), fr_arr g_ (rwf_0 r_ (t_ := 229) rfl)]
theorem fco_fr {w_ : sx_Wl} {c_ : Int} {S_ S'_ : sm_S} (g_ : ai_fr (sx_W w_) S_ S'_) (r_ : rwf w_ = true := by rfl) : fco c_ S'_ = fco c_ S_ := by
  unfold fco
  rw [gis_fr g_ r_, fr_arr g_ (rwf_0 r_ (t_ := 223) rfl), fr_arr g_ (rwf_0 r_ (t_ := 224) rfl), fr_arr g_ (rwf_0 r_ (t_ := 228) rfl)]
theorem fco_b {c_ : Int} {S_ : sm_S} (hI_ : gi S_) (h_ : S_.2.2.1 223 0 c_.toNat + S_.2.2.1 224 0 c_.toNat ≤ 12) : 0 ≤ fco c_ S_ ∧ fco c_ S_ ≤ 1224 := by
  have a_ : 0 ≤ S_.2.2.1 223 0 c_.toNat := (hI_.2 223 0 _).1
  have b_ : 0 ≤ S_.2.2.1 224 0 c_.toNat := (hI_.2 224 0 _).1
  have d_ : 0 ≤ S_.2.2.1 228 0 c_.toNat ∧ S_.2.2.1 228 0 c_.toNat ≤ 150 := hI_.2 228 0 _
  have e_ := sn9_b (g_ := gis c_ S_) (M_ := 3) (fun k_ => by
    unfold gis
    have q_ : S_.2.2.1 234 0 (12 * c_ + S_.2.2.1 229 0 (150 * c_ + (k_ : Int)).toNat).toNat ≤ 3 := (hI_.2 234 0 _).2
    omega) (S_.2.2.1 228 0 c_.toNat).toNat
  unfold fco
  omega
/-! M_.faultCount -/
def vw_514 : sx_Wl := ([], [], [])
def vq_514 (c_ : Int) (S0_ : sm_S) (u_ : Option sm_V) (S1_ : sm_S) : Prop := S0_ = S1_ ∧ ∃ v_ : Int, u_ = some (.inl v_) ∧ (v_ = fco c_ S0_ ∧ 0 ≤ v_ ∧ v_ ≤ 1224)
set_option maxHeartbeats 400000 in
set_option maxRecDepth 20000 in
theorem vl_514 {sc_ : Nat × (Nat → Int)} (c_ : Int) (S0_ : sm_S) (hc_ : 0 ≤ c_ ∧ c_ ≤ 3) (hx_ : S0_.2.2.1 223 0 c_.toNat + S0_.2.2.1 224 0 c_.toNat ≤ 12) : ∀ nn_ : Nat, (∀ (n_ : Int) (g_ : Int) (S_ : sm_S), gi S_ → ai_fr (sx_W vw_514) S0_ S_ → ((0 ≤ g_ ∧ g_ ≤ S0_.2.2.1 228 0 c_.toNat) ∧ (n_ = 2 * (S0_.2.2.1 223 0 c_.toNat + S0_.2.2.1 224 0 c_.toNat + S0_.2.2.1 228 0 c_.toNat) + 2 * (sn9 (gis c_ S0_) g_.toNat : Int)) ∧ (S_ = S0_) ∧ True) → ((500 - g_).toNat) < nn_ → sm_T (mt_P sc_) 1 514 (10, [some (.inr (.inr (some (13, 0)))), some (.inl c_), some (.inl n_), some (.inl g_)], [], S_) (fun ro9_ => ∃ u_ S1_, ro9_ = (.inl u_, S1_, 0) ∧ vq_514 c_ S0_ u_ S1_)) := by
  intro nn_
  induction nn_ with
  | zero => exact fun _ _ _ _ _ _ h_ => absurd h_ (Nat.not_lt_zero _)
  | succ nn_ ih_ =>
    rintro n_ g_ S_ hI_ hF_ ⟨h0_, h1_, hS_, -⟩ hm_
    subst hS_
    have cA_ : 0 ≤ S_.2.2.1 223 0 c_.toNat ∧ S_.2.2.1 223 0 c_.toNat ≤ 12 := hI_.2 223 0 _
    have cB_ : 0 ≤ S_.2.2.1 224 0 c_.toNat ∧ S_.2.2.1 224 0 c_.toNat ≤ 6 := hI_.2 224 0 _
    have cG_ : 0 ≤ S_.2.2.1 228 0 c_.toNat ∧ S_.2.2.1 228 0 c_.toNat ≤ 150 := hI_.2 228 0 _
    have fb9_ := fco_b hI_ hx_
    have m9_ := sn9_m (gis c_ S_) (n_ := g_.toNat) (m_ := (S_.2.2.1 228 0 c_.toNat).toNat) (by omega)
    have u9_ : fco c_ S_ = 2 * (S_.2.2.1 223 0 c_.toNat + S_.2.2.1 224 0 c_.toNat + S_.2.2.1 228 0 c_.toNat) + 2 * (sn9 (gis c_ S_) (S_.2.2.1 228 0 c_.toNat).toNat : Int) := rfl
    refine sm_T_go 4 (c1 := (16, [some (.inr (.inr (some (13, 0)))), some (.inl c_), some (.inl n_), some (.inl g_)], [.inl c_, .inr (.inr (some (228, 0))), .inl g_], S_)) rfl ?_
    refine sm_T_iald (n := 4) rfl rfl (by omega) (by omega) ?_
    have bx1_ : 0 ≤ S_.2.2.1 228 0 c_.toNat ∧ S_.2.2.1 228 0 c_.toNat ≤ 150 := hI_.2 228 0 _
    refine sm_T_br (a := 3) (z := 25) rfl (fun cx2_ => ?_) (fun cx2_ => ?_)
    · have cx2_ : (S_.2.2.1 228 0 c_.toNat) ≤ g_ := of_decide_eq_true cx2_
      refine sm_T_go 1 (c1 := (43, [some (.inr (.inr (some (13, 0)))), some (.inl c_), some (.inl n_), some (.inl g_)], [.inl n_], S_)) rfl ?_
      refine sm_T_ri rfl ⟨_, _, rfl, (by first | rfl | exact hS_.symm), _, rfl, ?_⟩
      have z9_ : g_ = S_.2.2.1 228 0 c_.toNat := by omega
      rw [← z9_] at u9_
      exact ⟨by omega, by omega, by omega⟩
    · have cx2_ : ¬ ((S_.2.2.1 228 0 c_.toNat) ≤ g_) := of_decide_eq_false cx2_
      have q9_ : (gis c_ S_ g_.toNat : Int) = S_.2.2.1 234 0 (12 * c_ + S_.2.2.1 229 0 (150 * c_ + g_).toNat).toNat := by (unfold gis; rw [show ((g_.toNat : Nat) : Int) = g_ by omega]; have w9_ : 0 ≤ S_.2.2.1 234 0 (12 * c_ + S_.2.2.1 229 0 (150 * c_ + g_).toNat).toNat := (hI_.2 234 0 _).1; omega)
      have s9_ := sn9_s (gis c_ S_) g_.toNat
      have T9_ : (g_ + 1).toNat = g_.toNat + 1 := by omega
      have m8_ := sn9_m (gis c_ S_) (n_ := g_.toNat + 1) (m_ := (S_.2.2.1 228 0 c_.toNat).toNat) (by omega)
      refine sm_T_go 7 (c1 := (29, [some (.inr (.inr (some (13, 0)))), some (.inl c_), some (.inl n_), some (.inl g_)], [.inl g_, .inl c_, .inr (.inr (some (13, 0))), .inr (.inr (some (234, 0))), .inl 2, .inl n_], S_)) rfl ?_
      refine sm_T_cal (d1 := 0) (Q1 := vq_421 c_ g_ S_) rfl rfl (by decide) (vc_421 c_ g_ S_ hI_ (by omega) (by omega)) (fun u_ Sx3_ px6_ => ?_)
      obtain ⟨rfl, vx8_, rfl, px6_⟩ := px6_
      have e29_ := px6_
      refine sm_T_iald (n := 48) rfl rfl (by omega) (by omega) ?_
      have bx9_ : 0 ≤ S_.2.2.1 234 0 vx8_.toNat ∧ S_.2.2.1 234 0 vx8_.toNat ≤ 3 := hI_.2 234 0 _
      refine sm_T_bin (w := 2 * (S_.2.2.1 234 0 vx8_.toNat)) rfl (bi_mul (by omega) (by omega) (by omega)) ?_ -- pc_ 33
      refine sm_T_bin (w := n_ + 2 * (S_.2.2.1 234 0 vx8_.toNat)) rfl (bi_add (by omega) (by omega) (by omega)) ?_ -- pc_ 34
      refine sm_T_go 1 (c1 := (36, [some (.inr (.inr (some (13, 0)))), some (.inl c_), some (.inl (n_ + 2 * (S_.2.2.1 234 0 vx8_.toNat))), some (.inl g_)], [], S_)) rfl ?_
      refine sm_T_inc (a := 3) (z := 1) (v := g_) (w := g_ + 1) rfl rfl (by omega) (by omega) (by omega) ?_ -- pc_ 36
      refine sm_T_go 1 (c1 := (10, [some (.inr (.inr (some (13, 0)))), some (.inl c_), some (.inl (n_ + 2 * (S_.2.2.1 234 0 vx8_.toNat))), some (.inl (g_ + 1))], [], S_)) rfl ?_
      refine ih_ (n_ + 2 * (S_.2.2.1 234 0 vx8_.toNat)) (g_ + 1) S_ hI_ hF_ ⟨?_, ?_, ?_, trivial⟩ ?_
      · omega
      · (rw [T9_, s9_]; rw [← e29_.2] at q9_; push_cast; omega)
      · rfl
      · omega
set_option maxHeartbeats 400000 in
set_option maxRecDepth 20000 in
theorem vc_514 {sc_ : Nat × (Nat → Int)} (c_ : Int) (S0_ : sm_S) (hI_ : gi S0_) (hc_ : 0 ≤ c_ ∧ c_ ≤ 3) (hx_ : S0_.2.2.1 223 0 c_.toNat + S0_.2.2.1 224 0 c_.toNat ≤ 12) : sm_T (mt_P sc_) 1 514 (0, [some (.inr (.inr (some (13, 0)))), some (.inl c_), none, none], [], S0_) (fun ro9_ => ∃ u_ S1_, ro9_ = (.inl u_, S1_, 0) ∧ vq_514 c_ S0_ u_ S1_) := by
  have hF_ : ai_fr (sx_W vw_514) S0_ S0_ := ai_fr_rf
  refine sm_T_go 3 (c1 := (3, [some (.inr (.inr (some (13, 0)))), some (.inl c_), none, none], [.inl c_, .inr (.inr (some (13, 0))), .inl 2], S0_)) rfl ?_
  refine sm_T_cal (d1 := 0) (Q1 := vq_422 c_ S0_) rfl rfl (by decide) (vc_422 c_ S0_ hI_ (by omega)) (fun u_ Sx1_ px4_ => ?_)
  obtain ⟨rfl, vx6_, rfl, px4_⟩ := px4_
  have e3_ := px4_
  refine sm_T_bin (w := 2 * vx6_) rfl (bi_mul (by omega) (by omega) (by omega)) ?_ -- pc_ 6
  refine sm_T_go 3 (c1 := (10, [some (.inr (.inr (some (13, 0)))), some (.inl c_), some (.inl (2 * vx6_)), some (.inl 0)], [], S0_)) rfl ?_
  refine (vl_514 c_ S0_ hc_ hx_ _) (2 * vx6_) 0 S0_ hI_ hF_ ⟨?_, ?_, ?_, trivial⟩ (Nat.lt_succ_self _)
  · (have q3_ : 0 ≤ S0_.2.2.1 228 0 c_.toNat := (hI_.2 228 0 _).1; omega)
  · (rw [show (0 : Int).toNat = 0 from rfl]; show _ = _ + 2 * ((0 : Nat) : Int); omega)
  · rfl
/-! M_.findFault -/
def vw_515 : sx_Wl := ([(13, 221), (13, 222)], [], [])
def vq_515 (c_ : Int) (f_ : Int) (S0_ : sm_S) (u_ : Option sm_V) (S1_ : sm_S) : Prop := u_ = none ∧ gi S1_ ∧ ai_fr (sx_W vw_515) S0_ S1_ ∧ (True)
set_option maxHeartbeats 1000000 in
set_option maxRecDepth 20000 in
theorem vl_515 {sc_ : Nat × (Nat → Int)} (c_ : Int) (f_ : Int) (S0_ : sm_S) (hc_ : 0 ≤ c_ ∧ c_ ≤ 3) (hx_ : S0_.2.2.1 223 0 c_.toNat + S0_.2.2.1 224 0 c_.toNat ≤ 12) (hf_ : 0 ≤ f_ ∧ f_ < fco c_ S0_) : ∀ nn_ : Nat, (∀ (l_ : Int) (g_ : Int) (S_ : sm_S), gi S_ → ai_fr (sx_W vw_515) S0_ S_ → ((0 ≤ g_ ∧ 0 ≤ l_ ∧ l_ ≤ 2000) ∧ (l_ + (sn9 (gis c_ S0_) g_.toNat : Int) < (sn9 (gis c_ S0_) (S0_.2.2.1 228 0 c_.toNat).toNat : Int)) ∧ True) → ((500 - g_).toNat) < nn_ → sm_T (mt_P sc_) 1 515 (40, [some (.inr (.inr (some (13, 0)))), some (.inl c_), some (.inl f_), some (.inl l_), some (.inl g_)], [], S_) (fun ro9_ => ∃ u_ S1_, ro9_ = (.inl u_, S1_, 0) ∧ vq_515 c_ f_ S0_ u_ S1_)) := by
  intro nn_
  induction nn_ with
  | zero => exact fun _ _ _ _ _ _ h_ => absurd h_ (Nat.not_lt_zero _)
  | succ nn_ ih_ =>
    rintro l_ g_ S_ hI_ hF_ ⟨h0_, h1_, -⟩ hm_
    have f228_ : S_.2.2.1 228 0 = S0_.2.2.1 228 0 := fr_arr hF_ rfl
    have f229_ : S_.2.2.1 229 0 = S0_.2.2.1 229 0 := fr_arr hF_ rfl
    have f234_ : S_.2.2.1 234 0 = S0_.2.2.1 234 0 := fr_arr hF_ rfl
    have x228_ : S_.2.2.1 228 0 c_.toNat = S0_.2.2.1 228 0 c_.toNat := congrFun f228_ _
    have cA_ : 0 ≤ S_.2.2.1 223 0 c_.toNat ∧ S_.2.2.1 223 0 c_.toNat ≤ 12 := hI_.2 223 0 _
    have cB_ : 0 ≤ S_.2.2.1 224 0 c_.toNat ∧ S_.2.2.1 224 0 c_.toNat ≤ 6 := hI_.2 224 0 _
    have cG_ : 0 ≤ S_.2.2.1 228 0 c_.toNat ∧ S_.2.2.1 228 0 c_.toNat ≤ 150 := hI_.2 228 0 _
    have g9_ : g_ < S0_.2.2.1 228 0 c_.toNat := by (by_cases y9_ : S0_.2.2.1 228 0 c_.toNat ≤ g_; (exfalso; have m9_ := sn9_m (gis c_ S0_) (n_ := (S0_.2.2.1 228 0 c_.toNat).toNat) (m_ := g_.toNat) (by omega); omega); omega)
    have q9_ : (gis c_ S0_ g_.toNat : Int) = S_.2.2.1 234 0 (12 * c_ + S_.2.2.1 229 0 (150 * c_ + g_).toNat).toNat := by (unfold gis; rw [show ((g_.toNat : Nat) : Int) = g_ by omega, f234_, f229_]; have w9_ : 0 ≤ S_.2.2.1 234 0 (12 * c_ + S_.2.2.1 229 0 (150 * c_ + g_).toNat).toNat := (hI_.2 234 0 _).1; rw [f234_, f229_] at w9_; omega)
    have s9_ := sn9_s (gis c_ S0_) g_.toNat
    have T9_ : (g_ + 1).toNat = g_.toNat + 1 := by omega
    refine sm_T_go 6 (c1 := (49, [some (.inr (.inr (some (13, 0)))), some (.inl c_), some (.inl f_), some (.inl l_), some (.inl g_)], [.inl g_, .inl c_, .inr (.inr (some (13, 0))), .inr (.inr (some (234, 0))), .inl l_], S_)) rfl ?_
    refine sm_T_cal (d1 := 0) (Q1 := vq_421 c_ g_ S_) rfl rfl (by decide) (vc_421 c_ g_ S_ hI_ (by omega) (by omega)) (fun u_ Sx1_ px4_ => ?_)
    obtain ⟨rfl, vx6_, rfl, px4_⟩ := px4_
    have e49_ := px4_
    rw [← e49_.2] at q9_
    refine sm_T_iald (n := 48) rfl rfl (by omega) (by omega) ?_
    have bx7_ : 0 ≤ S_.2.2.1 234 0 vx6_.toNat ∧ S_.2.2.1 234 0 vx6_.toNat ≤ 3 := hI_.2 234 0 _
    refine sm_T_br (a := 2) (z := 24) rfl (fun cx8_ => ?_) (fun cx8_ => ?_)
    · have cx8_ : l_ < (S_.2.2.1 234 0 vx6_.toNat) := of_decide_eq_true cx8_
      refine sm_T_go 3 (c1 := (81, [some (.inr (.inr (some (13, 0)))), some (.inl c_), some (.inl f_), some (.inl l_), some (.inl g_)], [.inl g_, .inl 3, .inr (.inr (some (13, 0)))], S_)) rfl ?_
      refine sm_T_bin (w := 3 * g_) rfl (bi_mul (by omega) (by omega) (by omega)) ?_ -- pc_ 81
      refine sm_T_go 1 (c1 := (83, [some (.inr (.inr (some (13, 0)))), some (.inl c_), some (.inl f_), some (.inl l_), some (.inl g_)], [.inl l_, .inl (3 * g_), .inr (.inr (some (13, 0)))], S_)) rfl ?_
      refine sm_T_bin (w := 3 * g_ + l_) rfl (bi_add (by omega) (by omega) (by omega)) ?_ -- pc_ 83
      have hIx9_ : gi (sm_pI S_ 13 0 222 (3 * g_ + l_)) := gi_pI hI_ (show (-1) ≤ 3 * g_ + l_ ∧ 3 * g_ + l_ ≤ 460 from ⟨by omega, by omega⟩)
      have hFx10_ : ai_fr (sx_W vw_515) S0_ (sm_pI S_ 13 0 222 (3 * g_ + l_)) := ai_fr_tr hF_ (ai_fr_pI rfl)
      refine sm_T_go 1 (c1 := (87, [some (.inr (.inr (some (13, 0)))), some (.inl c_), some (.inl f_), some (.inl l_), some (.inl g_)], [], sm_pI S_ 13 0 222 (3 * g_ + l_))) rfl ?_
      refine sm_T_rv rfl ⟨_, _, rfl, rfl, hIx9_, hFx10_, ?_⟩
      trivial
    · have cx8_ : ¬ (l_ < (S_.2.2.1 234 0 vx6_.toNat)) := of_decide_eq_false cx8_
      refine sm_T_go 6 (c1 := (65, [some (.inr (.inr (some (13, 0)))), some (.inl c_), some (.inl f_), some (.inl l_), some (.inl g_)], [.inl g_, .inl c_, .inr (.inr (some (13, 0))), .inr (.inr (some (234, 0))), .inl l_], S_)) rfl ?_
      refine sm_T_cal (d1 := 0) (Q1 := vq_421 c_ g_ S_) rfl rfl (by decide) (vc_421 c_ g_ S_ hI_ (by omega) (by omega)) (fun u_ Sx11_ px14_ => ?_)
      obtain ⟨rfl, vx16_, rfl, px14_⟩ := px14_
      have e65_ := px14_
      refine sm_T_iald (n := 48) rfl rfl (by omega) (by omega) ?_
      have bx17_ : 0 ≤ S_.2.2.1 234 0 vx16_.toNat ∧ S_.2.2.1 234 0 vx16_.toNat ≤ 3 := hI_.2 234 0 _
      refine sm_T_bin (w := l_ - (S_.2.2.1 234 0 vx16_.toNat)) rfl (bi_sub (by omega) (by omega) (by omega)) ?_ -- pc_ 69
      refine sm_T_go 1 (c1 := (71, [some (.inr (.inr (some (13, 0)))), some (.inl c_), some (.inl f_), some (.inl (l_ - (S_.2.2.1 234 0 vx16_.toNat))), some (.inl g_)], [], S_)) rfl ?_
      refine sm_T_inc (a := 4) (z := 1) (v := g_) (w := g_ + 1) rfl rfl (by omega) (by omega) (by omega) ?_ -- pc_ 71
      refine sm_T_go 1 (c1 := (40, [some (.inr (.inr (some (13, 0)))), some (.inl c_), some (.inl f_), some (.inl (l_ - (S_.2.2.1 234 0 vx16_.toNat))), some (.inl (g_ + 1))], [], S_)) rfl ?_
      refine ih_ (l_ - (S_.2.2.1 234 0 vx16_.toNat)) (g_ + 1) S_ hI_ hF_ ⟨?_, ?_, trivial⟩ ?_
      · (have z9_ := e65_.2.trans e49_.2.symm; subst z9_; omega)
      · (have z9_ := e65_.2.trans e49_.2.symm; subst z9_; rw [T9_, s9_]; push_cast; omega)
      · omega
set_option maxHeartbeats 1000000 in
set_option maxRecDepth 20000 in
theorem vc_515 {sc_ : Nat × (Nat → Int)} (c_ : Int) (f_ : Int) (S0_ : sm_S) (hI_ : gi S0_) (hc_ : 0 ≤ c_ ∧ c_ ≤ 3) (hx_ : S0_.2.2.1 223 0 c_.toNat + S0_.2.2.1 224 0 c_.toNat ≤ 12) (hf_ : 0 ≤ f_ ∧ f_ < fco c_ S0_) : sm_T (mt_P sc_) 1 515 (0, [some (.inr (.inr (some (13, 0)))), some (.inl c_), some (.inl f_), none, none], [], S0_) (fun ro9_ => ∃ u_ S1_, ro9_ = (.inl u_, S1_, 0) ∧ vq_515 c_ f_ S0_ u_ S1_) := by
  have hF_ : ai_fr (sx_W vw_515) S0_ S0_ := ai_fr_rf
  have cA_ : 0 ≤ S0_.2.2.1 223 0 c_.toNat ∧ S0_.2.2.1 223 0 c_.toNat ≤ 12 := hI_.2 223 0 _
  have cB_ : 0 ≤ S0_.2.2.1 224 0 c_.toNat ∧ S0_.2.2.1 224 0 c_.toNat ≤ 6 := hI_.2 224 0 _
  have cG_ : 0 ≤ S0_.2.2.1 228 0 c_.toNat ∧ S0_.2.2.1 228 0 c_.toNat ≤ 150 := hI_.2 228 0 _
  have u9_ : fco c_ S0_ = 2 * (S0_.2.2.1 223 0 c_.toNat + S0_.2.2.1 224 0 c_.toNat + S0_.2.2.1 228 0 c_.toNat) + 2 * (sn9 (gis c_ S0_) (S0_.2.2.1 228 0 c_.toNat).toNat : Int) := rfl
  have fb9_ := fco_b hI_ hx_
  refine sm_T_go 2 (c1 := (2, [some (.inr (.inr (some (13, 0)))), some (.inl c_), some (.inl f_), none, none], [.inl 2, .inl f_], S0_)) rfl ?_
  refine sm_T_bin (w := (f_ / 2)) rfl (bi_div (by omega) (by omega) (by omega) (by omega)) ?_ -- pc_ 2
  have hIx1_ : gi (sm_pI S0_ 13 0 221 (-1)) := gi_pI hI_ (show (-1) ≤ (-1) ∧ (-1) ≤ 161 from ⟨by omega, by omega⟩)
  have hFx2_ : ai_fr (sx_W vw_515) S0_ (sm_pI S0_ 13 0 221 (-1)) := ai_fr_tr hF_ (ai_fr_pI rfl)
  have hIx3_ : gi (sm_pI (sm_pI S0_ 13 0 221 (-1)) 13 0 222 (-1)) := gi_pI hIx1_ (show (-1) ≤ (-1) ∧ (-1) ≤ 460 from ⟨by omega, by omega⟩)
  have hFx4_ : ai_fr (sx_W vw_515) S0_ (sm_pI (sm_pI S0_ 13 0 221 (-1)) 13 0 222 (-1)) := ai_fr_tr hFx2_ (ai_fr_pI rfl)
  refine sm_T_go 10 (c1 := (17, [some (.inr (.inr (some (13, 0)))), some (.inl c_), some (.inl f_), some (.inl (f_ / 2)), none], [.inl c_, .inr (.inr (some (13, 0))), .inl (f_ / 2)], sm_pI (sm_pI S0_ 13 0 221 (-1)) 13 0 222 (-1))) rfl ?_
  refine sm_T_cal (d1 := 0) (Q1 := vq_422 c_ (sm_pI (sm_pI S0_ 13 0 221 (-1)) 13 0 222 (-1))) rfl rfl (by decide) (vc_422 c_ (sm_pI (sm_pI S0_ 13 0 221 (-1)) 13 0 222 (-1)) hIx3_ (by omega)) (fun u_ Sx5_ px8_ => ?_)
  obtain ⟨rfl, vx10_, rfl, px8_⟩ := px8_
  have e17_ : (0 ≤ vx10_ ∧ vx10_ ≤ 168) ∧ vx10_ = S0_.2.2.1 223 0 c_.toNat + S0_.2.2.1 224 0 c_.toNat + S0_.2.2.1 228 0 c_.toNat := px8_
  refine sm_T_br (a := 3) (z := 9) rfl (fun cx11_ => ?_) (fun cx11_ => ?_)
  · have cx11_ : vx10_ ≤ (f_ / 2) := of_decide_eq_true cx11_
    refine sm_T_go 3 (c1 := (32, [some (.inr (.inr (some (13, 0)))), some (.inl c_), some (.inl f_), some (.inl (f_ / 2)), none], [.inl c_, .inr (.inr (some (13, 0))), .inl (f_ / 2)], sm_pI (sm_pI S0_ 13 0 221 (-1)) 13 0 222 (-1))) rfl ?_
    refine sm_T_cal (d1 := 0) (Q1 := vq_422 c_ (sm_pI (sm_pI S0_ 13 0 221 (-1)) 13 0 222 (-1))) rfl rfl (by decide) (vc_422 c_ (sm_pI (sm_pI S0_ 13 0 221 (-1)) 13 0 222 (-1)) hIx3_ (by omega)) (fun u_ Sx12_ px15_ => ?_)
    obtain ⟨rfl, vx17_, rfl, px15_⟩ := px15_
    have e32_ : (0 ≤ vx17_ ∧ vx17_ ≤ 168) ∧ vx17_ = S0_.2.2.1 223 0 c_.toNat + S0_.2.2.1 224 0 c_.toNat + S0_.2.2.1 228 0 c_.toNat := px15_
    refine sm_T_bin (w := (f_ / 2) - vx17_) rfl (bi_sub (by omega) (by omega) (by omega)) ?_ -- pc_ 35
    refine sm_T_go 3 (c1 := (40, [some (.inr (.inr (some (13, 0)))), some (.inl c_), some (.inl f_), some (.inl ((f_ / 2) - vx17_)), some (.inl 0)], [], sm_pI (sm_pI S0_ 13 0 221 (-1)) 13 0 222 (-1))) rfl ?_
    refine (vl_515 c_ f_ S0_ hc_ hx_ hf_ _) ((f_ / 2) - vx17_) 0 (sm_pI (sm_pI S0_ 13 0 221 (-1)) 13 0 222 (-1)) hIx3_ hFx4_ ⟨?_, ?_, trivial⟩ (Nat.lt_succ_self _)
    · ((try simp only [rd_eq, rd_ne, rf_eq, rf_nk, rf_nt, rd_fa, rd_af, rd_fl, rd_al, rd_lf, rd_la, rd_leq, rd_lne, rd_fr, rd_ar, ne_eq, Nat.reduceEqDiff, not_false_eq_true] at *); omega)
    · (rw [show (0 : Int).toNat = 0 from rfl]; show _ + ((0 : Nat) : Int) < _; (try simp only [rd_eq, rd_ne, rf_eq, rf_nk, rf_nt, rd_fa, rd_af, rd_fl, rd_al, rd_lf, rd_la, rd_leq, rd_lne, rd_fr, rd_ar, ne_eq, Nat.reduceEqDiff, not_false_eq_true] at *); omega)
  · have cx11_ : ¬ (vx10_ ≤ (f_ / 2)) := of_decide_eq_false cx11_
    have hIx18_ : gi (sm_pI (sm_pI (sm_pI S0_ 13 0 221 (-1)) 13 0 222 (-1)) 13 0 221 (f_ / 2)) := gi_pI hIx3_ (show (-1) ≤ (f_ / 2) ∧ (f_ / 2) ≤ 161 from ⟨by omega, by omega⟩)
    have hFx19_ : ai_fr (sx_W vw_515) S0_ (sm_pI (sm_pI (sm_pI S0_ 13 0 221 (-1)) 13 0 222 (-1)) 13 0 221 (f_ / 2)) := ai_fr_tr hFx4_ (ai_fr_pI rfl)
    refine sm_T_go 3 (c1 := (28, [some (.inr (.inr (some (13, 0)))), some (.inl c_), some (.inl f_), some (.inl (f_ / 2)), none], [], sm_pI (sm_pI (sm_pI S0_ 13 0 221 (-1)) 13 0 222 (-1)) 13 0 221 (f_ / 2))) rfl ?_
    refine sm_T_rv rfl ⟨_, _, rfl, rfl, hIx18_, hFx19_, ?_⟩
    trivial
/-! M_.wordOfEnd -/
def vw_516 : sx_Wl := ([], [], [])
def vq_516 (n_ : Int) (S0_ : sm_S) (u_ : Option sm_V) (S1_ : sm_S) : Prop := S0_ = S1_ ∧ ∃ v_ : Int, u_ = some (.inr (.inl v_)) ∧ (True)
set_option maxHeartbeats 400000 in
set_option maxRecDepth 20000 in
theorem vc_516 {sc_ : Nat × (Nat → Int)} (n_ : Int) (S0_ : sm_S) (hI_ : gi S0_) (hn_ : -2 ≤ n_ ∧ n_ ≤ 255) : sm_T (mt_P sc_) 0 516 (0, [some (.inr (.inr (some (238, 0)))), some (.inl n_)], [], S0_) (fun ro9_ => ∃ u_ S1_, ro9_ = (.inl u_, S1_, 0) ∧ vq_516 n_ S0_ u_ S1_) := by
  have hF_ : ai_fr (sx_W vw_516) S0_ S0_ := ai_fr_rf
  refine sm_T_go 2 (c1 := (2, [some (.inr (.inr (some (238, 0)))), some (.inl n_)], [.inl (-1), .inl n_], S0_)) rfl ?_
  refine sm_T_br (a := 1) (z := 7) rfl (fun cx1_ => ?_) (fun cx1_ => ?_)
  · have cx1_ : n_ ≠ (-1) := of_decide_eq_true cx1_
    refine sm_T_go 2 (c1 := (12, [some (.inr (.inr (some (238, 0)))), some (.inl n_)], [.inl (-2), .inl n_], S0_)) rfl ?_
    refine sm_T_br (a := 1) (z := 9) rfl (fun cx2_ => ?_) (fun cx2_ => ?_)
    · have cx2_ : n_ ≠ (-2) := of_decide_eq_true cx2_
      refine sm_T_go 2 (c1 := (23, [some (.inr (.inr (some (238, 0)))), some (.inl n_)], [.inl n_, .inr (.inr (some (238, 0)))], S0_)) rfl ?_
      refine sm_T_lald (n := 256) rfl rfl (by omega) (by omega) ?_
      refine sm_T_rl rfl ⟨_, _, rfl, rfl, _, rfl, ?_⟩
      trivial
    · have cx2_ : ¬ (n_ ≠ (-2)) := of_decide_eq_false cx2_
      refine sm_T_nt (u := some (.inr (.inl (-1)))) (S1 := S0_) rfl rfl rfl ?_
      refine sm_T_go 1 (c1 := (24, [some (.inr (.inr (some (238, 0)))), some (.inl n_)], [.inr (.inl (-1))], S0_)) rfl ?_
      refine sm_T_rl rfl ⟨_, _, rfl, rfl, _, rfl, ?_⟩
      trivial
  · have cx1_ : ¬ (n_ ≠ (-1)) := of_decide_eq_false cx1_
    refine sm_T_go 2 (c1 := (24, [some (.inr (.inr (some (238, 0)))), some (.inl n_)], [.inr (.inl 0)], S0_)) rfl ?_
    refine sm_T_rl rfl ⟨_, _, rfl, rfl, _, rfl, ?_⟩
    trivial
/-! M_.layRight -/
def vw_517 : sx_Wl := ([], [238, 293], [])
def vq_517 (c_ : Int) (w_ : Int) (S0_ : sm_S) (u_ : Option sm_V) (S1_ : sm_S) : Prop := u_ = none ∧ gi S1_ ∧ ai_fr (sx_W vw_517) S0_ S1_ ∧ (True)
set_option maxHeartbeats 400000 in
set_option maxRecDepth 20000 in
theorem vl_517 {sc_ : Nat × (Nat → Int)} (c_ : Int) (w_ : Int) (S0_ : sm_S) (hc_ : 0 ≤ c_ ∧ c_ ≤ 3) (hx_ : S0_.2.2.1 223 0 c_.toNat + S0_.2.2.1 224 0 c_.toNat ≤ 12) (hg_ : cgt c_ S0_) (ho_ : con c_ S0_) (hw_ : 0 ≤ w_ ∧ w_ ≤ 63) : ∀ nn_ : Nat, (∀ (k_ : Int) (S_ : sm_S), gi S_ → ai_fr (sx_W vw_517) S0_ S_ → ((0 ≤ k_ ∧ k_ ≤ 16) ∧ True) → ((900 - k_).toNat) < nn_ → sm_T (mt_P sc_) 2 517 (11, [some (.inr (.inr (some (13, 0)))), some (.inl c_), some (.inl w_), some (.inl k_)], [], S_) (fun ro9_ => ∃ u_ S1_, ro9_ = (.inl u_, S1_, 0) ∧ vq_517 c_ w_ S0_ u_ S1_)) ∧ (∀ (k_ : Int) (S_ : sm_S), gi S_ → ai_fr (sx_W vw_517) S0_ S_ → ((0 ≤ k_ ∧ k_ ≤ 6) ∧ True) → ((500 - k_).toNat) < nn_ → sm_T (mt_P sc_) 2 517 (53, [some (.inr (.inr (some (13, 0)))), some (.inl c_), some (.inl w_), some (.inl k_)], [], S_) (fun ro9_ => ∃ u_ S1_, ro9_ = (.inl u_, S1_, 0) ∧ vq_517 c_ w_ S0_ u_ S1_)) := by
  intro nn_
  induction nn_ with
  | zero => exact ⟨fun _ _ _ _ _ h_ => absurd h_ (Nat.not_lt_zero _), fun _ _ _ _ _ h_ => absurd h_ (Nat.not_lt_zero _)⟩
  | succ nn_ ih_ =>
    refine ⟨?_, ?_⟩
    · rintro k_ S_ hI_ hF_ ⟨h0_, -⟩ hm_
      have f223_ : S_.2.2.1 223 0 = S0_.2.2.1 223 0 := fr_arr hF_ rfl
      have f224_ : S_.2.2.1 224 0 = S0_.2.2.1 224 0 := fr_arr hF_ rfl
      have f225_ : S_.2.2.1 225 0 = S0_.2.2.1 225 0 := fr_arr hF_ rfl
      have f228_ : S_.2.2.1 228 0 = S0_.2.2.1 228 0 := fr_arr hF_ rfl
      have x223_ : S_.2.2.1 223 0 c_.toNat = S0_.2.2.1 223 0 c_.toNat := congrFun f223_ _
      have x224_ : S_.2.2.1 224 0 c_.toNat = S0_.2.2.1 224 0 c_.toNat := congrFun f224_ _
      have x225_ : S_.2.2.1 225 0 c_.toNat = S0_.2.2.1 225 0 c_.toNat := congrFun f225_ _
      have x228_ : S_.2.2.1 228 0 c_.toNat = S0_.2.2.1 228 0 c_.toNat := congrFun f228_ _
      have cA_ : 0 ≤ S_.2.2.1 223 0 c_.toNat ∧ S_.2.2.1 223 0 c_.toNat ≤ 12 := hI_.2 223 0 _
      have cB_ : 0 ≤ S_.2.2.1 224 0 c_.toNat ∧ S_.2.2.1 224 0 c_.toNat ≤ 6 := hI_.2 224 0 _
      have cG_ : 0 ≤ S_.2.2.1 228 0 c_.toNat ∧ S_.2.2.1 228 0 c_.toNat ≤ 150 := hI_.2 228 0 _
      have ho9_ := con_fr hc_.1 hI_ ho_ hF_
      refine sm_T_go 4 (c1 := (17, [some (.inr (.inr (some (13, 0)))), some (.inl c_), some (.inl w_), some (.inl k_)], [.inl c_, .inr (.inr (some (225, 0))), .inl k_], S_)) rfl ?_
      refine sm_T_iald (n := 4) rfl rfl (by omega) (by omega) ?_
      have bx1_ : 0 ≤ S_.2.2.1 225 0 c_.toNat ∧ S_.2.2.1 225 0 c_.toNat ≤ 16 := hI_.2 225 0 _
      refine sm_T_br (a := 3) (z := 33) rfl (fun cx2_ => ?_) (fun cx2_ => ?_)
      · have cx2_ : (S_.2.2.1 225 0 c_.toNat) ≤ k_ := of_decide_eq_true cx2_
        refine sm_T_go 2 (c1 := (53, [some (.inr (.inr (some (13, 0)))), some (.inl c_), some (.inl w_), some (.inl 0)], [], S_)) rfl ?_
        refine ih_.2 0 S_ hI_ hF_ ⟨?_, trivial⟩ ?_
        · omega
        · omega
      · have cx2_ : ¬ ((S_.2.2.1 225 0 c_.toNat) ≤ k_) := of_decide_eq_false cx2_
        have o9_ := ho9_.1 k_ (by omega) (by omega)
        refine sm_T_go 9 (c1 := (37, [some (.inr (.inr (some (13, 0)))), some (.inl c_), some (.inl w_), some (.inl k_)], [.inl c_, .inl 16, .inr (.inr (some (231, 0))), .inr (.inr (some (238, 0))), .inl k_, .inr (.inr (some (293, 0)))], S_)) rfl ?_
        refine sm_T_bin (w := 16 * c_) rfl (bi_mul (by omega) (by omega) (by omega)) ?_ -- pc_ 37
        refine sm_T_go 1 (c1 := (39, [some (.inr (.inr (some (13, 0)))), some (.inl c_), some (.inl w_), some (.inl k_)], [.inl k_, .inl (16 * c_), .inr (.inr (some (231, 0))), .inr (.inr (some (238, 0))), .inl k_, .inr (.inr (some (293, 0)))], S_)) rfl ?_
        refine sm_T_bin (w := 16 * c_ + k_) rfl (bi_add (by omega) (by omega) (by omega)) ?_ -- pc_ 39
        refine sm_T_iald (n := 64) rfl rfl (by omega) (by omega) ?_
        have bx3_ : (-2) ≤ S_.2.2.1 231 0 (16 * c_ + k_).toNat ∧ S_.2.2.1 231 0 (16 * c_ + k_).toNat ≤ 9000 := hI_.2 231 0 _
        refine sm_T_cal (d1 := 0) (Q1 := vq_516 (S_.2.2.1 231 0 (16 * c_ + k_).toNat) S_) rfl rfl (by decide) (vc_516 (S_.2.2.1 231 0 (16 * c_ + k_).toNat) S_ hI_ (by omega)) (fun u_ Sx4_ px7_ => ?_)
        obtain ⟨rfl, vx9_, rfl, px7_⟩ := px7_
        refine sm_T_last (n := 32) rfl rfl (by omega) (by omega) ?_
        have hIx10_ : gi (sm_aL S_ 293 0 k_.toNat vx9_) := gi_aL hI_
        have hFx11_ : ai_fr (sx_W vw_517) S0_ (sm_aL S_ 293 0 k_.toNat vx9_) := ai_fr_tr hF_ (ai_fr_aL rfl)
        refine sm_T_inc (a := 3) (z := 1) (v := k_) (w := k_ + 1) rfl rfl (by omega) (by omega) (by omega) ?_ -- pc_ 45
        refine sm_T_go 1 (c1 := (11, [some (.inr (.inr (some (13, 0)))), some (.inl c_), some (.inl w_), some (.inl (k_ + 1))], [], sm_aL S_ 293 0 k_.toNat vx9_)) rfl ?_
        refine ih_.1 (k_ + 1) (sm_aL S_ 293 0 k_.toNat vx9_) hIx10_ hFx11_ ⟨?_, trivial⟩ ?_
        · omega
        · omega
    · rintro k_ S_ hI_ hF_ ⟨h0_, -⟩ hm_
      have f223_ : S_.2.2.1 223 0 = S0_.2.2.1 223 0 := fr_arr hF_ rfl
      have f224_ : S_.2.2.1 224 0 = S0_.2.2.1 224 0 := fr_arr hF_ rfl
      have f225_ : S_.2.2.1 225 0 = S0_.2.2.1 225 0 := fr_arr hF_ rfl
      have f228_ : S_.2.2.1 228 0 = S0_.2.2.1 228 0 := fr_arr hF_ rfl
      have x223_ : S_.2.2.1 223 0 c_.toNat = S0_.2.2.1 223 0 c_.toNat := congrFun f223_ _
      have x224_ : S_.2.2.1 224 0 c_.toNat = S0_.2.2.1 224 0 c_.toNat := congrFun f224_ _
      have x225_ : S_.2.2.1 225 0 c_.toNat = S0_.2.2.1 225 0 c_.toNat := congrFun f225_ _
      have x228_ : S_.2.2.1 228 0 c_.toNat = S0_.2.2.1 228 0 c_.toNat := congrFun f228_ _
      have cA_ : 0 ≤ S_.2.2.1 223 0 c_.toNat ∧ S_.2.2.1 223 0 c_.toNat ≤ 12 := hI_.2 223 0 _
      have cB_ : 0 ≤ S_.2.2.1 224 0 c_.toNat ∧ S_.2.2.1 224 0 c_.toNat ≤ 6 := hI_.2 224 0 _
      have cG_ : 0 ≤ S_.2.2.1 228 0 c_.toNat ∧ S_.2.2.1 228 0 c_.toNat ≤ 150 := hI_.2 228 0 _
      have ho9_ := con_fr hc_.1 hI_ ho_ hF_
      refine sm_T_go 4 (c1 := (59, [some (.inr (.inr (some (13, 0)))), some (.inl c_), some (.inl w_), some (.inl k_)], [.inl c_, .inr (.inr (some (224, 0))), .inl k_], S_)) rfl ?_
      refine sm_T_iald (n := 4) rfl rfl (by omega) (by omega) ?_
      have bx1_ : 0 ≤ S_.2.2.1 224 0 c_.toNat ∧ S_.2.2.1 224 0 c_.toNat ≤ 6 := hI_.2 224 0 _
      refine sm_T_br (a := 3) (z := 36) rfl (fun cx2_ => ?_) (fun cx2_ => ?_)
      · have cx2_ : (S_.2.2.1 224 0 c_.toNat) ≤ k_ := of_decide_eq_true cx2_
        refine sm_T_rv rfl ⟨_, _, rfl, rfl, hI_, hF_, ?_⟩
        trivial
      · have cx2_ : ¬ ((S_.2.2.1 224 0 c_.toNat) ≤ k_) := of_decide_eq_false cx2_
        have o9_ := ho9_.2 k_ (by omega) (by omega)
        refine sm_T_go 4 (c1 := (70, [some (.inr (.inr (some (13, 0)))), some (.inl c_), some (.inl w_), some (.inl k_)], [.inl k_, .inl 16, .inr (.inr (some (293, 0)))], S_)) rfl ?_
        refine sm_T_bin (w := k_ + 16) rfl (bi_add (by omega) (by omega) (by omega)) ?_ -- pc_ 70
        refine sm_T_go 6 (c1 := (82, [some (.inr (.inr (some (13, 0)))), some (.inl c_), some (.inl w_), some (.inl k_)], [.inl c_, .inl 6, .inr (.inr (some (232, 0))), .inr (.inr (some (238, 0))), .inl (k_ + 16), .inr (.inr (some (293, 0)))], S_)) rfl ?_
        refine sm_T_bin (w := 6 * c_) rfl (bi_mul (by omega) (by omega) (by omega)) ?_ -- pc_ 82
        refine sm_T_go 1 (c1 := (84, [some (.inr (.inr (some (13, 0)))), some (.inl c_), some (.inl w_), some (.inl k_)], [.inl k_, .inl (6 * c_), .inr (.inr (some (232, 0))), .inr (.inr (some (238, 0))), .inl (k_ + 16), .inr (.inr (some (293, 0)))], S_)) rfl ?_
        refine sm_T_bin (w := 6 * c_ + k_) rfl (bi_add (by omega) (by omega) (by omega)) ?_ -- pc_ 84
        refine sm_T_iald (n := 24) rfl rfl (by omega) (by omega) ?_
        have bx3_ : (-2) ≤ S_.2.2.1 232 0 (6 * c_ + k_).toNat ∧ S_.2.2.1 232 0 (6 * c_ + k_).toNat ≤ 9000 := hI_.2 232 0 _
        refine sm_T_cal (d1 := 0) (Q1 := vq_516 (S_.2.2.1 232 0 (6 * c_ + k_).toNat) S_) rfl rfl (by decide) (vc_516 (S_.2.2.1 232 0 (6 * c_ + k_).toNat) S_ hI_ (by omega)) (fun u_ Sx4_ px7_ => ?_)
        obtain ⟨rfl, vx9_, rfl, px7_⟩ := px7_
        refine sm_T_last (n := 32) rfl rfl (by omega) (by omega) ?_
        have hIx10_ : gi (sm_aL S_ 293 0 (k_ + 16).toNat vx9_) := gi_aL hI_
        have hFx11_ : ai_fr (sx_W vw_517) S0_ (sm_aL S_ 293 0 (k_ + 16).toNat vx9_) := ai_fr_tr hF_ (ai_fr_aL rfl)
        refine sm_T_inc (a := 3) (z := 1) (v := k_) (w := k_ + 1) rfl rfl (by omega) (by omega) (by omega) ?_ -- pc_ 90
        refine sm_T_go 1 (c1 := (53, [some (.inr (.inr (some (13, 0)))), some (.inl c_), some (.inl w_), some (.inl (k_ + 1))], [], sm_aL S_ 293 0 (k_ + 16).toNat vx9_)) rfl ?_
        refine ih_.2 (k_ + 1) (sm_aL S_ 293 0 (k_ + 16).toNat vx9_) hIx10_ hFx11_ ⟨?_, trivial⟩ ?_
        · omega
        · omega
set_option maxHeartbeats 400000 in
set_option maxRecDepth 20000 in
theorem vc_517 {sc_ : Nat × (Nat → Int)} (c_ : Int) (w_ : Int) (S0_ : sm_S) (hI_ : gi S0_) (hc_ : 0 ≤ c_ ∧ c_ ≤ 3) (hx_ : S0_.2.2.1 223 0 c_.toNat + S0_.2.2.1 224 0 c_.toNat ≤ 12) (hg_ : cgt c_ S0_) (ho_ : con c_ S0_) (hw_ : 0 ≤ w_ ∧ w_ ≤ 63) : sm_T (mt_P sc_) 2 517 (0, [some (.inr (.inr (some (13, 0)))), some (.inl c_), some (.inl w_), none], [], S0_) (fun ro9_ => ∃ u_ S1_, ro9_ = (.inl u_, S1_, 0) ∧ vq_517 c_ w_ S0_ u_ S1_) := by
  have hF_ : ai_fr (sx_W vw_517) S0_ S0_ := ai_fr_rf
  refine sm_T_go 6 (c1 := (6, [some (.inr (.inr (some (13, 0)))), some (.inl c_), some (.inl w_), none], [.inr (.inl 0), .inl (-1), .inl (-1), .inl w_, .inl c_, .inr (.inr (some (13, 0)))], S0_)) rfl ?_
  refine sm_T_cal (d1 := 1) (Q1 := vq_430 c_ w_ (-1) (-1) 0 S0_) rfl rfl (by decide) (vc_430 c_ w_ (-1) (-1) 0 S0_ hI_ (by exact hc_) (by exact hw_) (by exact hx_) (by exact hg_)) (fun u_ Sx1_ px4_ => ?_)
  obtain ⟨rfl, hIx2_, hFx3_, px4_⟩ := px4_
  have hFx5_ : ai_fr (sx_W vw_517) S0_ Sx1_ := ai_fr_tr hF_ (fr_le hFx3_ rfl)
  refine sm_T_go 2 (c1 := (11, [some (.inr (.inr (some (13, 0)))), some (.inl c_), some (.inl w_), some (.inl 0)], [], Sx1_)) rfl ?_
  refine (vl_517 c_ w_ S0_ hc_ hx_ hg_ ho_ hw_ _).1 0 Sx1_ hIx2_ hFx5_ ⟨?_, trivial⟩ (Nat.lt_succ_self _)
  · omega
/-! M_.shownWord -/
def vw_518 : sx_Wl := ([(13, 221), (13, 222)], [238], [])
def vq_518 (c_ : Int) (w_ : Int) (f_ : Int) (S0_ : sm_S) (u_ : Option sm_V) (S1_ : sm_S) : Prop := ∃ v_ : Int, u_ = some (.inr (.inl v_)) ∧ gi S1_ ∧ ai_fr (sx_W vw_518) S0_ S1_ ∧ (lcn v_)
set_option maxHeartbeats 400000 in
set_option maxRecDepth 20000 in
theorem vl_518 {sc_ : Nat × (Nat → Int)} (c_ : Int) (w_ : Int) (f_ : Int) (S0_ : sm_S) (hc_ : 0 ≤ c_ ∧ c_ ≤ 3) (hx_ : S0_.2.2.1 223 0 c_.toNat + S0_.2.2.1 224 0 c_.toNat ≤ 12) (hg_ : cgt c_ S0_) (ho_ : con c_ S0_) (hw_ : 0 ≤ w_ ∧ w_ ≤ 63) (hf_ : 0 ≤ f_ ∧ f_ < fco c_ S0_) : ∀ nn_ : Nat, (∀ (lt_ : Int) (k_ : Int) (S_ : sm_S), gi S_ → ai_fr (sx_W vw_518) S0_ S_ → ((0 ≤ k_ ∧ k_ ≤ 16) ∧ (lcn lt_) ∧ True) → ((900 - k_).toNat) < nn_ → sm_T (mt_P sc_) 2 518 (40, [some (.inr (.inr (some (13, 0)))), some (.inl c_), some (.inl w_), some (.inl f_), some (.inr (.inl lt_)), none, some (.inl k_)], [], S_) (fun ro9_ => ∃ u_ S1_, ro9_ = (.inl u_, S1_, 0) ∧ vq_518 c_ w_ f_ S0_ u_ S1_)) ∧ (∀ (lt_ : Int) (k_ : Int) (S_ : sm_S), gi S_ → ai_fr (sx_W vw_518) S0_ S_ → ((0 ≤ k_ ∧ k_ ≤ 6) ∧ (lcn lt_) ∧ True) → ((500 - k_).toNat) < nn_ → sm_T (mt_P sc_) 2 518 (92, [some (.inr (.inr (some (13, 0)))), some (.inl c_), some (.inl w_), some (.inl f_), some (.inr (.inl lt_)), none, some (.inl k_)], [], S_) (fun ro9_ => ∃ u_ S1_, ro9_ = (.inl u_, S1_, 0) ∧ vq_518 c_ w_ f_ S0_ u_ S1_)) := by
  intro nn_
  induction nn_ with
  | zero => exact ⟨fun _ _ _ _ _ _ h_ => absurd h_ (Nat.not_lt_zero _), fun _ _ _ _ _ _ h_ => absurd h_ (Nat.not_lt_zero _)⟩
  | succ nn_ ih_ =>
    refine ⟨?_, ?_⟩
    · rintro lt_ k_ S_ hI_ hF_ ⟨h0_, hl_, -⟩ hm_
      have f223_ : S_.2.2.1 223 0 = S0_.2.2.1 223 0 := fr_arr hF_ rfl
      have f224_ : S_.2.2.1 224 0 = S0_.2.2.1 224 0 := fr_arr hF_ rfl
      have f225_ : S_.2.2.1 225 0 = S0_.2.2.1 225 0 := fr_arr hF_ rfl
      have f228_ : S_.2.2.1 228 0 = S0_.2.2.1 228 0 := fr_arr hF_ rfl
      have x223_ : S_.2.2.1 223 0 c_.toNat = S0_.2.2.1 223 0 c_.toNat := congrFun f223_ _
      have x224_ : S_.2.2.1 224 0 c_.toNat = S0_.2.2.1 224 0 c_.toNat := congrFun f224_ _
      have x225_ : S_.2.2.1 225 0 c_.toNat = S0_.2.2.1 225 0 c_.toNat := congrFun f225_ _
      have x228_ : S_.2.2.1 228 0 c_.toNat = S0_.2.2.1 228 0 c_.toNat := congrFun f228_ _
      have cA_ : 0 ≤ S_.2.2.1 223 0 c_.toNat ∧ S_.2.2.1 223 0 c_.toNat ≤ 12 := hI_.2 223 0 _
      have cB_ : 0 ≤ S_.2.2.1 224 0 c_.toNat ∧ S_.2.2.1 224 0 c_.toNat ≤ 6 := hI_.2 224 0 _
      have cG_ : 0 ≤ S_.2.2.1 228 0 c_.toNat ∧ S_.2.2.1 228 0 c_.toNat ≤ 150 := hI_.2 228 0 _
      have ho9_ := con_fr hc_.1 hI_ ho_ hF_
      refine sm_T_go 4 (c1 := (47, [some (.inr (.inr (some (13, 0)))), some (.inl c_), some (.inl w_), some (.inl f_), some (.inr (.inl lt_)), none, some (.inl k_)], [.inl c_, .inr (.inr (some (225, 0))), .inl k_], S_)) rfl ?_
      refine sm_T_iald (n := 4) rfl rfl (by omega) (by omega) ?_
      have bx1_ : 0 ≤ S_.2.2.1 225 0 c_.toNat ∧ S_.2.2.1 225 0 c_.toNat ≤ 16 := hI_.2 225 0 _
      refine sm_T_br (a := 3) (z := 41) rfl (fun cx2_ => ?_) (fun cx2_ => ?_)
      · have cx2_ : (S_.2.2.1 225 0 c_.toNat) ≤ k_ := of_decide_eq_true cx2_
        refine sm_T_go 2 (c1 := (92, [some (.inr (.inr (some (13, 0)))), some (.inl c_), some (.inl w_), some (.inl f_), some (.inr (.inl lt_)), none, some (.inl 0)], [], S_)) rfl ?_
        refine ih_.2 lt_ 0 S_ hI_ hF_ ⟨?_, ?_, trivial⟩ ?_
        · omega
        · first | exact hl_ | exact lcn_i _
        · omega
      · have cx2_ : ¬ ((S_.2.2.1 225 0 c_.toNat) ≤ k_) := of_decide_eq_false cx2_
        have o9_ := ho9_.1 k_ (by omega) (by omega)
        refine sm_T_go 4 (c1 := (59, [some (.inr (.inr (some (13, 0)))), some (.inl c_), some (.inl w_), some (.inl f_), some (.inr (.inl lt_)), none, some (.inl k_)], [.inl k_, .inr (.inr (some (293, 0))), .inr (.inl lt_)], S_)) rfl ?_
        refine sm_T_lald (n := 32) rfl rfl (by omega) (by omega) ?_
        refine sm_T_go 6 (c1 := (71, [some (.inr (.inr (some (13, 0)))), some (.inl c_), some (.inl w_), some (.inl f_), some (.inr (.inl lt_)), none, some (.inl k_)], [.inl c_, .inl 16, .inr (.inr (some (231, 0))), .inr (.inr (some (238, 0))), .inr (.inl (S_.2.2.2 293 0 k_.toNat)), .inr (.inl lt_)], S_)) rfl ?_
        refine sm_T_bin (w := 16 * c_) rfl (bi_mul (by omega) (by omega) (by omega)) ?_ -- pc_ 71
        refine sm_T_go 1 (c1 := (74, [some (.inr (.inr (some (13, 0)))), some (.inl c_), some (.inl w_), some (.inl f_), some (.inr (.inl lt_)), none, some (.inl k_)], [.inl k_, .inl (16 * c_), .inr (.inr (some (231, 0))), .inr (.inr (some (238, 0))), .inr (.inl (S_.2.2.2 293 0 k_.toNat)), .inr (.inl lt_)], S_)) rfl ?_
        refine sm_T_bin (w := 16 * c_ + k_) rfl (bi_add (by omega) (by omega) (by omega)) ?_ -- pc_ 74
        refine sm_T_iald (n := 64) rfl rfl (by omega) (by omega) ?_
        have bx3_ : (-2) ≤ S_.2.2.1 231 0 (16 * c_ + k_).toNat ∧ S_.2.2.1 231 0 (16 * c_ + k_).toNat ≤ 9000 := hI_.2 231 0 _
        refine sm_T_cal (d1 := 0) (Q1 := vq_516 (S_.2.2.1 231 0 (16 * c_ + k_).toNat) S_) rfl rfl (by decide) (vc_516 (S_.2.2.1 231 0 (16 * c_ + k_).toNat) S_ hI_ (by omega)) (fun u_ Sx4_ px7_ => ?_)
        obtain ⟨rfl, vx9_, rfl, px7_⟩ := px7_
        refine sm_T_go 3 (c1 := (83, [some (.inr (.inr (some (13, 0)))), some (.inl c_), some (.inl w_), some (.inl f_), some (.inr (.inl (l_4 lt_ ((l_5 ((S_.2.2.2 293 0 k_.toNat)) vx9_))))), none, some (.inl k_)], [], S_)) rfl ?_
        refine sm_T_inc (a := 6) (z := 1) (v := k_) (w := k_ + 1) rfl rfl (by omega) (by omega) (by omega) ?_ -- pc_ 83
        refine sm_T_go 1 (c1 := (40, [some (.inr (.inr (some (13, 0)))), some (.inl c_), some (.inl w_), some (.inl f_), some (.inr (.inl (l_4 lt_ ((l_5 ((S_.2.2.2 293 0 k_.toNat)) vx9_))))), none, some (.inl (k_ + 1))], [], S_)) rfl ?_
        refine ih_.1 ((l_4 lt_ ((l_5 ((S_.2.2.2 293 0 k_.toNat)) vx9_)))) (k_ + 1) S_ hI_ hF_ ⟨?_, ?_, trivial⟩ ?_
        · omega
        · first | exact hl_ | exact lcn_i _
        · omega
    · rintro lt_ k_ S_ hI_ hF_ ⟨h0_, hl_, -⟩ hm_
      have f223_ : S_.2.2.1 223 0 = S0_.2.2.1 223 0 := fr_arr hF_ rfl
      have f224_ : S_.2.2.1 224 0 = S0_.2.2.1 224 0 := fr_arr hF_ rfl
      have f225_ : S_.2.2.1 225 0 = S0_.2.2.1 225 0 := fr_arr hF_ rfl
      have f228_ : S_.2.2.1 228 0 = S0_.2.2.1 228 0 := fr_arr hF_ rfl
      have x223_ : S_.2.2.1 223 0 c_.toNat = S0_.2.2.1 223 0 c_.toNat := congrFun f223_ _
      have x224_ : S_.2.2.1 224 0 c_.toNat = S0_.2.2.1 224 0 c_.toNat := congrFun f224_ _
      have x225_ : S_.2.2.1 225 0 c_.toNat = S0_.2.2.1 225 0 c_.toNat := congrFun f225_ _
      have x228_ : S_.2.2.1 228 0 c_.toNat = S0_.2.2.1 228 0 c_.toNat := congrFun f228_ _
      have cA_ : 0 ≤ S_.2.2.1 223 0 c_.toNat ∧ S_.2.2.1 223 0 c_.toNat ≤ 12 := hI_.2 223 0 _
      have cB_ : 0 ≤ S_.2.2.1 224 0 c_.toNat ∧ S_.2.2.1 224 0 c_.toNat ≤ 6 := hI_.2 224 0 _
      have cG_ : 0 ≤ S_.2.2.1 228 0 c_.toNat ∧ S_.2.2.1 228 0 c_.toNat ≤ 150 := hI_.2 228 0 _
      have ho9_ := con_fr hc_.1 hI_ ho_ hF_
      refine sm_T_go 4 (c1 := (99, [some (.inr (.inr (some (13, 0)))), some (.inl c_), some (.inl w_), some (.inl f_), some (.inr (.inl lt_)), none, some (.inl k_)], [.inl c_, .inr (.inr (some (224, 0))), .inl k_], S_)) rfl ?_
      refine sm_T_iald (n := 4) rfl rfl (by omega) (by omega) ?_
      have bx1_ : 0 ≤ S_.2.2.1 224 0 c_.toNat ∧ S_.2.2.1 224 0 c_.toNat ≤ 6 := hI_.2 224 0 _
      refine sm_T_br (a := 3) (z := 44) rfl (fun cx2_ => ?_) (fun cx2_ => ?_)
      · have cx2_ : (S_.2.2.1 224 0 c_.toNat) ≤ k_ := of_decide_eq_true cx2_
        refine sm_T_go 3 (c1 := (149, [some (.inr (.inr (some (13, 0)))), some (.inl c_), some (.inl w_), some (.inl f_), some (.inr (.inl lt_)), none, some (.inl k_)], [.inl c_, .inr (.inr (some (223, 0)))], S_)) rfl ?_
        refine sm_T_iald (n := 4) rfl rfl (by omega) (by omega) ?_
        have bx3_ : 0 ≤ S_.2.2.1 223 0 c_.toNat ∧ S_.2.2.1 223 0 c_.toNat ≤ 12 := hI_.2 223 0 _
        refine sm_T_go 3 (c1 := (155, [some (.inr (.inr (some (13, 0)))), some (.inl c_), some (.inl w_), some (.inl f_), some (.inr (.inl lt_)), none, some (.inl k_)], [.inl c_, .inr (.inr (some (224, 0))), .inl (S_.2.2.1 223 0 c_.toNat)], S_)) rfl ?_
        refine sm_T_iald (n := 4) rfl rfl (by omega) (by omega) ?_
        refine sm_T_bin (w := (S_.2.2.1 223 0 c_.toNat) + (S_.2.2.1 224 0 c_.toNat)) rfl (bi_add (by omega) (by omega) (by omega)) ?_ -- pc_ 156
        refine sm_T_go 3 (c1 := (163, [some (.inr (.inr (some (13, 0)))), some (.inl c_), some (.inl w_), some (.inl f_), some (.inr (.inl lt_)), none, some (.inl ((S_.2.2.1 223 0 c_.toNat) + (S_.2.2.1 224 0 c_.toNat)))], [.inl 6, .inl ((S_.2.2.1 223 0 c_.toNat) + (S_.2.2.1 224 0 c_.toNat))], S_)) rfl ?_
        refine sm_T_br (a := 3) (z := 17) rfl (fun cx4_ => ?_) (fun cx4_ => ?_)
        · have cx4_ : 6 ≤ (S_.2.2.1 223 0 c_.toNat) + (S_.2.2.1 224 0 c_.toNat) := of_decide_eq_true cx4_
          refine sm_T_go 1 (c1 := (182, [some (.inr (.inr (some (13, 0)))), some (.inl c_), some (.inl w_), some (.inl f_), some (.inr (.inl lt_)), none, some (.inl ((S_.2.2.1 223 0 c_.toNat) + (S_.2.2.1 224 0 c_.toNat)))], [.inr (.inl lt_)], S_)) rfl ?_
          refine sm_T_rl rfl ⟨_, _, rfl, _, rfl, hI_, hF_, ?_⟩
          first | exact hl_ | exact lcn_i _
        · have cx4_ : ¬ (6 ≤ (S_.2.2.1 223 0 c_.toNat) + (S_.2.2.1 224 0 c_.toNat)) := of_decide_eq_false cx4_
          refine sm_T_go 4 (c1 := (172, [some (.inr (.inr (some (13, 0)))), some (.inl c_), some (.inl w_), some (.inl f_), some (.inr (.inl lt_)), none, some (.inl ((S_.2.2.1 223 0 c_.toNat) + (S_.2.2.1 224 0 c_.toNat)))], [.inl ((S_.2.2.1 223 0 c_.toNat) + (S_.2.2.1 224 0 c_.toNat)), .inl 1, .inr (.inl 1), .inr (.inl lt_)], S_)) rfl ?_
          refine sm_T_bin (w := (i_shl 1 ((S_.2.2.1 223 0 c_.toNat) + (S_.2.2.1 224 0 c_.toNat)))) rfl rfl ?_ -- pc_ 172
          refine sm_T_go 5 (c1 := (182, [some (.inr (.inr (some (13, 0)))), some (.inl c_), some (.inl w_), some (.inl f_), some (.inr (.inl lt_)), none, some (.inl ((S_.2.2.1 223 0 c_.toNat) + (S_.2.2.1 224 0 c_.toNat)))], [.inr (.inl (l_3 lt_ ((l_1 ((l_s0 1 (i_shl 1 ((S_.2.2.1 223 0 c_.toNat) + (S_.2.2.1 224 0 c_.toNat))))) 1))))], S_)) rfl ?_
          refine sm_T_rl rfl ⟨_, _, rfl, _, rfl, hI_, hF_, ?_⟩
          first | exact hl_ | exact lcn_i _
      · have cx2_ : ¬ ((S_.2.2.1 224 0 c_.toNat) ≤ k_) := of_decide_eq_false cx2_
        have o9_ := ho9_.2 k_ (by omega) (by omega)
        refine sm_T_go 5 (c1 := (113, [some (.inr (.inr (some (13, 0)))), some (.inl c_), some (.inl w_), some (.inl f_), some (.inr (.inl lt_)), none, some (.inl k_)], [.inl k_, .inl 16, .inr (.inr (some (293, 0))), .inr (.inl lt_)], S_)) rfl ?_
        refine sm_T_bin (w := k_ + 16) rfl (bi_add (by omega) (by omega) (by omega)) ?_ -- pc_ 113
        refine sm_T_lald (n := 32) rfl rfl (by omega) (by omega) ?_
        refine sm_T_go 6 (c1 := (126, [some (.inr (.inr (some (13, 0)))), some (.inl c_), some (.inl w_), some (.inl f_), some (.inr (.inl lt_)), none, some (.inl k_)], [.inl c_, .inl 6, .inr (.inr (some (232, 0))), .inr (.inr (some (238, 0))), .inr (.inl (S_.2.2.2 293 0 (k_ + 16).toNat)), .inr (.inl lt_)], S_)) rfl ?_
        refine sm_T_bin (w := 6 * c_) rfl (bi_mul (by omega) (by omega) (by omega)) ?_ -- pc_ 126
        refine sm_T_go 1 (c1 := (129, [some (.inr (.inr (some (13, 0)))), some (.inl c_), some (.inl w_), some (.inl f_), some (.inr (.inl lt_)), none, some (.inl k_)], [.inl k_, .inl (6 * c_), .inr (.inr (some (232, 0))), .inr (.inr (some (238, 0))), .inr (.inl (S_.2.2.2 293 0 (k_ + 16).toNat)), .inr (.inl lt_)], S_)) rfl ?_
        refine sm_T_bin (w := 6 * c_ + k_) rfl (bi_add (by omega) (by omega) (by omega)) ?_ -- pc_ 129
        refine sm_T_iald (n := 24) rfl rfl (by omega) (by omega) ?_
        have bx5_ : (-2) ≤ S_.2.2.1 232 0 (6 * c_ + k_).toNat ∧ S_.2.2.1 232 0 (6 * c_ + k_).toNat ≤ 9000 := hI_.2 232 0 _
        refine sm_T_cal (d1 := 0) (Q1 := vq_516 (S_.2.2.1 232 0 (6 * c_ + k_).toNat) S_) rfl rfl (by decide) (vc_516 (S_.2.2.1 232 0 (6 * c_ + k_).toNat) S_ hI_ (by omega)) (fun u_ Sx6_ px9_ => ?_)
        obtain ⟨rfl, vx11_, rfl, px9_⟩ := px9_
        refine sm_T_go 3 (c1 := (138, [some (.inr (.inr (some (13, 0)))), some (.inl c_), some (.inl w_), some (.inl f_), some (.inr (.inl (l_4 lt_ ((l_5 ((S_.2.2.2 293 0 (k_ + 16).toNat)) vx11_))))), none, some (.inl k_)], [], S_)) rfl ?_
        refine sm_T_inc (a := 6) (z := 1) (v := k_) (w := k_ + 1) rfl rfl (by omega) (by omega) (by omega) ?_ -- pc_ 138
        refine sm_T_go 1 (c1 := (92, [some (.inr (.inr (some (13, 0)))), some (.inl c_), some (.inl w_), some (.inl f_), some (.inr (.inl (l_4 lt_ ((l_5 ((S_.2.2.2 293 0 (k_ + 16).toNat)) vx11_))))), none, some (.inl (k_ + 1))], [], S_)) rfl ?_
        refine ih_.2 ((l_4 lt_ ((l_5 ((S_.2.2.2 293 0 (k_ + 16).toNat)) vx11_)))) (k_ + 1) S_ hI_ hF_ ⟨?_, ?_, trivial⟩ ?_
        · omega
        · first | exact hl_ | exact lcn_i _
        · omega
set_option maxHeartbeats 400000 in
set_option maxRecDepth 20000 in
theorem vc_518 {sc_ : Nat × (Nat → Int)} (c_ : Int) (w_ : Int) (f_ : Int) (S0_ : sm_S) (hI_ : gi S0_) (hc_ : 0 ≤ c_ ∧ c_ ≤ 3) (hx_ : S0_.2.2.1 223 0 c_.toNat + S0_.2.2.1 224 0 c_.toNat ≤ 12) (hg_ : cgt c_ S0_) (ho_ : con c_ S0_) (hw_ : 0 ≤ w_ ∧ w_ ≤ 63) (hf_ : 0 ≤ f_ ∧ f_ < fco c_ S0_) : sm_T (mt_P sc_) 2 518 (0, [some (.inr (.inr (some (13, 0)))), some (.inl c_), some (.inl w_), some (.inl f_), none, none, none], [], S0_) (fun ro9_ => ∃ u_ S1_, ro9_ = (.inl u_, S1_, 0) ∧ vq_518 c_ w_ f_ S0_ u_ S1_) := by
  have hF_ : ai_fr (sx_W vw_518) S0_ S0_ := ai_fr_rf
  refine sm_T_go 3 (c1 := (3, [some (.inr (.inr (some (13, 0)))), some (.inl c_), some (.inl w_), some (.inl f_), none, none, none], [.inl f_, .inl c_, .inr (.inr (some (13, 0)))], S0_)) rfl ?_
  refine sm_T_cal (d1 := 1) (Q1 := vq_515 c_ f_ S0_) rfl rfl (by decide) (vc_515 c_ f_ S0_ hI_ (by exact hc_) (by exact hx_) (by exact hf_)) (fun u_ Sx1_ px4_ => ?_)
  obtain ⟨rfl, hIx2_, hFx3_, px4_⟩ := px4_
  have hFx5_ : ai_fr (sx_W vw_518) S0_ Sx1_ := ai_fr_tr hF_ (fr_le hFx3_ rfl)
  have y223_ : Sx1_.2.2.1 223 0 c_.toNat = S0_.2.2.1 223 0 c_.toNat := congrFun (fr_arr hFx3_ rfl) _
  have y224_ : Sx1_.2.2.1 224 0 c_.toNat = S0_.2.2.1 224 0 c_.toNat := congrFun (fr_arr hFx3_ rfl) _
  have bx6_ : (-1) ≤ Sx1_.1 13 0 221 ∧ Sx1_.1 13 0 221 ≤ 161 := hIx2_.1 13 0 221 rfl
  have bx7_ : (-1) ≤ Sx1_.1 13 0 222 ∧ Sx1_.1 13 0 222 ≤ 460 := hIx2_.1 13 0 222 rfl
  refine sm_T_go 9 (c1 := (19, [some (.inr (.inr (some (13, 0)))), some (.inl c_), some (.inl w_), some (.inl f_), none, none, none], [.inl 1, .inl f_, .inl (Sx1_.1 13 0 222), .inl (Sx1_.1 13 0 221), .inl w_, .inl c_, .inr (.inr (some (13, 0)))], Sx1_)) rfl ?_
  refine sm_T_bin (w := (f_ % 2)) rfl (bi_msk (k := 1) (by decide)) ?_ -- pc_ 19
  refine sm_T_go 1 (c1 := (21, [some (.inr (.inr (some (13, 0)))), some (.inl c_), some (.inl w_), some (.inl f_), none, none, none], [.inl 1, .inl (f_ % 2), .inl (Sx1_.1 13 0 222), .inl (Sx1_.1 13 0 221), .inl w_, .inl c_, .inr (.inr (some (13, 0)))], Sx1_)) rfl ?_
  refine sm_T_br (a := 1) (z := 9) rfl (fun cx8_ => ?_) (fun cx8_ => ?_)
  · have cx8_ : (f_ % 2) ≠ 1 := of_decide_eq_true cx8_
    refine sm_T_go 1 (c1 := (31, [some (.inr (.inr (some (13, 0)))), some (.inl c_), some (.inl w_), some (.inl f_), none, none, none], [.inr (.inl 0), .inl (Sx1_.1 13 0 222), .inl (Sx1_.1 13 0 221), .inl w_, .inl c_, .inr (.inr (some (13, 0)))], Sx1_)) rfl ?_
    refine sm_T_cal (d1 := 1) (Q1 := vq_430 c_ w_ (Sx1_.1 13 0 221) (Sx1_.1 13 0 222) 0 Sx1_) rfl rfl (by decide) (vc_430 c_ w_ (Sx1_.1 13 0 221) (Sx1_.1 13 0 222) 0 Sx1_ hIx2_ (by exact hc_) (by exact hw_) (by omega) (by exact cgt_fr hc_.1 hIx2_ hg_ hFx5_)) (fun u_ Sx9_ px12_ => ?_)
    obtain ⟨rfl, hIx10_, hFx11_, px12_⟩ := px12_
    have hFx13_ : ai_fr (sx_W vw_518) S0_ Sx9_ := ai_fr_tr hFx5_ (fr_le hFx11_ rfl)
    have ex14_ : Sx9_.1 13 0 221 = Sx1_.1 13 0 221 := hFx11_.1 13 0 221 rfl
    have ex15_ : Sx9_.1 13 0 222 = Sx1_.1 13 0 222 := hFx11_.1 13 0 222 rfl
    refine sm_T_go 4 (c1 := (40, [some (.inr (.inr (some (13, 0)))), some (.inl c_), some (.inl w_), some (.inl f_), some (.inr (.inl 0)), none, some (.inl 0)], [], Sx9_)) rfl ?_
    refine (vl_518 c_ w_ f_ S0_ hc_ hx_ hg_ ho_ hw_ hf_ _).1 0 0 Sx9_ hIx10_ hFx13_ ⟨?_, ?_, trivial⟩ (Nat.lt_succ_self _)
    · omega
    · exact lcn_i 0
  · have cx8_ : ¬ ((f_ % 2) ≠ 1) := of_decide_eq_false cx8_
    refine sm_T_nt (u := some (.inr (.inl (-1)))) (S1 := Sx1_) rfl rfl rfl ?_
    refine sm_T_go 1 (c1 := (31, [some (.inr (.inr (some (13, 0)))), some (.inl c_), some (.inl w_), some (.inl f_), none, none, none], [.inr (.inl (-1)), .inl (Sx1_.1 13 0 222), .inl (Sx1_.1 13 0 221), .inl w_, .inl c_, .inr (.inr (some (13, 0)))], Sx1_)) rfl ?_
    refine sm_T_cal (d1 := 1) (Q1 := vq_430 c_ w_ (Sx1_.1 13 0 221) (Sx1_.1 13 0 222) (-1) Sx1_) rfl rfl (by decide) (vc_430 c_ w_ (Sx1_.1 13 0 221) (Sx1_.1 13 0 222) (-1) Sx1_ hIx2_ (by exact hc_) (by exact hw_) (by omega) (by exact cgt_fr hc_.1 hIx2_ hg_ hFx5_)) (fun u_ Sx16_ px19_ => ?_)
    obtain ⟨rfl, hIx17_, hFx18_, px19_⟩ := px19_
    have hFx20_ : ai_fr (sx_W vw_518) S0_ Sx16_ := ai_fr_tr hFx5_ (fr_le hFx18_ rfl)
    have ex21_ : Sx16_.1 13 0 221 = Sx1_.1 13 0 221 := hFx18_.1 13 0 221 rfl
    have ex22_ : Sx16_.1 13 0 222 = Sx1_.1 13 0 222 := hFx18_.1 13 0 222 rfl
    refine sm_T_go 4 (c1 := (40, [some (.inr (.inr (some (13, 0)))), some (.inl c_), some (.inl w_), some (.inl f_), some (.inr (.inl 0)), none, some (.inl 0)], [], Sx16_)) rfl ?_
    refine (vl_518 c_ w_ f_ S0_ hc_ hx_ hg_ ho_ hw_ hf_ _).1 0 0 Sx16_ hIx17_ hFx20_ ⟨?_, ?_, trivial⟩ (Nat.lt_succ_self _)
    · omega
    · exact lcn_i 0
/-! M_.searchPattern -/
def vw_521 : sx_Wl := ([(13, 221), (13, 222)], [238, 293], [])
def vq_521 (c_ : Int) (f_ : Int) (S0_ : sm_S) (u_ : Option sm_V) (S1_ : sm_S) : Prop := ∃ v_ : Int, u_ = some (.inl v_) ∧ gi S1_ ∧ ai_fr (sx_W vw_521) S0_ S1_ ∧ (-1 ≤ v_ ∧ v_ ≤ 4095)
set_option maxHeartbeats 1000000 in
set_option maxRecDepth 20000 in
theorem vl_521 {sc_ : Nat × (Nat → Int)} (c_ : Int) (f_ : Int) (S0_ : sm_S) (hc_ : 0 ≤ c_ ∧ c_ ≤ 3) (hx_ : S0_.2.2.1 223 0 c_.toNat + S0_.2.2.1 224 0 c_.toNat ≤ 12) (hg_ : cgt c_ S0_) (ho_ : con c_ S0_) (hf_ : 0 ≤ f_ ∧ f_ < fco c_ S0_) : ∀ nn_ : Nat, (∀ (wo : Int) (w_ : Int) (S_ : sm_S), gi S_ → ai_fr (sx_W vw_521) S0_ S_ → ((0 ≤ w_ ∧ w_ ≤ wo ∧ wo ≤ 64) ∧ True) → ((100 * (500 - w_) + 90).toNat) < nn_ → sm_T (mt_P sc_) 3 521 (44, [some (.inr (.inr (some (13, 0)))), some (.inl c_), some (.inl f_), some (.inl wo), some (.inl w_), none, none, none], [], S_) (fun ro9_ => ∃ u_ S1_, ro9_ = (.inl u_, S1_, 0) ∧ vq_521 c_ f_ S0_ u_ S1_)) ∧ (∀ (wo : Int) (w_ : Int) (sh_ : Int) (k_ : Int) (S_ : sm_S), gi S_ → ai_fr (sx_W vw_521) S0_ S_ → ((0 ≤ w_ ∧ w_ < wo ∧ wo ≤ 64 ∧ 0 ≤ k_ ∧ k_ ≤ 63) ∧ (lcn sh_) ∧ (sh_ ≠ 0) ∧ (∀ j9_ : Nat, (j9_ : Int) < k_ → l_3 (l_s2 sh_ (j9_ : Int)) 1 = 0) ∧ True) → ((100 * (500 - w_) + 80 - k_).toNat) < nn_ → sm_T (mt_P sc_) 3 521 (77, [some (.inr (.inr (some (13, 0)))), some (.inl c_), some (.inl f_), some (.inl wo), some (.inl w_), some (.inr (.inl sh_)), none, some (.inl k_)], [], S_) (fun ro9_ => ∃ u_ S1_, ro9_ = (.inl u_, S1_, 0) ∧ vq_521 c_ f_ S0_ u_ S1_)) := by
  intro nn_
  induction nn_ with
  | zero => exact ⟨fun _ _ _ _ _ _ h_ => absurd h_ (Nat.not_lt_zero _), fun _ _ _ _ _ _ _ _ h_ => absurd h_ (Nat.not_lt_zero _)⟩
  | succ nn_ ih_ =>
    refine ⟨?_, ?_⟩
    · rintro wo w_ S_ hI_ hF_ ⟨h0_, -⟩ hm_
      have f223_ : S_.2.2.1 223 0 = S0_.2.2.1 223 0 := fr_arr hF_ rfl
      have f224_ : S_.2.2.1 224 0 = S0_.2.2.1 224 0 := fr_arr hF_ rfl
      have f225_ : S_.2.2.1 225 0 = S0_.2.2.1 225 0 := fr_arr hF_ rfl
      have f228_ : S_.2.2.1 228 0 = S0_.2.2.1 228 0 := fr_arr hF_ rfl
      have x223_ : S_.2.2.1 223 0 c_.toNat = S0_.2.2.1 223 0 c_.toNat := congrFun f223_ _
      have x224_ : S_.2.2.1 224 0 c_.toNat = S0_.2.2.1 224 0 c_.toNat := congrFun f224_ _
      have x225_ : S_.2.2.1 225 0 c_.toNat = S0_.2.2.1 225 0 c_.toNat := congrFun f225_ _
      have x228_ : S_.2.2.1 228 0 c_.toNat = S0_.2.2.1 228 0 c_.toNat := congrFun f228_ _
      have cA_ : 0 ≤ S_.2.2.1 223 0 c_.toNat ∧ S_.2.2.1 223 0 c_.toNat ≤ 12 := hI_.2 223 0 _
      have cB_ : 0 ≤ S_.2.2.1 224 0 c_.toNat ∧ S_.2.2.1 224 0 c_.toNat ≤ 6 := hI_.2 224 0 _
      have cG_ : 0 ≤ S_.2.2.1 228 0 c_.toNat ∧ S_.2.2.1 228 0 c_.toNat ≤ 150 := hI_.2 228 0 _
      have k4_ := cgt_fr hc_.1 hI_ hg_ hF_
      have k5_ := con_fr hc_.1 hI_ ho_ hF_
      have kf_ : fco c_ S_ = fco c_ S0_ := fco_fr hF_
      refine sm_T_go 2 (c1 := (47, [some (.inr (.inr (some (13, 0)))), some (.inl c_), some (.inl f_), some (.inl wo), some (.inl w_), none, none, none], [.inl wo, .inl w_], S_)) rfl ?_
      refine sm_T_br (a := 3) (z := 63) rfl (fun cx1_ => ?_) (fun cx1_ => ?_)
      · have cx1_ : wo ≤ w_ := of_decide_eq_true cx1_
        refine sm_T_go 1 (c1 := (111, [some (.inr (.inr (some (13, 0)))), some (.inl c_), some (.inl f_), some (.inl wo), some (.inl w_), none, none, none], [.inl (-1)], S_)) rfl ?_
        refine sm_T_ri rfl ⟨_, _, rfl, _, rfl, hI_, hF_, ?_⟩
        omega
      · have cx1_ : ¬ (wo ≤ w_) := of_decide_eq_false cx1_
        refine sm_T_go 3 (c1 := (54, [some (.inr (.inr (some (13, 0)))), some (.inl c_), some (.inl f_), some (.inl wo), some (.inl w_), none, none, none], [.inl w_, .inl c_, .inr (.inr (some (13, 0)))], S_)) rfl ?_
        refine sm_T_cal (d1 := 2) (Q1 := vq_517 c_ w_ S_) rfl rfl (by decide) (vc_517 c_ w_ S_ hI_ (by exact hc_) (by omega) (by exact k4_) (by exact k5_) (by omega)) (fun u_ Sx2_ px5_ => ?_)
        obtain ⟨rfl, hIx3_, hFx4_, px5_⟩ := px5_
        have hFx6_ : ai_fr (sx_W vw_521) S0_ Sx2_ := ai_fr_tr hF_ (fr_le hFx4_ rfl)
        have y223_ : Sx2_.2.2.1 223 0 c_.toNat = S_.2.2.1 223 0 c_.toNat := congrFun (fr_arr hFx4_ rfl) _
        have y224_ : Sx2_.2.2.1 224 0 c_.toNat = S_.2.2.1 224 0 c_.toNat := congrFun (fr_arr hFx4_ rfl) _
        refine sm_T_go 4 (c1 := (62, [some (.inr (.inr (some (13, 0)))), some (.inl c_), some (.inl f_), some (.inl wo), some (.inl w_), none, none, none], [.inl f_, .inl w_, .inl c_, .inr (.inr (some (13, 0)))], Sx2_)) rfl ?_
        refine sm_T_cal (d1 := 2) (Q1 := vq_518 c_ w_ f_ Sx2_) rfl rfl (by decide) (vc_518 c_ w_ f_ Sx2_ hIx3_ (by exact hc_) (by omega) (by exact cgt_fr hc_.1 hIx3_ hg_ hFx6_) (by exact con_fr hc_.1 hIx3_ ho_ hFx6_) (by omega) (by (rw [fco_fr hFx6_]; exact hf_))) (fun u_ Sx7_ px10_ => ?_)
        obtain ⟨vx12_, rfl, hIx8_, hFx9_, px10_⟩ := px10_
        have hFx11_ : ai_fr (sx_W vw_521) S0_ Sx7_ := ai_fr_tr hFx6_ (fr_le hFx9_ rfl)
        have e62_ := px10_
        refine sm_T_go 4 (c1 := (71, [some (.inr (.inr (some (13, 0)))), some (.inl c_), some (.inl f_), some (.inl wo), some (.inl w_), some (.inr (.inl vx12_)), none, none], [.inl (sm_lcmp vx12_ 0)], Sx7_)) rfl ?_
        refine sm_T_b0 (a := 0) (z := 33) rfl (fun cx13_ => ?_) (fun cx13_ => ?_)
        · have cx13_ : (sm_lcmp vx12_ 0) = 0 := of_decide_eq_true cx13_
          refine sm_T_inc (a := 4) (z := 1) (v := w_) (w := w_ + 1) rfl rfl (by omega) (by omega) (by omega) ?_ -- pc_ 104
          refine sm_T_go 1 (c1 := (44, [some (.inr (.inr (some (13, 0)))), some (.inl c_), some (.inl f_), some (.inl wo), some (.inl (w_ + 1)), some (.inr (.inl vx12_)), none, none], [], Sx7_)) rfl ?_
          refine sm_T_wk [some (.inr (.inr (some (13, 0)))), some (.inl c_), some (.inl f_), some (.inl wo), some (.inl (w_ + 1)), none, none, none] (by exact ⟨rfl, rfl, rfl, rfl, rfl, trivial⟩) ?_
          refine ih_.1 wo (w_ + 1) Sx7_ hIx8_ hFx11_ ⟨?_, trivial⟩ ?_
          · omega
          · omega
        · have cx13_ : ¬ ((sm_lcmp vx12_ 0) = 0) := of_decide_eq_false cx13_
          have z71_ := fun q9_ => cx13_ (lcmp_0.mpr q9_)
          refine sm_T_go 2 (c1 := (77, [some (.inr (.inr (some (13, 0)))), some (.inl c_), some (.inl f_), some (.inl wo), some (.inl w_), some (.inr (.inl vx12_)), none, some (.inl 0)], [], Sx7_)) rfl ?_
          refine ih_.2 wo w_ vx12_ 0 Sx7_ hIx8_ hFx11_ ⟨?_, ?_, ?_, ?_, trivial⟩ ?_
          · omega
          · exact e62_
          · exact z71_
          · (intro j9_ u9_; exfalso; omega)
          · omega
    · rintro wo w_ sh_ k_ S_ hI_ hF_ ⟨h0_, hl_, hz_, hb_, -⟩ hm_
      refine sm_T_go 7 (c1 := (86, [some (.inr (.inr (some (13, 0)))), some (.inl c_), some (.inl f_), some (.inl wo), some (.inl w_), some (.inr (.inl sh_)), none, some (.inl k_)], [.inl (sm_lcmp ((l_3 ((l_s2 sh_ k_)) 1)) 0)], S_)) rfl ?_
      refine sm_T_b0 (a := 1) (z := 9) rfl (fun cx1_ => ?_) (fun cx1_ => ?_)
      · have cx1_ : (sm_lcmp ((l_3 ((l_s2 sh_ k_)) 1)) 0) ≠ 0 := of_decide_eq_true cx1_
        refine sm_T_go 2 (c1 := (99, [some (.inr (.inr (some (13, 0)))), some (.inl c_), some (.inl f_), some (.inl wo), some (.inl w_), some (.inr (.inl sh_)), none, some (.inl k_)], [.inl w_, .inl 64], S_)) rfl ?_
        refine sm_T_bin (w := 64 * w_) rfl (bi_mul (by omega) (by omega) (by omega)) ?_ -- pc_ 99
        refine sm_T_go 1 (c1 := (102, [some (.inr (.inr (some (13, 0)))), some (.inl c_), some (.inl f_), some (.inl wo), some (.inl w_), some (.inr (.inl sh_)), none, some (.inl k_)], [.inl k_, .inl (64 * w_)], S_)) rfl ?_
        refine sm_T_bin (w := 64 * w_ + k_) rfl (bi_add (by omega) (by omega) (by omega)) ?_ -- pc_ 102
        refine sm_T_ri rfl ⟨_, _, rfl, _, rfl, hI_, hF_, ?_⟩
        omega
      · have cx1_ : ¬ ((sm_lcmp ((l_3 ((l_s2 sh_ k_)) 1)) 0) ≠ 0) := of_decide_eq_false cx1_
        have b9_ := lcmp_0.mp (show sm_lcmp (l_3 (l_s2 sh_ k_) 1) 0 = 0 by omega)
        refine sm_T_inc (a := 7) (z := 1) (v := k_) (w := k_ + 1) rfl rfl (by omega) (by omega) (by omega) ?_ -- pc_ 89
        refine sm_T_go 1 (c1 := (77, [some (.inr (.inr (some (13, 0)))), some (.inl c_), some (.inl f_), some (.inl wo), some (.inl w_), some (.inr (.inl sh_)), none, some (.inl (k_ + 1))], [], S_)) rfl ?_
        refine ih_.2 wo w_ sh_ (k_ + 1) S_ hI_ hF_ ⟨?_, ?_, ?_, ?_, trivial⟩ ?_
        · have n9_ : k_ ≠ 63 := fun q9_ => hz_ (lbz hl_ (fun j9_ u9_ => by (by_cases x9_ : (j9_ : Int) < k_; exact hb_ j9_ x9_; (rw [show (j9_ : Int) = k_ by omega]; exact b9_))))
          omega
        · exact hl_
        · exact hz_
        · (intro j9_ u9_; by_cases x9_ : (j9_ : Int) < k_; exact hb_ j9_ x9_; (rw [show (j9_ : Int) = k_ by omega]; exact b9_))
        · omega
set_option maxHeartbeats 1000000 in
set_option maxRecDepth 20000 in
theorem vc_521 {sc_ : Nat × (Nat → Int)} (c_ : Int) (f_ : Int) (S0_ : sm_S) (hI_ : gi S0_) (hc_ : 0 ≤ c_ ∧ c_ ≤ 3) (hx_ : S0_.2.2.1 223 0 c_.toNat + S0_.2.2.1 224 0 c_.toNat ≤ 12) (hg_ : cgt c_ S0_) (ho_ : con c_ S0_) (hf_ : 0 ≤ f_ ∧ f_ < fco c_ S0_) : sm_T (mt_P sc_) 3 521 (0, [some (.inr (.inr (some (13, 0)))), some (.inl c_), some (.inl f_), none, none, none, none, none], [], S0_) (fun ro9_ => ∃ u_ S1_, ro9_ = (.inl u_, S1_, 0) ∧ vq_521 c_ f_ S0_ u_ S1_) := by
  have hF_ : ai_fr (sx_W vw_521) S0_ S0_ := ai_fr_rf
  have cA_ : 0 ≤ S0_.2.2.1 223 0 c_.toNat ∧ S0_.2.2.1 223 0 c_.toNat ≤ 12 := hI_.2 223 0 _
  have cB_ : 0 ≤ S0_.2.2.1 224 0 c_.toNat ∧ S0_.2.2.1 224 0 c_.toNat ≤ 6 := hI_.2 224 0 _
  have cG_ : 0 ≤ S0_.2.2.1 228 0 c_.toNat ∧ S0_.2.2.1 228 0 c_.toNat ≤ 150 := hI_.2 228 0 _
  refine sm_T_go 3 (c1 := (5, [some (.inr (.inr (some (13, 0)))), some (.inl c_), some (.inl f_), none, none, none, none, none], [.inl c_, .inr (.inr (some (223, 0)))], S0_)) rfl ?_
  refine sm_T_iald (n := 4) rfl rfl (by omega) (by omega) ?_
  have bx1_ : 0 ≤ S0_.2.2.1 223 0 c_.toNat ∧ S0_.2.2.1 223 0 c_.toNat ≤ 12 := hI_.2 223 0 _
  refine sm_T_go 3 (c1 := (11, [some (.inr (.inr (some (13, 0)))), some (.inl c_), some (.inl f_), none, none, none, none, none], [.inl c_, .inr (.inr (some (224, 0))), .inl (S0_.2.2.1 223 0 c_.toNat)], S0_)) rfl ?_
  refine sm_T_iald (n := 4) rfl rfl (by omega) (by omega) ?_
  have bx2_ : 0 ≤ S0_.2.2.1 224 0 c_.toNat ∧ S0_.2.2.1 224 0 c_.toNat ≤ 6 := hI_.2 224 0 _
  refine sm_T_bin (w := (S0_.2.2.1 223 0 c_.toNat) + (S0_.2.2.1 224 0 c_.toNat)) rfl (bi_add (by omega) (by omega) (by omega)) ?_ -- pc_ 12
  refine sm_T_go 1 (c1 := (15, [some (.inr (.inr (some (13, 0)))), some (.inl c_), some (.inl f_), none, none, none, none, none], [.inl 6, .inl ((S0_.2.2.1 223 0 c_.toNat) + (S0_.2.2.1 224 0 c_.toNat))], S0_)) rfl ?_
  refine sm_T_br (a := 3) (z := 7) rfl (fun cx3_ => ?_) (fun cx3_ => ?_)
  · have cx3_ : 6 ≤ (S0_.2.2.1 223 0 c_.toNat) + (S0_.2.2.1 224 0 c_.toNat) := of_decide_eq_true cx3_
    refine sm_T_go 4 (c1 := (28, [some (.inr (.inr (some (13, 0)))), some (.inl c_), some (.inl f_), none, none, none, none, none], [.inl c_, .inr (.inr (some (223, 0))), .inl 1], S0_)) rfl ?_
    refine sm_T_iald (n := 4) rfl rfl (by omega) (by omega) ?_
    refine sm_T_go 3 (c1 := (34, [some (.inr (.inr (some (13, 0)))), some (.inl c_), some (.inl f_), none, none, none, none, none], [.inl c_, .inr (.inr (some (224, 0))), .inl (S0_.2.2.1 223 0 c_.toNat), .inl 1], S0_)) rfl ?_
    refine sm_T_iald (n := 4) rfl rfl (by omega) (by omega) ?_
    refine sm_T_bin (w := (S0_.2.2.1 223 0 c_.toNat) + (S0_.2.2.1 224 0 c_.toNat)) rfl (bi_add (by omega) (by omega) (by omega)) ?_ -- pc_ 35
    refine sm_T_go 1 (c1 := (38, [some (.inr (.inr (some (13, 0)))), some (.inl c_), some (.inl f_), none, none, none, none, none], [.inl 6, .inl ((S0_.2.2.1 223 0 c_.toNat) + (S0_.2.2.1 224 0 c_.toNat)), .inl 1], S0_)) rfl ?_
    refine sm_T_bin (w := (S0_.2.2.1 223 0 c_.toNat) + (S0_.2.2.1 224 0 c_.toNat) - 6) rfl (bi_sub (by omega) (by omega) (by omega)) ?_ -- pc_ 38
    refine sm_T_bin (w := (i_shl 1 ((S0_.2.2.1 223 0 c_.toNat) + (S0_.2.2.1 224 0 c_.toNat) - 6))) rfl rfl ?_ -- pc_ 39
    have bx4_ := i_shl1 (e := ((S0_.2.2.1 223 0 c_.toNat) + (S0_.2.2.1 224 0 c_.toNat) - 6)) (by omega) (by omega)
    have w9_ := pw_le (n := (((S0_.2.2.1 223 0 c_.toNat) + (S0_.2.2.1 224 0 c_.toNat) - 6)).toNat) (m := 6) (by omega)
    have w8_ := pw_pos (((S0_.2.2.1 223 0 c_.toNat) + (S0_.2.2.1 224 0 c_.toNat) - 6)).toNat
    refine sm_T_go 3 (c1 := (44, [some (.inr (.inr (some (13, 0)))), some (.inl c_), some (.inl f_), some (.inl (i_shl 1 ((S0_.2.2.1 223 0 c_.toNat) + (S0_.2.2.1 224 0 c_.toNat) - 6))), some (.inl 0), none, none, none], [], S0_)) rfl ?_
    refine (vl_521 c_ f_ S0_ hc_ hx_ hg_ ho_ hf_ _).1 (i_shl 1 ((S0_.2.2.1 223 0 c_.toNat) + (S0_.2.2.1 224 0 c_.toNat) - 6)) 0 S0_ hI_ hF_ ⟨?_, trivial⟩ (Nat.lt_succ_self _)
    · omega
  · have cx3_ : ¬ (6 ≤ (S0_.2.2.1 223 0 c_.toNat) + (S0_.2.2.1 224 0 c_.toNat)) := of_decide_eq_false cx3_
    refine sm_T_go 5 (c1 := (44, [some (.inr (.inr (some (13, 0)))), some (.inl c_), some (.inl f_), some (.inl 1), some (.inl 0), none, none, none], [], S0_)) rfl ?_
    refine (vl_521 c_ f_ S0_ hc_ hx_ hg_ ho_ hf_ _).1 1 0 S0_ hI_ hF_ ⟨?_, trivial⟩ (Nat.lt_succ_self _)
    · omega
/-! M_.leastPattern -/
def vw_520 : sx_Wl := ([(13, 221), (13, 222)], [238, 293, 294], [])
def vq_520 (c_ : Int) (f_ : Int) (S0_ : sm_S) (u_ : Option sm_V) (S1_ : sm_S) : Prop := ∃ v_ : Int, u_ = some (.inl v_) ∧ gi S1_ ∧ ai_fr (sx_W vw_520) S0_ S1_ ∧ (-1 ≤ v_ ∧ v_ ≤ 4095)
set_option maxHeartbeats 400000 in
set_option maxRecDepth 20000 in
theorem vc_520 {sc_ : Nat × (Nat → Int)} (c_ : Int) (f_ : Int) (S0_ : sm_S) (hI_ : gi S0_) (hc_ : 0 ≤ c_ ∧ c_ ≤ 3) (hx_ : S0_.2.2.1 223 0 c_.toNat + S0_.2.2.1 224 0 c_.toNat ≤ 12) (hg_ : cgt c_ S0_) (ho_ : con c_ S0_) (hf_ : 0 ≤ f_ ∧ f_ < fco c_ S0_) : sm_T (mt_P sc_) 4 520 (0, [some (.inr (.inr (some (13, 0)))), some (.inl c_), some (.inl f_)], [], S0_) (fun ro9_ => ∃ u_ S1_, ro9_ = (.inl u_, S1_, 0) ∧ vq_520 c_ f_ S0_ u_ S1_) := by
  have hF_ : ai_fr (sx_W vw_520) S0_ S0_ := ai_fr_rf
  have fb9_ := fco_b hI_ hx_
  refine sm_T_go 4 (c1 := (8, [some (.inr (.inr (some (13, 0)))), some (.inl c_), some (.inl f_)], [.inl c_, .inl 1280, .inr (.inr (some (294, 0)))], S0_)) rfl ?_
  refine sm_T_bin (w := 1280 * c_) rfl (bi_mul (by omega) (by omega) (by omega)) ?_ -- pc_ 8
  refine sm_T_go 1 (c1 := (10, [some (.inr (.inr (some (13, 0)))), some (.inl c_), some (.inl f_)], [.inl f_, .inl (1280 * c_), .inr (.inr (some (294, 0)))], S0_)) rfl ?_
  refine sm_T_bin (w := 1280 * c_ + f_) rfl (bi_add (by omega) (by omega) (by omega)) ?_ -- pc_ 10
  refine sm_T_iald (n := 5120) rfl rfl (by omega) (by omega) ?_
  have bx1_ : 0 ≤ S0_.2.2.1 294 0 (1280 * c_ + f_).toNat ∧ S0_.2.2.1 294 0 (1280 * c_ + f_).toNat ≤ 4097 := hI_.2 294 0 _
  refine sm_T_b0 (a := 1) (z := 23) rfl (fun cx2_ => ?_) (fun cx2_ => ?_)
  · have cx2_ : (S0_.2.2.1 294 0 (1280 * c_ + f_).toNat) ≠ 0 := of_decide_eq_true cx2_
    refine sm_T_go 4 (c1 := (43, [some (.inr (.inr (some (13, 0)))), some (.inl c_), some (.inl f_)], [.inl c_, .inl 1280, .inr (.inr (some (294, 0)))], S0_)) rfl ?_
    refine sm_T_bin (w := 1280 * c_) rfl (bi_mul (by omega) (by omega) (by omega)) ?_ -- pc_ 43
    refine sm_T_go 1 (c1 := (45, [some (.inr (.inr (some (13, 0)))), some (.inl c_), some (.inl f_)], [.inl f_, .inl (1280 * c_), .inr (.inr (some (294, 0)))], S0_)) rfl ?_
    refine sm_T_bin (w := 1280 * c_ + f_) rfl (bi_add (by omega) (by omega) (by omega)) ?_ -- pc_ 45
    refine sm_T_iald (n := 5120) rfl rfl (by omega) (by omega) ?_
    refine sm_T_go 1 (c1 := (48, [some (.inr (.inr (some (13, 0)))), some (.inl c_), some (.inl f_)], [.inl 2, .inl (S0_.2.2.1 294 0 (1280 * c_ + f_).toNat)], S0_)) rfl ?_
    refine sm_T_bin (w := (S0_.2.2.1 294 0 (1280 * c_ + f_).toNat) - 2) rfl (bi_sub (by omega) (by omega) (by omega)) ?_ -- pc_ 48
    refine sm_T_ri rfl ⟨_, _, rfl, _, rfl, hI_, hF_, ?_⟩
    first | omega | (rw [rd_eq, if_pos rfl]; omega)
  · have cx2_ : ¬ ((S0_.2.2.1 294 0 (1280 * c_ + f_).toNat) ≠ 0) := of_decide_eq_false cx2_
    refine sm_T_go 4 (c1 := (23, [some (.inr (.inr (some (13, 0)))), some (.inl c_), some (.inl f_)], [.inl c_, .inl 1280, .inr (.inr (some (294, 0)))], S0_)) rfl ?_
    refine sm_T_bin (w := 1280 * c_) rfl (bi_mul (by omega) (by omega) (by omega)) ?_ -- pc_ 23
    refine sm_T_go 1 (c1 := (25, [some (.inr (.inr (some (13, 0)))), some (.inl c_), some (.inl f_)], [.inl f_, .inl (1280 * c_), .inr (.inr (some (294, 0)))], S0_)) rfl ?_
    refine sm_T_bin (w := 1280 * c_ + f_) rfl (bi_add (by omega) (by omega) (by omega)) ?_ -- pc_ 25
    refine sm_T_go 4 (c1 := (30, [some (.inr (.inr (some (13, 0)))), some (.inl c_), some (.inl f_)], [.inl f_, .inl c_, .inr (.inr (some (13, 0))), .inl 2, .inl (1280 * c_ + f_), .inr (.inr (some (294, 0)))], S0_)) rfl ?_
    refine sm_T_cal (d1 := 3) (Q1 := vq_521 c_ f_ S0_) rfl rfl (by decide) (vc_521 c_ f_ S0_ hI_ (by exact hc_) (by exact hx_) (by exact hg_) (by exact ho_) (by exact hf_)) (fun u_ Sx3_ px6_ => ?_)
    obtain ⟨vx8_, rfl, hIx4_, hFx5_, px6_⟩ := px6_
    have hFx7_ : ai_fr (sx_W vw_520) S0_ Sx3_ := ai_fr_tr hF_ (fr_le hFx5_ rfl)
    have e30_ := px6_
    refine sm_T_bin (w := vx8_ + 2) rfl (bi_add (by omega) (by omega) (by omega)) ?_ -- pc_ 33
    refine sm_T_iast (n := 5120) rfl rfl (by omega) (by omega) ?_
    have hIx9_ : gi (sm_aI Sx3_ 294 0 (1280 * c_ + f_).toNat (vx8_ + 2)) := gi_aI hIx4_ (show 0 ≤ vx8_ + 2 ∧ vx8_ + 2 ≤ 4097 from ⟨by omega, by omega⟩)
    have hFx10_ : ai_fr (sx_W vw_520) S0_ (sm_aI Sx3_ 294 0 (1280 * c_ + f_).toNat (vx8_ + 2)) := ai_fr_tr hFx7_ (ai_fr_aI rfl)
    refine sm_T_go 4 (c1 := (43, [some (.inr (.inr (some (13, 0)))), some (.inl c_), some (.inl f_)], [.inl c_, .inl 1280, .inr (.inr (some (294, 0)))], sm_aI Sx3_ 294 0 (1280 * c_ + f_).toNat (vx8_ + 2))) rfl ?_
    refine sm_T_bin (w := 1280 * c_) rfl (bi_mul (by omega) (by omega) (by omega)) ?_ -- pc_ 43
    refine sm_T_go 1 (c1 := (45, [some (.inr (.inr (some (13, 0)))), some (.inl c_), some (.inl f_)], [.inl f_, .inl (1280 * c_), .inr (.inr (some (294, 0)))], sm_aI Sx3_ 294 0 (1280 * c_ + f_).toNat (vx8_ + 2))) rfl ?_
    refine sm_T_bin (w := 1280 * c_ + f_) rfl (bi_add (by omega) (by omega) (by omega)) ?_ -- pc_ 45
    refine sm_T_iald (n := 5120) rfl rfl (by omega) (by omega) ?_
    have bx11_ : 0 ≤ (sm_aI Sx3_ 294 0 (1280 * c_ + f_).toNat (vx8_ + 2)).2.2.1 294 0 (1280 * c_ + f_).toNat ∧ (sm_aI Sx3_ 294 0 (1280 * c_ + f_).toNat (vx8_ + 2)).2.2.1 294 0 (1280 * c_ + f_).toNat ≤ 4097 := hIx9_.2 294 0 _
    refine sm_T_go 1 (c1 := (48, [some (.inr (.inr (some (13, 0)))), some (.inl c_), some (.inl f_)], [.inl 2, .inl ((sm_aI Sx3_ 294 0 (1280 * c_ + f_).toNat (vx8_ + 2)).2.2.1 294 0 (1280 * c_ + f_).toNat)], sm_aI Sx3_ 294 0 (1280 * c_ + f_).toNat (vx8_ + 2))) rfl ?_
    refine sm_T_bin (w := ((sm_aI Sx3_ 294 0 (1280 * c_ + f_).toNat (vx8_ + 2)).2.2.1 294 0 (1280 * c_ + f_).toNat) - 2) rfl (bi_sub (by omega) (by omega) (by omega)) ?_ -- pc_ 48
    refine sm_T_ri rfl ⟨_, _, rfl, _, rfl, hIx9_, hFx10_, ?_⟩
    first | omega | (rw [rd_eq, if_pos rfl]; omega)
/-! M_.test -/
def vw_522 : sx_Wl := ([(13, 0), (13, 221), (13, 222)], [238, 293, 294], [])
def vq_522 (a1_ : Int) (a2_ : Int) (S0_ : sm_S) (u_ : Option sm_V) (S1_ : sm_S) : Prop := ∃ v_ : Int, u_ = some (.inl v_) ∧ gi S1_ ∧ ai_fr (sx_W vw_522) S0_ S1_ ∧ (((-2147483648) ≤ v_ ∧ v_ ≤ 2147483647) ∧ (jR S1_))
set_option maxHeartbeats 400000 in
set_option maxRecDepth 20000 in
theorem vc_522 {sc_ : Nat × (Nat → Int)} (a1_ : Int) (a2_ : Int) (S0_ : sm_S) (hI_ : gi S0_) (ha1_ : (-2147483648) ≤ a1_ ∧ a1_ ≤ 2147483647) (ha2_ : (-2147483648) ≤ a2_ ∧ a2_ ≤ 2147483647) (hJ_ : jR S0_) : sm_T (mt_P sc_) 5 522 (0, [some (.inr (.inr (some (13, 0)))), some (.inl a1_), some (.inl a2_)], [], S0_) (fun ro9_ => ∃ u_ S1_, ro9_ = (.inl u_, S1_, 0) ∧ vq_522 a1_ a2_ S0_ u_ S1_) := by
  have hF_ : ai_fr (sx_W vw_522) S0_ S0_ := ai_fr_rf
  refine sm_T_go 3 (c1 := (3, [some (.inr (.inr (some (13, 0)))), some (.inl a1_), some (.inl a2_)], [.inl a1_, .inr (.inr (some (13, 0))), .inr (.inr (some (13, 0)))], S0_)) rfl ?_
  refine sm_T_cal (d1 := 0) (Q1 := vq_371 a1_ S0_) rfl rfl (by decide) (vc_371 a1_ S0_ hI_ (by omega)) (fun u_ Sx1_ px4_ => ?_)
  obtain ⟨rfl, vx6_, rfl, px4_⟩ := px4_
  have d3_ := px4_
  refine sm_T_b0 (a := 0) (z := 16) rfl (fun cx7_ => ?_) (fun cx7_ => ?_)
  · have cx7_ : vx6_ = 0 := of_decide_eq_true cx7_
    have hIx8_ : gi (sm_pI S0_ 13 0 0 1) := gi_pI hI_ (show 0 ≤ 1 ∧ 1 ≤ 4 from ⟨by omega, by omega⟩)
    have hFx9_ : ai_fr (sx_W vw_522) S0_ (sm_pI S0_ 13 0 0 1) := ai_fr_tr hF_ (ai_fr_pI rfl)
    refine sm_T_go 8 (c1 := (47, [some (.inr (.inr (some (13, 0)))), some (.inl a1_), some (.inl a2_)], [.inl 0], sm_pI S0_ 13 0 0 1)) rfl ?_
    refine sm_T_ri rfl ⟨_, _, rfl, _, rfl, hIx8_, hFx9_, ?_⟩
    refine ⟨⟨by omega, by omega⟩, jR_fr hJ_ hIx8_ hFx9_⟩
  · have cx7_ : ¬ (vx6_ = 0) := of_decide_eq_false cx7_
    have K9_ : cRk a1_ S0_ := hJ_.2 a1_ (by omega) (by omega) (by omega)
    obtain ⟨K1_, K2_, K3_, K4_, K5_, K6_, K7_⟩ := K9_
    have fb9_ := fco_b hI_ K1_
    refine sm_T_go 1 (c1 := (10, [some (.inr (.inr (some (13, 0)))), some (.inl a1_), some (.inl a2_)], [.inl a2_, .inr (.inr (some (13, 0)))], S0_)) rfl ?_
    refine sm_T_b0 (a := 2) (z := 12) rfl (fun cx10_ => ?_) (fun cx10_ => ?_)
    · have cx10_ : a2_ < 0 := of_decide_eq_true cx10_
      have hIx11_ : gi (sm_pI S0_ 13 0 0 1) := gi_pI hI_ (show 0 ≤ 1 ∧ 1 ≤ 4 from ⟨by omega, by omega⟩)
      have hFx12_ : ai_fr (sx_W vw_522) S0_ (sm_pI S0_ 13 0 0 1) := ai_fr_tr hF_ (ai_fr_pI rfl)
      refine sm_T_go 8 (c1 := (47, [some (.inr (.inr (some (13, 0)))), some (.inl a1_), some (.inl a2_)], [.inl 0], sm_pI S0_ 13 0 0 1)) rfl ?_
      refine sm_T_ri rfl ⟨_, _, rfl, _, rfl, hIx11_, hFx12_, ?_⟩
      refine ⟨⟨by omega, by omega⟩, jR_fr hJ_ hIx11_ hFx12_⟩
    · have cx10_ : ¬ (a2_ < 0) := of_decide_eq_false cx10_
      refine sm_T_go 3 (c1 := (16, [some (.inr (.inr (some (13, 0)))), some (.inl a1_), some (.inl a2_)], [.inl a1_, .inr (.inr (some (13, 0))), .inl a2_, .inr (.inr (some (13, 0)))], S0_)) rfl ?_
      refine sm_T_cal (d1 := 1) (Q1 := vq_514 a1_ S0_) rfl rfl (by decide) (vc_514 a1_ S0_ hI_ (by omega) (by exact K1_)) (fun u_ Sx13_ px16_ => ?_)
      obtain ⟨rfl, vx18_, rfl, px16_⟩ := px16_
      have e16_ := px16_
      refine sm_T_br (a := 2) (z := 7) rfl (fun cx19_ => ?_) (fun cx19_ => ?_)
      · have cx19_ : a2_ < vx18_ := of_decide_eq_true cx19_
        have hIx20_ : gi (sm_pI S0_ 13 0 0 0) := gi_pI hI_ (show 0 ≤ 0 ∧ 0 ≤ 4 from ⟨by omega, by omega⟩)
        have hFx21_ : ai_fr (sx_W vw_522) S0_ (sm_pI S0_ 13 0 0 0) := ai_fr_tr hF_ (ai_fr_pI rfl)
        refine sm_T_go 8 (c1 := (44, [some (.inr (.inr (some (13, 0)))), some (.inl a1_), some (.inl a2_)], [.inl a2_, .inl a1_, .inr (.inr (some (13, 0)))], sm_pI S0_ 13 0 0 0)) rfl ?_
        refine sm_T_cal (d1 := 4) (Q1 := vq_520 a1_ a2_ (sm_pI S0_ 13 0 0 0)) rfl rfl (by decide) (vc_520 a1_ a2_ (sm_pI S0_ 13 0 0 0) hIx20_ (by omega) (by exact K1_) (by exact K4_) (by exact K5_) (by (show 0 ≤ a2_ ∧ a2_ < fco a1_ S0_; omega))) (fun u_ Sx22_ px25_ => ?_)
        obtain ⟨vx27_, rfl, hIx23_, hFx24_, px25_⟩ := px25_
        have hFx26_ : ai_fr (sx_W vw_522) S0_ Sx22_ := ai_fr_tr hFx21_ (fr_le hFx24_ rfl)
        refine sm_T_ri rfl ⟨_, _, rfl, _, rfl, hIx23_, hFx26_, ?_⟩
        refine ⟨⟨by omega, by omega⟩, jR_fr hJ_ hIx23_ hFx26_⟩
      · have cx19_ : ¬ (a2_ < vx18_) := of_decide_eq_false cx19_
        have hIx28_ : gi (sm_pI S0_ 13 0 0 1) := gi_pI hI_ (show 0 ≤ 1 ∧ 1 ≤ 4 from ⟨by omega, by omega⟩)
        have hFx29_ : ai_fr (sx_W vw_522) S0_ (sm_pI S0_ 13 0 0 1) := ai_fr_tr hF_ (ai_fr_pI rfl)
        refine sm_T_go 8 (c1 := (47, [some (.inr (.inr (some (13, 0)))), some (.inl a1_), some (.inl a2_)], [.inl 0], sm_pI S0_ 13 0 0 1)) rfl ?_
        refine sm_T_ri rfl ⟨_, _, rfl, _, rfl, hIx28_, hFx29_, ?_⟩
        refine ⟨⟨by omega, by omega⟩, jR_fr hJ_ hIx28_ hFx29_⟩
/-! M_.shows -/
def vw_523 : sx_Wl := ([(13, 0), (13, 221), (13, 222)], [238, 293], [])
def vq_523 (a1_ : Int) (a2_ : Int) (a3_ : Int) (S0_ : sm_S) (u_ : Option sm_V) (S1_ : sm_S) : Prop := ∃ v_ : Int, u_ = some (.inl v_) ∧ gi S1_ ∧ ai_fr (sx_W vw_523) S0_ S1_ ∧ (((-2147483648) ≤ v_ ∧ v_ ≤ 2147483647) ∧ (jR S1_))
set_option maxHeartbeats 400000 in
set_option maxRecDepth 20000 in
theorem vc_523 {sc_ : Nat × (Nat → Int)} (a1_ : Int) (a2_ : Int) (a3_ : Int) (S0_ : sm_S) (hI_ : gi S0_) (ha1_ : (-2147483648) ≤ a1_ ∧ a1_ ≤ 2147483647) (ha2_ : (-2147483648) ≤ a2_ ∧ a2_ ≤ 2147483647) (ha3_ : (-2147483648) ≤ a3_ ∧ a3_ ≤ 2147483647) (hJ_ : jR S0_) : sm_T (mt_P sc_) 3 523 (0, [some (.inr (.inr (some (13, 0)))), some (.inl a1_), some (.inl a2_), some (.inl a3_)], [], S0_) (fun ro9_ => ∃ u_ S1_, ro9_ = (.inl u_, S1_, 0) ∧ vq_523 a1_ a2_ a3_ S0_ u_ S1_) := by
  have hF_ : ai_fr (sx_W vw_523) S0_ S0_ := ai_fr_rf
  refine sm_T_go 3 (c1 := (3, [some (.inr (.inr (some (13, 0)))), some (.inl a1_), some (.inl a2_), some (.inl a3_)], [.inl a1_, .inr (.inr (some (13, 0))), .inr (.inr (some (13, 0)))], S0_)) rfl ?_
  refine sm_T_cal (d1 := 0) (Q1 := vq_371 a1_ S0_) rfl rfl (by decide) (vc_371 a1_ S0_ hI_ (by omega)) (fun u_ Sx1_ px4_ => ?_)
  obtain ⟨rfl, vx6_, rfl, px4_⟩ := px4_
  have d3_ := px4_
  refine sm_T_b0 (a := 0) (z := 16) rfl (fun cx7_ => ?_) (fun cx7_ => ?_)
  · have cx7_ : vx6_ = 0 := of_decide_eq_true cx7_
    have hIx8_ : gi (sm_pI S0_ 13 0 0 1) := gi_pI hI_ (show 0 ≤ 1 ∧ 1 ≤ 4 from ⟨by omega, by omega⟩)
    have hFx9_ : ai_fr (sx_W vw_523) S0_ (sm_pI S0_ 13 0 0 1) := ai_fr_tr hF_ (ai_fr_pI rfl)
    refine sm_T_go 7 (c1 := (62, [some (.inr (.inr (some (13, 0)))), some (.inl a1_), some (.inl a2_), some (.inl a3_)], [.inl 0], sm_pI S0_ 13 0 0 1)) rfl ?_
    refine sm_T_rz rfl (by omega) ⟨_, _, rfl, _, rfl, hIx8_, hFx9_, ?_⟩
    refine ⟨⟨by omega, by omega⟩, jR_fr hJ_ hIx8_ hFx9_⟩
  · have cx7_ : ¬ (vx6_ = 0) := of_decide_eq_false cx7_
    have K9_ : cRk a1_ S0_ := hJ_.2 a1_ (by omega) (by omega) (by omega)
    obtain ⟨K1_, K2_, K3_, K4_, K5_, K6_, K7_⟩ := K9_
    have fb9_ := fco_b hI_ K1_
    have w9_ := pw_le (n := (S0_.2.2.1 223 0 a1_.toNat + S0_.2.2.1 224 0 a1_.toNat).toNat) (m := 12) (by omega)
    have q1_ : 0 ≤ S0_.2.2.1 223 0 a1_.toNat ∧ S0_.2.2.1 223 0 a1_.toNat ≤ 12 := hI_.2 223 0 _
    have q2_ : 0 ≤ S0_.2.2.1 224 0 a1_.toNat ∧ S0_.2.2.1 224 0 a1_.toNat ≤ 6 := hI_.2 224 0 _
    refine sm_T_go 1 (c1 := (10, [some (.inr (.inr (some (13, 0)))), some (.inl a1_), some (.inl a2_), some (.inl a3_)], [.inl a3_, .inr (.inr (some (13, 0)))], S0_)) rfl ?_
    refine sm_T_b0 (a := 2) (z := 12) rfl (fun cx10_ => ?_) (fun cx10_ => ?_)
    · have cx10_ : a3_ < 0 := of_decide_eq_true cx10_
      have hIx11_ : gi (sm_pI S0_ 13 0 0 1) := gi_pI hI_ (show 0 ≤ 1 ∧ 1 ≤ 4 from ⟨by omega, by omega⟩)
      have hFx12_ : ai_fr (sx_W vw_523) S0_ (sm_pI S0_ 13 0 0 1) := ai_fr_tr hF_ (ai_fr_pI rfl)
      refine sm_T_go 7 (c1 := (62, [some (.inr (.inr (some (13, 0)))), some (.inl a1_), some (.inl a2_), some (.inl a3_)], [.inl 0], sm_pI S0_ 13 0 0 1)) rfl ?_
      refine sm_T_rz rfl (by omega) ⟨_, _, rfl, _, rfl, hIx11_, hFx12_, ?_⟩
      refine ⟨⟨by omega, by omega⟩, jR_fr hJ_ hIx11_ hFx12_⟩
    · have cx10_ : ¬ (a3_ < 0) := of_decide_eq_false cx10_
      refine sm_T_go 3 (c1 := (16, [some (.inr (.inr (some (13, 0)))), some (.inl a1_), some (.inl a2_), some (.inl a3_)], [.inl a1_, .inr (.inr (some (13, 0))), .inl a3_, .inr (.inr (some (13, 0)))], S0_)) rfl ?_
      refine sm_T_cal (d1 := 1) (Q1 := vq_514 a1_ S0_) rfl rfl (by decide) (vc_514 a1_ S0_ hI_ (by omega) (by exact K1_)) (fun u_ Sx13_ px16_ => ?_)
      obtain ⟨rfl, vx18_, rfl, px16_⟩ := px16_
      have e16_ := px16_
      refine sm_T_br (a := 2) (z := 7) rfl (fun cx19_ => ?_) (fun cx19_ => ?_)
      · have cx19_ : a3_ < vx18_ := of_decide_eq_true cx19_
        refine sm_T_go 4 (c1 := (32, [some (.inr (.inr (some (13, 0)))), some (.inl a1_), some (.inl a2_), some (.inl a3_)], [.inl a1_, .inr (.inr (some (223, 0))), .inl a2_, .inr (.inr (some (13, 0)))], S0_)) rfl ?_
        refine sm_T_iald (n := 4) rfl rfl (by omega) (by omega) ?_
        have bx20_ : 0 ≤ S0_.2.2.1 223 0 a1_.toNat ∧ S0_.2.2.1 223 0 a1_.toNat ≤ 12 := hI_.2 223 0 _
        refine sm_T_go 3 (c1 := (38, [some (.inr (.inr (some (13, 0)))), some (.inl a1_), some (.inl a2_), some (.inl a3_)], [.inl a1_, .inr (.inr (some (224, 0))), .inl (S0_.2.2.1 223 0 a1_.toNat), .inl a2_, .inr (.inr (some (13, 0)))], S0_)) rfl ?_
        refine sm_T_iald (n := 4) rfl rfl (by omega) (by omega) ?_
        have bx21_ : 0 ≤ S0_.2.2.1 224 0 a1_.toNat ∧ S0_.2.2.1 224 0 a1_.toNat ≤ 6 := hI_.2 224 0 _
        refine sm_T_bin (w := (S0_.2.2.1 223 0 a1_.toNat) + (S0_.2.2.1 224 0 a1_.toNat)) rfl (bi_add (by omega) (by omega) (by omega)) ?_ -- pc_ 39
        refine sm_T_cal (d1 := 0) (Q1 := vq_381 a2_ ((S0_.2.2.1 223 0 a1_.toNat) + (S0_.2.2.1 224 0 a1_.toNat)) S0_) rfl rfl (by decide) (vc_381 a2_ ((S0_.2.2.1 223 0 a1_.toNat) + (S0_.2.2.1 224 0 a1_.toNat)) S0_ hI_ (by omega) (by omega)) (fun u_ Sx22_ px25_ => ?_)
        obtain ⟨rfl, vx27_, rfl, px25_⟩ := px25_
        have e40_ := px25_
        refine sm_T_b0 (a := 1) (z := 7) rfl (fun cx28_ => ?_) (fun cx28_ => ?_)
        · have cx28_ : vx27_ ≠ 0 := of_decide_eq_true cx28_
          have hIx29_ : gi (sm_pI S0_ 13 0 0 0) := gi_pI hI_ (show 0 ≤ 0 ∧ 0 ≤ 4 from ⟨by omega, by omega⟩)
          have hFx30_ : ai_fr (sx_W vw_523) S0_ (sm_pI S0_ 13 0 0 0) := ai_fr_tr hF_ (ai_fr_pI rfl)
          refine sm_T_go 9 (c1 := (68, [some (.inr (.inr (some (13, 0)))), some (.inl a1_), some (.inl a2_), some (.inl a3_)], [.inl 6, .inl a2_, .inl a1_, .inr (.inr (some (13, 0)))], sm_pI S0_ 13 0 0 0)) rfl ?_
          refine sm_T_bin (w := (a2_ / 64)) rfl (bi_shr (k := 6) (by decide) (by omega) (by omega)) ?_ -- pc_ 68
          refine sm_T_cal (d1 := 2) (Q1 := vq_517 a1_ (a2_ / 64) (sm_pI S0_ 13 0 0 0)) rfl rfl (by decide) (vc_517 a1_ (a2_ / 64) (sm_pI S0_ 13 0 0 0) hIx29_ (by omega) (by exact K1_) (by exact K4_) (by exact K5_) (by omega)) (fun u_ Sx31_ px34_ => ?_)
          obtain ⟨rfl, hIx32_, hFx33_, px34_⟩ := px34_
          have hFx35_ : ai_fr (sx_W vw_523) S0_ Sx31_ := ai_fr_tr hFx30_ (fr_le hFx33_ rfl)
          refine sm_T_go 4 (c1 := (77, [some (.inr (.inr (some (13, 0)))), some (.inl a1_), some (.inl a2_), some (.inl a3_)], [.inl 6, .inl a2_, .inl a1_, .inr (.inr (some (13, 0)))], Sx31_)) rfl ?_
          refine sm_T_bin (w := (a2_ / 64)) rfl (bi_shr (k := 6) (by decide) (by omega) (by omega)) ?_ -- pc_ 77
          refine sm_T_go 1 (c1 := (79, [some (.inr (.inr (some (13, 0)))), some (.inl a1_), some (.inl a2_), some (.inl a3_)], [.inl a3_, .inl (a2_ / 64), .inl a1_, .inr (.inr (some (13, 0)))], Sx31_)) rfl ?_
          refine sm_T_cal (d1 := 2) (Q1 := vq_518 a1_ (a2_ / 64) a3_ Sx31_) rfl rfl (by decide) (vc_518 a1_ (a2_ / 64) a3_ Sx31_ hIx32_ (by omega) (by (rw [fr_arr hFx35_ (t := 223) rfl, fr_arr hFx35_ (t := 224) rfl]; exact K1_)) (by exact cgt_fr (by omega) hIx32_ K4_ hFx35_) (by exact con_fr (by omega) hIx32_ K5_ hFx35_) (by omega) (by (rw [fco_fr hFx35_]; omega))) (fun u_ Sx36_ px39_ => ?_)
          obtain ⟨vx41_, rfl, hIx37_, hFx38_, px39_⟩ := px39_
          have hFx40_ : ai_fr (sx_W vw_523) S0_ Sx36_ := ai_fr_tr hFx35_ (fr_le hFx38_ rfl)
          refine sm_T_go 2 (c1 := (85, [some (.inr (.inr (some (13, 0)))), some (.inl a1_), some (.inl a2_), some (.inl a3_)], [.inl 63, .inl a2_, .inr (.inl vx41_)], Sx36_)) rfl ?_
          refine sm_T_bin (w := (a2_ % 64)) rfl (bi_msk (k := 6) (by decide)) ?_ -- pc_ 85
          refine sm_T_go 5 (c1 := (91, [some (.inr (.inr (some (13, 0)))), some (.inl a1_), some (.inl a2_), some (.inl a3_)], [.inl (sm_lcmp ((l_3 ((l_s2 vx41_ (a2_ % 64))) 1)) 1)], Sx36_)) rfl ?_
          refine sm_T_b0 (a := 1) (z := 7) rfl (fun cx42_ => ?_) (fun cx42_ => ?_)
          · have cx42_ : (sm_lcmp ((l_3 ((l_s2 vx41_ (a2_ % 64))) 1)) 1) ≠ 0 := of_decide_eq_true cx42_
            refine sm_T_go 1 (c1 := (99, [some (.inr (.inr (some (13, 0)))), some (.inl a1_), some (.inl a2_), some (.inl a3_)], [.inl 0], Sx36_)) rfl ?_
            refine sm_T_rz rfl (by omega) ⟨_, _, rfl, _, rfl, hIx37_, hFx40_, ?_⟩
            refine ⟨⟨by omega, by omega⟩, jR_fr hJ_ hIx37_ hFx40_⟩
          · have cx42_ : ¬ ((sm_lcmp ((l_3 ((l_s2 vx41_ (a2_ % 64))) 1)) 1) ≠ 0) := of_decide_eq_false cx42_
            refine sm_T_go 2 (c1 := (99, [some (.inr (.inr (some (13, 0)))), some (.inl a1_), some (.inl a2_), some (.inl a3_)], [.inl 1], Sx36_)) rfl ?_
            refine sm_T_rz rfl (by omega) ⟨_, _, rfl, _, rfl, hIx37_, hFx40_, ?_⟩
            refine ⟨⟨by omega, by omega⟩, jR_fr hJ_ hIx37_ hFx40_⟩
        · have cx28_ : ¬ (vx27_ ≠ 0) := of_decide_eq_false cx28_
          have hIx43_ : gi (sm_pI S0_ 13 0 0 2) := gi_pI hI_ (show 0 ≤ 2 ∧ 2 ≤ 4 from ⟨by omega, by omega⟩)
          have hFx44_ : ai_fr (sx_W vw_523) S0_ (sm_pI S0_ 13 0 0 2) := ai_fr_tr hF_ (ai_fr_pI rfl)
          refine sm_T_go 7 (c1 := (62, [some (.inr (.inr (some (13, 0)))), some (.inl a1_), some (.inl a2_), some (.inl a3_)], [.inl 0], sm_pI S0_ 13 0 0 2)) rfl ?_
          refine sm_T_rz rfl (by omega) ⟨_, _, rfl, _, rfl, hIx43_, hFx44_, ?_⟩
          refine ⟨⟨by omega, by omega⟩, jR_fr hJ_ hIx43_ hFx44_⟩
      · have cx19_ : ¬ (a3_ < vx18_) := of_decide_eq_false cx19_
        have hIx45_ : gi (sm_pI S0_ 13 0 0 1) := gi_pI hI_ (show 0 ≤ 1 ∧ 1 ≤ 4 from ⟨by omega, by omega⟩)
        have hFx46_ : ai_fr (sx_W vw_523) S0_ (sm_pI S0_ 13 0 0 1) := ai_fr_tr hF_ (ai_fr_pI rfl)
        refine sm_T_go 7 (c1 := (62, [some (.inr (.inr (some (13, 0)))), some (.inl a1_), some (.inl a2_), some (.inl a3_)], [.inl 0], sm_pI S0_ 13 0 0 1)) rfl ?_
        refine sm_T_rz rfl (by omega) ⟨_, _, rfl, _, rfl, hIx45_, hFx46_, ?_⟩
        refine ⟨⟨by omega, by omega⟩, jR_fr hJ_ hIx45_ hFx46_⟩
/-! M_.isShown -/
def vw_524 : sx_Wl := ([], [], [])
def vq_524 (c_ : Int) (i_ : Int) (f_ : Int) (S0_ : sm_S) (u_ : Option sm_V) (S1_ : sm_S) : Prop := S0_ = S1_ ∧ ∃ v_ : Int, u_ = some (.inl v_) ∧ (v_ = 0 ∨ v_ = 1)
set_option maxHeartbeats 400000 in
set_option maxRecDepth 20000 in
theorem vc_524 {sc_ : Nat × (Nat → Int)} (c_ : Int) (i_ : Int) (f_ : Int) (S0_ : sm_S) (hI_ : gi S0_) (hc_ : 0 ≤ c_ ∧ c_ ≤ 3) (hi_ : 0 ≤ i_ ∧ i_ ≤ 1279) (hf_ : 0 ≤ f_ ∧ f_ ≤ 1279) : sm_T (mt_P sc_) 0 524 (0, [some (.inr (.inr (some (13, 0)))), some (.inl c_), some (.inl i_), some (.inl f_)], [], S0_) (fun ro9_ => ∃ u_ S1_, ro9_ = (.inl u_, S1_, 0) ∧ vq_524 c_ i_ f_ S0_ u_ S1_) := by
  have hF_ : ai_fr (sx_W vw_524) S0_ S0_ := ai_fr_rf
  refine sm_T_go 5 (c1 := (10, [some (.inr (.inr (some (13, 0)))), some (.inl c_), some (.inl i_), some (.inl f_)], [.inl c_, .inl 1280, .inl 20, .inr (.inr (some (292, 0)))], S0_)) rfl ?_
  refine sm_T_bin (w := 1280 * c_) rfl (bi_mul (by omega) (by omega) (by omega)) ?_ -- pc_ 10
  refine sm_T_go 1 (c1 := (12, [some (.inr (.inr (some (13, 0)))), some (.inl c_), some (.inl i_), some (.inl f_)], [.inl i_, .inl (1280 * c_), .inl 20, .inr (.inr (some (292, 0)))], S0_)) rfl ?_
  refine sm_T_bin (w := 1280 * c_ + i_) rfl (bi_add (by omega) (by omega) (by omega)) ?_ -- pc_ 12
  refine sm_T_bin (w := 25600 * c_ + 20 * i_) rfl (bi_mul (by omega) (by omega) (by omega)) ?_ -- pc_ 13
  refine sm_T_go 2 (c1 := (17, [some (.inr (.inr (some (13, 0)))), some (.inl c_), some (.inl i_), some (.inl f_)], [.inl 6, .inl f_, .inl (25600 * c_ + 20 * i_), .inr (.inr (some (292, 0)))], S0_)) rfl ?_
  refine sm_T_bin (w := (f_ / 64)) rfl (bi_shr (k := 6) (by decide) (by omega) (by omega)) ?_ -- pc_ 17
  refine sm_T_bin (w := 25600 * c_ + 20 * i_ + (f_ / 64)) rfl (bi_add (by omega) (by omega) (by omega)) ?_ -- pc_ 18
  refine sm_T_lald (n := 102400) rfl rfl (by omega) (by omega) ?_
  refine sm_T_go 2 (c1 := (23, [some (.inr (.inr (some (13, 0)))), some (.inl c_), some (.inl i_), some (.inl f_)], [.inl 63, .inl f_, .inr (.inl (S0_.2.2.2 292 0 (25600 * c_ + 20 * i_ + (f_ / 64)).toNat))], S0_)) rfl ?_
  refine sm_T_bin (w := (f_ % 64)) rfl (bi_msk (k := 6) (by decide)) ?_ -- pc_ 23
  refine sm_T_go 5 (c1 := (29, [some (.inr (.inr (some (13, 0)))), some (.inl c_), some (.inl i_), some (.inl f_)], [.inl (sm_lcmp ((l_3 ((l_s2 ((S0_.2.2.2 292 0 (25600 * c_ + 20 * i_ + (f_ / 64)).toNat)) (f_ % 64))) 1)) 1)], S0_)) rfl ?_
  refine sm_T_b0 (a := 1) (z := 7) rfl (fun cx1_ => ?_) (fun cx1_ => ?_)
  · have cx1_ : (sm_lcmp ((l_3 ((l_s2 ((S0_.2.2.2 292 0 (25600 * c_ + 20 * i_ + (f_ / 64)).toNat)) (f_ % 64))) 1)) 1) ≠ 0 := of_decide_eq_true cx1_
    refine sm_T_go 1 (c1 := (37, [some (.inr (.inr (some (13, 0)))), some (.inl c_), some (.inl i_), some (.inl f_)], [.inl 0], S0_)) rfl ?_
    refine sm_T_rz rfl (by omega) ⟨_, _, rfl, rfl, _, rfl, ?_⟩
    omega
  · have cx1_ : ¬ ((sm_lcmp ((l_3 ((l_s2 ((S0_.2.2.2 292 0 (25600 * c_ + 20 * i_ + (f_ / 64)).toNat)) (f_ % 64))) 1)) 1) ≠ 0) := of_decide_eq_false cx1_
    refine sm_T_go 2 (c1 := (37, [some (.inr (.inr (some (13, 0)))), some (.inl c_), some (.inl i_), some (.inl f_)], [.inl 1], S0_)) rfl ?_
    refine sm_T_rz rfl (by omega) ⟨_, _, rfl, rfl, _, rfl, ?_⟩
    omega
/-! M_.manyShow -/
def vw_526 : sx_Wl := ([], [], [])
def vq_526 (c_ : Int) (f_ : Int) (S0_ : sm_S) (u_ : Option sm_V) (S1_ : sm_S) : Prop := S0_ = S1_ ∧ ∃ v_ : Int, u_ = some (.inl v_) ∧ (0 ≤ v_ ∧ v_ ≤ 1224)
set_option maxHeartbeats 400000 in
set_option maxRecDepth 20000 in
theorem vl_526 {sc_ : Nat × (Nat → Int)} (c_ : Int) (f_ : Int) (S0_ : sm_S) (hc_ : 0 ≤ c_ ∧ c_ ≤ 3) (hf_ : 0 ≤ f_ ∧ f_ ≤ 1279) : ∀ nn_ : Nat, (∀ (n_ : Int) (i_ : Int) (S_ : sm_S), gi S_ → ai_fr (sx_W vw_526) S0_ S_ → ((0 ≤ i_ ∧ i_ ≤ 1224 ∧ 0 ≤ n_ ∧ n_ ≤ i_) ∧ (S_ = S0_) ∧ True) → ((5000 - i_).toNat) < nn_ → sm_T (mt_P sc_) 1 526 (5, [some (.inr (.inr (some (13, 0)))), some (.inl c_), some (.inl f_), some (.inl n_), some (.inl i_)], [], S_) (fun ro9_ => ∃ u_ S1_, ro9_ = (.inl u_, S1_, 0) ∧ vq_526 c_ f_ S0_ u_ S1_)) := by
  intro nn_
  induction nn_ with
  | zero => exact fun _ _ _ _ _ _ h_ => absurd h_ (Nat.not_lt_zero _)
  | succ nn_ ih_ =>
    rintro n_ i_ S_ hI_ hF_ ⟨h0_, hS_, -⟩ hm_
    subst hS_
    refine sm_T_go 4 (c1 := (12, [some (.inr (.inr (some (13, 0)))), some (.inl c_), some (.inl f_), some (.inl n_), some (.inl i_)], [.inl c_, .inr (.inr (some (289, 0))), .inl i_], S_)) rfl ?_
    refine sm_T_iald (n := 4) rfl rfl (by omega) (by omega) ?_
    have bx1_ : (-1) ≤ S_.2.2.1 289 0 c_.toNat ∧ S_.2.2.1 289 0 c_.toNat ≤ 1224 := hI_.2 289 0 _
    refine sm_T_br (a := 3) (z := 28) rfl (fun cx2_ => ?_) (fun cx2_ => ?_)
    · have cx2_ : (S_.2.2.1 289 0 c_.toNat) ≤ i_ := of_decide_eq_true cx2_
      refine sm_T_go 1 (c1 := (42, [some (.inr (.inr (some (13, 0)))), some (.inl c_), some (.inl f_), some (.inl n_), some (.inl i_)], [.inl n_], S_)) rfl ?_
      refine sm_T_ri rfl ⟨_, _, rfl, (by first | rfl | exact hS_.symm), _, rfl, ?_⟩
      omega
    · have cx2_ : ¬ ((S_.2.2.1 289 0 c_.toNat) ≤ i_) := of_decide_eq_false cx2_
      refine sm_T_go 5 (c1 := (22, [some (.inr (.inr (some (13, 0)))), some (.inl c_), some (.inl f_), some (.inl n_), some (.inl i_)], [.inl f_, .inl i_, .inl c_, .inr (.inr (some (13, 0))), .inl n_], S_)) rfl ?_
      refine sm_T_cal (d1 := 0) (Q1 := vq_524 c_ i_ f_ S_) rfl rfl (by decide) (vc_524 c_ i_ f_ S_ hI_ (by omega) (by omega) (by omega)) (fun u_ Sx3_ px6_ => ?_)
      obtain ⟨rfl, vx8_, rfl, px6_⟩ := px6_
      refine sm_T_b0 (a := 0) (z := 7) rfl (fun cx9_ => ?_) (fun cx9_ => ?_)
      · have cx9_ : vx8_ = 0 := of_decide_eq_true cx9_
        refine sm_T_go 1 (c1 := (33, [some (.inr (.inr (some (13, 0)))), some (.inl c_), some (.inl f_), some (.inl n_), some (.inl i_)], [.inl 0, .inl n_], S_)) rfl ?_
        refine sm_T_bin (w := n_) rfl (bi_add (by omega) (by omega) (by omega)) ?_ -- pc_ 33
        refine sm_T_go 1 (c1 := (35, [some (.inr (.inr (some (13, 0)))), some (.inl c_), some (.inl f_), some (.inl n_), some (.inl i_)], [], S_)) rfl ?_
        refine sm_T_inc (a := 4) (z := 1) (v := i_) (w := i_ + 1) rfl rfl (by omega) (by omega) (by omega) ?_ -- pc_ 35
        refine sm_T_go 1 (c1 := (5, [some (.inr (.inr (some (13, 0)))), some (.inl c_), some (.inl f_), some (.inl n_), some (.inl (i_ + 1))], [], S_)) rfl ?_
        refine ih_ n_ (i_ + 1) S_ hI_ hF_ ⟨?_, ?_, trivial⟩ ?_
        · omega
        · rfl
        · omega
      · have cx9_ : ¬ (vx8_ = 0) := of_decide_eq_false cx9_
        refine sm_T_go 2 (c1 := (33, [some (.inr (.inr (some (13, 0)))), some (.inl c_), some (.inl f_), some (.inl n_), some (.inl i_)], [.inl 1, .inl n_], S_)) rfl ?_
        refine sm_T_bin (w := n_ + 1) rfl (bi_add (by omega) (by omega) (by omega)) ?_ -- pc_ 33
        refine sm_T_go 1 (c1 := (35, [some (.inr (.inr (some (13, 0)))), some (.inl c_), some (.inl f_), some (.inl (n_ + 1)), some (.inl i_)], [], S_)) rfl ?_
        refine sm_T_inc (a := 4) (z := 1) (v := i_) (w := i_ + 1) rfl rfl (by omega) (by omega) (by omega) ?_ -- pc_ 35
        refine sm_T_go 1 (c1 := (5, [some (.inr (.inr (some (13, 0)))), some (.inl c_), some (.inl f_), some (.inl (n_ + 1)), some (.inl (i_ + 1))], [], S_)) rfl ?_
        refine ih_ (n_ + 1) (i_ + 1) S_ hI_ hF_ ⟨?_, ?_, trivial⟩ ?_
        · omega
        · rfl
        · omega
set_option maxHeartbeats 400000 in
set_option maxRecDepth 20000 in
theorem vc_526 {sc_ : Nat × (Nat → Int)} (c_ : Int) (f_ : Int) (S0_ : sm_S) (hI_ : gi S0_) (hc_ : 0 ≤ c_ ∧ c_ ≤ 3) (hf_ : 0 ≤ f_ ∧ f_ ≤ 1279) : sm_T (mt_P sc_) 1 526 (0, [some (.inr (.inr (some (13, 0)))), some (.inl c_), some (.inl f_), none, none], [], S0_) (fun ro9_ => ∃ u_ S1_, ro9_ = (.inl u_, S1_, 0) ∧ vq_526 c_ f_ S0_ u_ S1_) := by
  have hF_ : ai_fr (sx_W vw_526) S0_ S0_ := ai_fr_rf
  refine sm_T_go 4 (c1 := (5, [some (.inr (.inr (some (13, 0)))), some (.inl c_), some (.inl f_), some (.inl 0), some (.inl 0)], [], S0_)) rfl ?_
  refine (vl_526 c_ f_ S0_ hc_ hf_ _) 0 0 S0_ hI_ hF_ ⟨?_, ?_, trivial⟩ (Nat.lt_succ_self _)
  · omega
  · rfl
/-! M_.addPattern -/
def vw_525 : sx_Wl := ([(13, 221), (13, 222)], [238, 289, 290, 291, 292, 293], [])
def vq_525 (c_ : Int) (p_ : Int) (S0_ : sm_S) (u_ : Option sm_V) (S1_ : sm_S) : Prop := u_ = none ∧ gi S1_ ∧ ai_fr (sx_W vw_525) S0_ S1_ ∧ (S1_.2.2.1 289 0 c_.toNat = S0_.2.2.1 289 0 c_.toNat + 1)
set_option maxHeartbeats 1000000 in
set_option maxRecDepth 20000 in
theorem vl_525 {sc_ : Nat × (Nat → Int)} (c_ : Int) (p_ : Int) (S0_ : sm_S) (hc_ : 0 ≤ c_ ∧ c_ ≤ 3) (hx_ : S0_.2.2.1 223 0 c_.toNat + S0_.2.2.1 224 0 c_.toNat ≤ 12) (hg_ : cgt c_ S0_) (ho_ : con c_ S0_) (hp_ : 0 ≤ p_ ∧ p_ ≤ 4095) (hs_ : 0 ≤ S0_.2.2.1 289 0 c_.toNat ∧ S0_.2.2.1 289 0 c_.toNat ≤ 1223) : ∀ nn_ : Nat, (∀ (i_ : Int) (k_ : Int) (S_ : sm_S), gi S_ → ai_fr (sx_W vw_525) S0_ S_ → ((i_ = S0_.2.2.1 289 0 c_.toNat ∧ 0 ≤ k_ ∧ k_ ≤ 20) ∧ (S_.2.2.1 289 0 = S0_.2.2.1 289 0) ∧ True) → ((9000 - k_).toNat) < nn_ → sm_T (mt_P sc_) 3 525 (36, [some (.inr (.inr (some (13, 0)))), some (.inl c_), some (.inl p_), some (.inl i_), some (.inl k_), none], [], S_) (fun ro9_ => ∃ u_ S1_, ro9_ = (.inl u_, S1_, 0) ∧ vq_525 c_ p_ S0_ u_ S1_)) ∧ (∀ (i_ : Int) (f_ : Int) (S_ : sm_S), gi S_ → ai_fr (sx_W vw_525) S0_ S_ → ((i_ = S0_.2.2.1 289 0 c_.toNat ∧ 0 ≤ f_ ∧ f_ ≤ 1224) ∧ (S_.2.2.1 289 0 = S0_.2.2.1 289 0) ∧ True) → ((5000 - f_).toNat) < nn_ → sm_T (mt_P sc_) 3 525 (80, [some (.inr (.inr (some (13, 0)))), some (.inl c_), some (.inl p_), some (.inl i_), some (.inl f_), none], [], S_) (fun ro9_ => ∃ u_ S1_, ro9_ = (.inl u_, S1_, 0) ∧ vq_525 c_ p_ S0_ u_ S1_)) := by
  intro nn_
  induction nn_ with
  | zero => exact ⟨fun _ _ _ _ _ _ h_ => absurd h_ (Nat.not_lt_zero _), fun _ _ _ _ _ _ h_ => absurd h_ (Nat.not_lt_zero _)⟩
  | succ nn_ ih_ =>
    refine ⟨?_, ?_⟩
    · rintro i_ k_ S_ hI_ hF_ ⟨h0_, h4_, -⟩ hm_
      have f223_ : S_.2.2.1 223 0 = S0_.2.2.1 223 0 := fr_arr hF_ rfl
      have f224_ : S_.2.2.1 224 0 = S0_.2.2.1 224 0 := fr_arr hF_ rfl
      have f225_ : S_.2.2.1 225 0 = S0_.2.2.1 225 0 := fr_arr hF_ rfl
      have f228_ : S_.2.2.1 228 0 = S0_.2.2.1 228 0 := fr_arr hF_ rfl
      have x223_ : S_.2.2.1 223 0 c_.toNat = S0_.2.2.1 223 0 c_.toNat := congrFun f223_ _
      have x224_ : S_.2.2.1 224 0 c_.toNat = S0_.2.2.1 224 0 c_.toNat := congrFun f224_ _
      have x225_ : S_.2.2.1 225 0 c_.toNat = S0_.2.2.1 225 0 c_.toNat := congrFun f225_ _
      have x228_ : S_.2.2.1 228 0 c_.toNat = S0_.2.2.1 228 0 c_.toNat := congrFun f228_ _
      have cA_ : 0 ≤ S_.2.2.1 223 0 c_.toNat ∧ S_.2.2.1 223 0 c_.toNat ≤ 12 := hI_.2 223 0 _
      have cB_ : 0 ≤ S_.2.2.1 224 0 c_.toNat ∧ S_.2.2.1 224 0 c_.toNat ≤ 6 := hI_.2 224 0 _
      have cG_ : 0 ≤ S_.2.2.1 228 0 c_.toNat ∧ S_.2.2.1 228 0 c_.toNat ≤ 150 := hI_.2 228 0 _
      have k4_ := cgt_fr hc_.1 hI_ hg_ hF_
      have k5_ := con_fr hc_.1 hI_ ho_ hF_
      have kf_ : fco c_ S_ = fco c_ S0_ := fco_fr hF_
      have fb9_ := fco_b hI_ (show S_.2.2.1 223 0 c_.toNat + S_.2.2.1 224 0 c_.toNat ≤ 12 by omega)
      refine sm_T_go 2 (c1 := (40, [some (.inr (.inr (some (13, 0)))), some (.inl c_), some (.inl p_), some (.inl i_), some (.inl k_), none], [.inl 20, .inl k_], S_)) rfl ?_
      refine sm_T_br (a := 3) (z := 28) rfl (fun cx1_ => ?_) (fun cx1_ => ?_)
      · have cx1_ : 20 ≤ k_ := of_decide_eq_true cx1_
        refine sm_T_go 4 (c1 := (73, [some (.inr (.inr (some (13, 0)))), some (.inl c_), some (.inl p_), some (.inl i_), some (.inl k_), none], [.inl 6, .inl p_, .inl c_, .inr (.inr (some (13, 0)))], S_)) rfl ?_
        refine sm_T_bin (w := (p_ / 64)) rfl (bi_shr (k := 6) (by decide) (by omega) (by omega)) ?_ -- pc_ 73
        refine sm_T_cal (d1 := 2) (Q1 := vq_517 c_ (p_ / 64) S_) rfl rfl (by decide) (vc_517 c_ (p_ / 64) S_ hI_ (by exact hc_) (by omega) (by exact k4_) (by exact k5_) (by omega)) (fun u_ Sx2_ px5_ => ?_)
        obtain ⟨rfl, hIx3_, hFx4_, px5_⟩ := px5_
        have hFx6_ : ai_fr (sx_W vw_525) S0_ Sx2_ := ai_fr_tr hF_ (fr_le hFx4_ rfl)
        have n74_ : Sx2_.2.2.1 289 0 = S_.2.2.1 289 0 := fr_arr hFx4_ rfl
        refine sm_T_go 2 (c1 := (80, [some (.inr (.inr (some (13, 0)))), some (.inl c_), some (.inl p_), some (.inl i_), some (.inl 0), none], [], Sx2_)) rfl ?_
        refine ih_.2 i_ 0 Sx2_ hIx3_ hFx6_ ⟨?_, ?_, trivial⟩ ?_
        · omega
        · (rw [n74_]; exact h4_)
        · omega
      · have cx1_ : ¬ (20 ≤ k_) := of_decide_eq_false cx1_
        refine sm_T_go 5 (c1 := (53, [some (.inr (.inr (some (13, 0)))), some (.inl c_), some (.inl p_), some (.inl i_), some (.inl k_), none], [.inl c_, .inl 1280, .inl 20, .inr (.inr (some (292, 0)))], S_)) rfl ?_
        refine sm_T_bin (w := 1280 * c_) rfl (bi_mul (by omega) (by omega) (by omega)) ?_ -- pc_ 53
        refine sm_T_go 1 (c1 := (55, [some (.inr (.inr (some (13, 0)))), some (.inl c_), some (.inl p_), some (.inl i_), some (.inl k_), none], [.inl i_, .inl (1280 * c_), .inl 20, .inr (.inr (some (292, 0)))], S_)) rfl ?_
        refine sm_T_bin (w := 1280 * c_ + i_) rfl (bi_add (by omega) (by omega) (by omega)) ?_ -- pc_ 55
        refine sm_T_bin (w := 25600 * c_ + 20 * i_) rfl (bi_mul (by omega) (by omega) (by omega)) ?_ -- pc_ 56
        refine sm_T_go 1 (c1 := (59, [some (.inr (.inr (some (13, 0)))), some (.inl c_), some (.inl p_), some (.inl i_), some (.inl k_), none], [.inl k_, .inl (25600 * c_ + 20 * i_), .inr (.inr (some (292, 0)))], S_)) rfl ?_
        refine sm_T_bin (w := 25600 * c_ + 20 * i_ + k_) rfl (bi_add (by omega) (by omega) (by omega)) ?_ -- pc_ 59
        refine sm_T_go 1 (c1 := (61, [some (.inr (.inr (some (13, 0)))), some (.inl c_), some (.inl p_), some (.inl i_), some (.inl k_), none], [.inr (.inl 0), .inl (25600 * c_ + 20 * i_ + k_), .inr (.inr (some (292, 0)))], S_)) rfl ?_
        refine sm_T_last (n := 102400) rfl rfl (by omega) (by omega) ?_
        have hIx7_ : gi (sm_aL S_ 292 0 (25600 * c_ + 20 * i_ + k_).toNat 0) := gi_aL hI_
        have hFx8_ : ai_fr (sx_W vw_525) S0_ (sm_aL S_ 292 0 (25600 * c_ + 20 * i_ + k_).toNat 0) := ai_fr_tr hF_ (ai_fr_aL rfl)
        refine sm_T_inc (a := 4) (z := 1) (v := k_) (w := k_ + 1) rfl rfl (by omega) (by omega) (by omega) ?_ -- pc_ 62
        refine sm_T_go 1 (c1 := (36, [some (.inr (.inr (some (13, 0)))), some (.inl c_), some (.inl p_), some (.inl i_), some (.inl (k_ + 1)), none], [], sm_aL S_ 292 0 (25600 * c_ + 20 * i_ + k_).toNat 0)) rfl ?_
        refine ih_.1 i_ (k_ + 1) (sm_aL S_ 292 0 (25600 * c_ + 20 * i_ + k_).toNat 0) hIx7_ hFx8_ ⟨?_, ?_, trivial⟩ ?_
        · omega
        · exact h4_
        · omega
    · rintro i_ f_ S_ hI_ hF_ ⟨h0_, h4_, -⟩ hm_
      have f223_ : S_.2.2.1 223 0 = S0_.2.2.1 223 0 := fr_arr hF_ rfl
      have f224_ : S_.2.2.1 224 0 = S0_.2.2.1 224 0 := fr_arr hF_ rfl
      have f225_ : S_.2.2.1 225 0 = S0_.2.2.1 225 0 := fr_arr hF_ rfl
      have f228_ : S_.2.2.1 228 0 = S0_.2.2.1 228 0 := fr_arr hF_ rfl
      have x223_ : S_.2.2.1 223 0 c_.toNat = S0_.2.2.1 223 0 c_.toNat := congrFun f223_ _
      have x224_ : S_.2.2.1 224 0 c_.toNat = S0_.2.2.1 224 0 c_.toNat := congrFun f224_ _
      have x225_ : S_.2.2.1 225 0 c_.toNat = S0_.2.2.1 225 0 c_.toNat := congrFun f225_ _
      have x228_ : S_.2.2.1 228 0 c_.toNat = S0_.2.2.1 228 0 c_.toNat := congrFun f228_ _
      have cA_ : 0 ≤ S_.2.2.1 223 0 c_.toNat ∧ S_.2.2.1 223 0 c_.toNat ≤ 12 := hI_.2 223 0 _
      have cB_ : 0 ≤ S_.2.2.1 224 0 c_.toNat ∧ S_.2.2.1 224 0 c_.toNat ≤ 6 := hI_.2 224 0 _
      have cG_ : 0 ≤ S_.2.2.1 228 0 c_.toNat ∧ S_.2.2.1 228 0 c_.toNat ≤ 150 := hI_.2 228 0 _
      have k4_ := cgt_fr hc_.1 hI_ hg_ hF_
      have k5_ := con_fr hc_.1 hI_ ho_ hF_
      have kf_ : fco c_ S_ = fco c_ S0_ := fco_fr hF_
      have fb9_ := fco_b hI_ (show S_.2.2.1 223 0 c_.toNat + S_.2.2.1 224 0 c_.toNat ≤ 12 by omega)
      refine sm_T_go 3 (c1 := (84, [some (.inr (.inr (some (13, 0)))), some (.inl c_), some (.inl p_), some (.inl i_), some (.inl f_), none], [.inl c_, .inr (.inr (some (13, 0))), .inl f_], S_)) rfl ?_
      refine sm_T_cal (d1 := 1) (Q1 := vq_514 c_ S_) rfl rfl (by decide) (vc_514 c_ S_ hI_ (by exact hc_) (by omega)) (fun u_ Sx1_ px4_ => ?_)
      obtain ⟨rfl, vx6_, rfl, px4_⟩ := px4_
      have e84_ := px4_
      refine sm_T_br (a := 3) (z := 79) rfl (fun cx7_ => ?_) (fun cx7_ => ?_)
      · have cx7_ : vx6_ ≤ f_ := of_decide_eq_true cx7_
        have x289_ : S_.2.2.1 289 0 c_.toNat = S0_.2.2.1 289 0 c_.toNat := congrFun h4_ _
        refine sm_T_go 4 (c1 := (172, [some (.inr (.inr (some (13, 0)))), some (.inl c_), some (.inl p_), some (.inl i_), some (.inl f_), none], [.inl c_, .inr (.inr (some (289, 0))), .inl c_, .inr (.inr (some (289, 0)))], S_)) rfl ?_
        refine sm_T_iald (n := 4) rfl rfl (by omega) (by omega) ?_
        have bx8_ : (-1) ≤ S_.2.2.1 289 0 c_.toNat ∧ S_.2.2.1 289 0 c_.toNat ≤ 1224 := hI_.2 289 0 _
        refine sm_T_go 1 (c1 := (174, [some (.inr (.inr (some (13, 0)))), some (.inl c_), some (.inl p_), some (.inl i_), some (.inl f_), none], [.inl 1, .inl (S_.2.2.1 289 0 c_.toNat), .inl c_, .inr (.inr (some (289, 0)))], S_)) rfl ?_
        refine sm_T_bin (w := (S_.2.2.1 289 0 c_.toNat) + 1) rfl (bi_add (by omega) (by omega) (by omega)) ?_ -- pc_ 174
        refine sm_T_iast (n := 4) rfl rfl (by omega) (by omega) ?_
        have hIx9_ : gi (sm_aI S_ 289 0 c_.toNat ((S_.2.2.1 289 0 c_.toNat) + 1)) := gi_aI hI_ (show (-1) ≤ (S_.2.2.1 289 0 c_.toNat) + 1 ∧ (S_.2.2.1 289 0 c_.toNat) + 1 ≤ 1224 from ⟨by omega, by omega⟩)
        have hFx10_ : ai_fr (sx_W vw_525) S0_ (sm_aI S_ 289 0 c_.toNat ((S_.2.2.1 289 0 c_.toNat) + 1)) := ai_fr_tr hF_ (ai_fr_aI rfl)
        refine sm_T_rv rfl ⟨_, _, rfl, rfl, hIx9_, hFx10_, ?_⟩
        rw [rd_eq, if_pos rfl]
        omega
      · have cx7_ : ¬ (vx6_ ≤ f_) := of_decide_eq_false cx7_
        refine sm_T_go 4 (c1 := (95, [some (.inr (.inr (some (13, 0)))), some (.inl c_), some (.inl p_), some (.inl i_), some (.inl f_), none], [.inl 6, .inl p_, .inl c_, .inr (.inr (some (13, 0)))], S_)) rfl ?_
        refine sm_T_bin (w := (p_ / 64)) rfl (bi_shr (k := 6) (by decide) (by omega) (by omega)) ?_ -- pc_ 95
        refine sm_T_go 1 (c1 := (98, [some (.inr (.inr (some (13, 0)))), some (.inl c_), some (.inl p_), some (.inl i_), some (.inl f_), none], [.inl f_, .inl (p_ / 64), .inl c_, .inr (.inr (some (13, 0)))], S_)) rfl ?_
        refine sm_T_cal (d1 := 2) (Q1 := vq_518 c_ (p_ / 64) f_ S_) rfl rfl (by decide) (vc_518 c_ (p_ / 64) f_ S_ hI_ (by exact hc_) (by omega) (by exact k4_) (by exact k5_) (by omega) (by omega)) (fun u_ Sx11_ px14_ => ?_)
        obtain ⟨vx16_, rfl, hIx12_, hFx13_, px14_⟩ := px14_
        have hFx15_ : ai_fr (sx_W vw_525) S0_ Sx11_ := ai_fr_tr hF_ (fr_le hFx13_ rfl)
        have n98_ : Sx11_.2.2.1 289 0 = S_.2.2.1 289 0 := fr_arr hFx13_ rfl
        refine sm_T_go 2 (c1 := (104, [some (.inr (.inr (some (13, 0)))), some (.inl c_), some (.inl p_), some (.inl i_), some (.inl f_), none], [.inl 63, .inl p_, .inr (.inl vx16_)], Sx11_)) rfl ?_
        refine sm_T_bin (w := (p_ % 64)) rfl (bi_msk (k := 6) (by decide)) ?_ -- pc_ 104
        refine sm_T_go 5 (c1 := (110, [some (.inr (.inr (some (13, 0)))), some (.inl c_), some (.inl p_), some (.inl i_), some (.inl f_), none], [.inl (sm_lcmp ((l_3 ((l_s2 vx16_ (p_ % 64))) 1)) 1)], Sx11_)) rfl ?_
        refine sm_T_b0 (a := 1) (z := 7) rfl (fun cx17_ => ?_) (fun cx17_ => ?_)
        · have cx17_ : (sm_lcmp ((l_3 ((l_s2 vx16_ (p_ % 64))) 1)) 1) ≠ 0 := of_decide_eq_true cx17_
          refine sm_T_go 7 (c1 := (130, [some (.inr (.inr (some (13, 0)))), some (.inl c_), some (.inl p_), some (.inl i_), some (.inl f_), some (.inl 0)], [.inl c_, .inl 1280, .inl 20, .inr (.inr (some (292, 0)))], Sx11_)) rfl ?_
          refine sm_T_bin (w := 1280 * c_) rfl (bi_mul (by omega) (by omega) (by omega)) ?_ -- pc_ 130
          refine sm_T_go 1 (c1 := (132, [some (.inr (.inr (some (13, 0)))), some (.inl c_), some (.inl p_), some (.inl i_), some (.inl f_), some (.inl 0)], [.inl i_, .inl (1280 * c_), .inl 20, .inr (.inr (some (292, 0)))], Sx11_)) rfl ?_
          refine sm_T_bin (w := 1280 * c_ + i_) rfl (bi_add (by omega) (by omega) (by omega)) ?_ -- pc_ 132
          refine sm_T_bin (w := 25600 * c_ + 20 * i_) rfl (bi_mul (by omega) (by omega) (by omega)) ?_ -- pc_ 133
          refine sm_T_go 2 (c1 := (138, [some (.inr (.inr (some (13, 0)))), some (.inl c_), some (.inl p_), some (.inl i_), some (.inl f_), some (.inl 0)], [.inl 6, .inl f_, .inl (25600 * c_ + 20 * i_), .inr (.inr (some (292, 0)))], Sx11_)) rfl ?_
          refine sm_T_bin (w := (f_ / 64)) rfl (bi_shr (k := 6) (by decide) (by omega) (by omega)) ?_ -- pc_ 138
          refine sm_T_bin (w := 25600 * c_ + 20 * i_ + (f_ / 64)) rfl (bi_add (by omega) (by omega) (by omega)) ?_ -- pc_ 139
          refine sm_T_go 1 (c1 := (141, [some (.inr (.inr (some (13, 0)))), some (.inl c_), some (.inl p_), some (.inl i_), some (.inl f_), some (.inl 0)], [.inl (25600 * c_ + 20 * i_ + (f_ / 64)), .inr (.inr (some (292, 0))), .inl (25600 * c_ + 20 * i_ + (f_ / 64)), .inr (.inr (some (292, 0)))], Sx11_)) rfl ?_
          refine sm_T_lald (n := 102400) rfl rfl (by omega) (by omega) ?_
          refine sm_T_go 4 (c1 := (159, [some (.inr (.inr (some (13, 0)))), some (.inl c_), some (.inl p_), some (.inl i_), some (.inl f_), some (.inl 0)], [.inr (.inl (l_4 ((Sx11_.2.2.2 292 0 (25600 * c_ + 20 * i_ + (f_ / 64)).toNat)) 0)), .inl (25600 * c_ + 20 * i_ + (f_ / 64)), .inr (.inr (some (292, 0)))], Sx11_)) rfl ?_
          refine sm_T_last (n := 102400) rfl rfl (by omega) (by omega) ?_
          have hIx18_ : gi (sm_aL Sx11_ 292 0 (25600 * c_ + 20 * i_ + (f_ / 64)).toNat ((l_4 ((Sx11_.2.2.2 292 0 (25600 * c_ + 20 * i_ + (f_ / 64)).toNat)) 0))) := gi_aL hIx12_
          have hFx19_ : ai_fr (sx_W vw_525) S0_ (sm_aL Sx11_ 292 0 (25600 * c_ + 20 * i_ + (f_ / 64)).toNat ((l_4 ((Sx11_.2.2.2 292 0 (25600 * c_ + 20 * i_ + (f_ / 64)).toNat)) 0))) := ai_fr_tr hFx15_ (ai_fr_aL rfl)
          refine sm_T_inc (a := 4) (z := 1) (v := f_) (w := f_ + 1) rfl rfl (by omega) (by omega) (by omega) ?_ -- pc_ 160
          refine sm_T_go 1 (c1 := (80, [some (.inr (.inr (some (13, 0)))), some (.inl c_), some (.inl p_), some (.inl i_), some (.inl (f_ + 1)), some (.inl 0)], [], sm_aL Sx11_ 292 0 (25600 * c_ + 20 * i_ + (f_ / 64)).toNat ((l_4 ((Sx11_.2.2.2 292 0 (25600 * c_ + 20 * i_ + (f_ / 64)).toNat)) 0)))) rfl ?_
          refine sm_T_wk [some (.inr (.inr (some (13, 0)))), some (.inl c_), some (.inl p_), some (.inl i_), some (.inl (f_ + 1)), none] (by exact ⟨rfl, rfl, rfl, rfl, rfl, trivial⟩) ?_
          refine ih_.2 i_ (f_ + 1) (sm_aL Sx11_ 292 0 (25600 * c_ + 20 * i_ + (f_ / 64)).toNat ((l_4 ((Sx11_.2.2.2 292 0 (25600 * c_ + 20 * i_ + (f_ / 64)).toNat)) 0))) hIx18_ hFx19_ ⟨?_, ?_, trivial⟩ ?_
          · omega
          · exact n98_.trans h4_
          · omega
        · have cx17_ : ¬ ((sm_lcmp ((l_3 ((l_s2 vx16_ (p_ % 64))) 1)) 1) ≠ 0) := of_decide_eq_false cx17_
          refine sm_T_go 8 (c1 := (130, [some (.inr (.inr (some (13, 0)))), some (.inl c_), some (.inl p_), some (.inl i_), some (.inl f_), some (.inl 1)], [.inl c_, .inl 1280, .inl 20, .inr (.inr (some (292, 0)))], Sx11_)) rfl ?_
          refine sm_T_bin (w := 1280 * c_) rfl (bi_mul (by omega) (by omega) (by omega)) ?_ -- pc_ 130
          refine sm_T_go 1 (c1 := (132, [some (.inr (.inr (some (13, 0)))), some (.inl c_), some (.inl p_), some (.inl i_), some (.inl f_), some (.inl 1)], [.inl i_, .inl (1280 * c_), .inl 20, .inr (.inr (some (292, 0)))], Sx11_)) rfl ?_
          refine sm_T_bin (w := 1280 * c_ + i_) rfl (bi_add (by omega) (by omega) (by omega)) ?_ -- pc_ 132
          refine sm_T_bin (w := 25600 * c_ + 20 * i_) rfl (bi_mul (by omega) (by omega) (by omega)) ?_ -- pc_ 133
          refine sm_T_go 2 (c1 := (138, [some (.inr (.inr (some (13, 0)))), some (.inl c_), some (.inl p_), some (.inl i_), some (.inl f_), some (.inl 1)], [.inl 6, .inl f_, .inl (25600 * c_ + 20 * i_), .inr (.inr (some (292, 0)))], Sx11_)) rfl ?_
          refine sm_T_bin (w := (f_ / 64)) rfl (bi_shr (k := 6) (by decide) (by omega) (by omega)) ?_ -- pc_ 138
          refine sm_T_bin (w := 25600 * c_ + 20 * i_ + (f_ / 64)) rfl (bi_add (by omega) (by omega) (by omega)) ?_ -- pc_ 139
          refine sm_T_go 1 (c1 := (141, [some (.inr (.inr (some (13, 0)))), some (.inl c_), some (.inl p_), some (.inl i_), some (.inl f_), some (.inl 1)], [.inl (25600 * c_ + 20 * i_ + (f_ / 64)), .inr (.inr (some (292, 0))), .inl (25600 * c_ + 20 * i_ + (f_ / 64)), .inr (.inr (some (292, 0)))], Sx11_)) rfl ?_
          refine sm_T_lald (n := 102400) rfl rfl (by omega) (by omega) ?_
          refine sm_T_go 5 (c1 := (152, [some (.inr (.inr (some (13, 0)))), some (.inl c_), some (.inl p_), some (.inl i_), some (.inl f_), some (.inl 1)], [.inl 63, .inl f_, .inr (.inl 1), .inr (.inl (Sx11_.2.2.2 292 0 (25600 * c_ + 20 * i_ + (f_ / 64)).toNat)), .inl (25600 * c_ + 20 * i_ + (f_ / 64)), .inr (.inr (some (292, 0)))], Sx11_)) rfl ?_
          refine sm_T_bin (w := (f_ % 64)) rfl (bi_msk (k := 6) (by decide)) ?_ -- pc_ 152
          refine sm_T_go 3 (c1 := (159, [some (.inr (.inr (some (13, 0)))), some (.inl c_), some (.inl p_), some (.inl i_), some (.inl f_), some (.inl 1)], [.inr (.inl (l_4 ((Sx11_.2.2.2 292 0 (25600 * c_ + 20 * i_ + (f_ / 64)).toNat)) ((l_s0 1 (f_ % 64))))), .inl (25600 * c_ + 20 * i_ + (f_ / 64)), .inr (.inr (some (292, 0)))], Sx11_)) rfl ?_
          refine sm_T_last (n := 102400) rfl rfl (by omega) (by omega) ?_
          have hIx20_ : gi (sm_aL Sx11_ 292 0 (25600 * c_ + 20 * i_ + (f_ / 64)).toNat ((l_4 ((Sx11_.2.2.2 292 0 (25600 * c_ + 20 * i_ + (f_ / 64)).toNat)) ((l_s0 1 (f_ % 64)))))) := gi_aL hIx12_
          have hFx21_ : ai_fr (sx_W vw_525) S0_ (sm_aL Sx11_ 292 0 (25600 * c_ + 20 * i_ + (f_ / 64)).toNat ((l_4 ((Sx11_.2.2.2 292 0 (25600 * c_ + 20 * i_ + (f_ / 64)).toNat)) ((l_s0 1 (f_ % 64)))))) := ai_fr_tr hFx15_ (ai_fr_aL rfl)
          refine sm_T_inc (a := 4) (z := 1) (v := f_) (w := f_ + 1) rfl rfl (by omega) (by omega) (by omega) ?_ -- pc_ 160
          refine sm_T_go 1 (c1 := (80, [some (.inr (.inr (some (13, 0)))), some (.inl c_), some (.inl p_), some (.inl i_), some (.inl (f_ + 1)), some (.inl 1)], [], sm_aL Sx11_ 292 0 (25600 * c_ + 20 * i_ + (f_ / 64)).toNat ((l_4 ((Sx11_.2.2.2 292 0 (25600 * c_ + 20 * i_ + (f_ / 64)).toNat)) ((l_s0 1 (f_ % 64))))))) rfl ?_
          refine sm_T_wk [some (.inr (.inr (some (13, 0)))), some (.inl c_), some (.inl p_), some (.inl i_), some (.inl (f_ + 1)), none] (by exact ⟨rfl, rfl, rfl, rfl, rfl, trivial⟩) ?_
          refine ih_.2 i_ (f_ + 1) (sm_aL Sx11_ 292 0 (25600 * c_ + 20 * i_ + (f_ / 64)).toNat ((l_4 ((Sx11_.2.2.2 292 0 (25600 * c_ + 20 * i_ + (f_ / 64)).toNat)) ((l_s0 1 (f_ % 64)))))) hIx20_ hFx21_ ⟨?_, ?_, trivial⟩ ?_
          · omega
          · exact n98_.trans h4_
          · omega
set_option maxHeartbeats 1000000 in
set_option maxRecDepth 20000 in
theorem vc_525 {sc_ : Nat × (Nat → Int)} (c_ : Int) (p_ : Int) (S0_ : sm_S) (hI_ : gi S0_) (hc_ : 0 ≤ c_ ∧ c_ ≤ 3) (hx_ : S0_.2.2.1 223 0 c_.toNat + S0_.2.2.1 224 0 c_.toNat ≤ 12) (hg_ : cgt c_ S0_) (ho_ : con c_ S0_) (hp_ : 0 ≤ p_ ∧ p_ ≤ 4095) (hs_ : 0 ≤ S0_.2.2.1 289 0 c_.toNat ∧ S0_.2.2.1 289 0 c_.toNat ≤ 1223) : sm_T (mt_P sc_) 3 525 (0, [some (.inr (.inr (some (13, 0)))), some (.inl c_), some (.inl p_), none, none, none], [], S0_) (fun ro9_ => ∃ u_ S1_, ro9_ = (.inl u_, S1_, 0) ∧ vq_525 c_ p_ S0_ u_ S1_) := by
  have hF_ : ai_fr (sx_W vw_525) S0_ S0_ := ai_fr_rf
  refine sm_T_go 3 (c1 := (5, [some (.inr (.inr (some (13, 0)))), some (.inl c_), some (.inl p_), none, none, none], [.inl c_, .inr (.inr (some (289, 0)))], S0_)) rfl ?_
  refine sm_T_iald (n := 4) rfl rfl (by omega) (by omega) ?_
  have bx1_ : (-1) ≤ S0_.2.2.1 289 0 c_.toNat ∧ S0_.2.2.1 289 0 c_.toNat ≤ 1224 := hI_.2 289 0 _
  refine sm_T_go 5 (c1 := (15, [some (.inr (.inr (some (13, 0)))), some (.inl c_), some (.inl p_), some (.inl (S0_.2.2.1 289 0 c_.toNat)), none, none], [.inl c_, .inl 1280, .inr (.inr (some (290, 0)))], S0_)) rfl ?_
  refine sm_T_bin (w := 1280 * c_) rfl (bi_mul (by omega) (by omega) (by omega)) ?_ -- pc_ 15
  refine sm_T_go 1 (c1 := (17, [some (.inr (.inr (some (13, 0)))), some (.inl c_), some (.inl p_), some (.inl (S0_.2.2.1 289 0 c_.toNat)), none, none], [.inl (S0_.2.2.1 289 0 c_.toNat), .inl (1280 * c_), .inr (.inr (some (290, 0)))], S0_)) rfl ?_
  refine sm_T_bin (w := 1280 * c_ + (S0_.2.2.1 289 0 c_.toNat)) rfl (bi_add (by omega) (by omega) (by omega)) ?_ -- pc_ 17
  refine sm_T_go 1 (c1 := (19, [some (.inr (.inr (some (13, 0)))), some (.inl c_), some (.inl p_), some (.inl (S0_.2.2.1 289 0 c_.toNat)), none, none], [.inl p_, .inl (1280 * c_ + (S0_.2.2.1 289 0 c_.toNat)), .inr (.inr (some (290, 0)))], S0_)) rfl ?_
  refine sm_T_iast (n := 5120) rfl rfl (by omega) (by omega) ?_
  have hIx2_ : gi (sm_aI S0_ 290 0 (1280 * c_ + (S0_.2.2.1 289 0 c_.toNat)).toNat p_) := gi_aI hI_ (show 0 ≤ p_ ∧ p_ ≤ 4095 from ⟨by omega, by omega⟩)
  have hFx3_ : ai_fr (sx_W vw_525) S0_ (sm_aI S0_ 290 0 (1280 * c_ + (S0_.2.2.1 289 0 c_.toNat)).toNat p_) := ai_fr_tr hF_ (ai_fr_aI rfl)
  refine sm_T_go 4 (c1 := (28, [some (.inr (.inr (some (13, 0)))), some (.inl c_), some (.inl p_), some (.inl (S0_.2.2.1 289 0 c_.toNat)), none, none], [.inl c_, .inl 1280, .inr (.inr (some (291, 0)))], sm_aI S0_ 290 0 (1280 * c_ + (S0_.2.2.1 289 0 c_.toNat)).toNat p_)) rfl ?_
  refine sm_T_bin (w := 1280 * c_) rfl (bi_mul (by omega) (by omega) (by omega)) ?_ -- pc_ 28
  refine sm_T_go 1 (c1 := (30, [some (.inr (.inr (some (13, 0)))), some (.inl c_), some (.inl p_), some (.inl (S0_.2.2.1 289 0 c_.toNat)), none, none], [.inl (S0_.2.2.1 289 0 c_.toNat), .inl (1280 * c_), .inr (.inr (some (291, 0)))], sm_aI S0_ 290 0 (1280 * c_ + (S0_.2.2.1 289 0 c_.toNat)).toNat p_)) rfl ?_
  refine sm_T_bin (w := 1280 * c_ + (S0_.2.2.1 289 0 c_.toNat)) rfl (bi_add (by omega) (by omega) (by omega)) ?_ -- pc_ 30
  refine sm_T_go 1 (c1 := (32, [some (.inr (.inr (some (13, 0)))), some (.inl c_), some (.inl p_), some (.inl (S0_.2.2.1 289 0 c_.toNat)), none, none], [.inl 0, .inl (1280 * c_ + (S0_.2.2.1 289 0 c_.toNat)), .inr (.inr (some (291, 0)))], sm_aI S0_ 290 0 (1280 * c_ + (S0_.2.2.1 289 0 c_.toNat)).toNat p_)) rfl ?_
  refine sm_T_zas1 (n := 5120) rfl rfl (by omega) (by omega) (by omega) ?_
  have hIx4_ : gi (sm_aI (sm_aI S0_ 290 0 (1280 * c_ + (S0_.2.2.1 289 0 c_.toNat)).toNat p_) 291 0 (1280 * c_ + (S0_.2.2.1 289 0 c_.toNat)).toNat 0) := gi_aI hIx2_ (show 0 ≤ 0 ∧ 0 ≤ 1 from ⟨by omega, by omega⟩)
  have hFx5_ : ai_fr (sx_W vw_525) S0_ (sm_aI (sm_aI S0_ 290 0 (1280 * c_ + (S0_.2.2.1 289 0 c_.toNat)).toNat p_) 291 0 (1280 * c_ + (S0_.2.2.1 289 0 c_.toNat)).toNat 0) := ai_fr_tr hFx3_ (ai_fr_aI rfl)
  refine sm_T_go 2 (c1 := (36, [some (.inr (.inr (some (13, 0)))), some (.inl c_), some (.inl p_), some (.inl (S0_.2.2.1 289 0 c_.toNat)), some (.inl 0), none], [], sm_aI (sm_aI S0_ 290 0 (1280 * c_ + (S0_.2.2.1 289 0 c_.toNat)).toNat p_) 291 0 (1280 * c_ + (S0_.2.2.1 289 0 c_.toNat)).toNat 0)) rfl ?_
  refine (vl_525 c_ p_ S0_ hc_ hx_ hg_ ho_ hp_ hs_ _).1 (S0_.2.2.1 289 0 c_.toNat) 0 (sm_aI (sm_aI S0_ 290 0 (1280 * c_ + (S0_.2.2.1 289 0 c_.toNat)).toNat p_) 291 0 (1280 * c_ + (S0_.2.2.1 289 0 c_.toNat)).toNat 0) hIx4_ hFx5_ ⟨?_, ?_, trivial⟩ (Nat.lt_succ_self _)
  · omega
  · (funext j9_; (try simp only [rd_eq, rd_ne, rf_eq, rf_nk, rf_nt, rd_fa, rd_af, rd_fl, rd_al, rd_lf, rd_la, rd_leq, rd_lne, rd_fr, rd_ar, ne_eq, Nat.reduceEqDiff, not_false_eq_true]))
/-! M_.dropPattern -/
def vw_527 : sx_Wl := ([], [289, 290, 292], [])
def vq_527 (c_ : Int) (i_ : Int) (S0_ : sm_S) (u_ : Option sm_V) (S1_ : sm_S) : Prop := u_ = none ∧ gi S1_ ∧ ai_fr (sx_W vw_527) S0_ S1_ ∧ (S1_.2.2.1 289 0 c_.toNat = S0_.2.2.1 289 0 c_.toNat - 1)
set_option maxHeartbeats 400000 in
set_option maxRecDepth 20000 in
theorem vl_527 {sc_ : Nat × (Nat → Int)} (c_ : Int) (i_ : Int) (S0_ : sm_S) (hc_ : 0 ≤ c_ ∧ c_ ≤ 3) (hi_ : 0 ≤ i_ ∧ i_ < S0_.2.2.1 289 0 c_.toNat) : ∀ nn_ : Nat, (∀ (k_ : Int) (S_ : sm_S), gi S_ → ai_fr (sx_W vw_527) S0_ S_ → ((0 ≤ k_ ∧ k_ ≤ 1224 ∧ S0_.2.2.1 289 0 c_.toNat ≤ 1224) ∧ (S_.2.2.1 289 0 c_.toNat = S0_.2.2.1 289 0 c_.toNat - 1) ∧ True) → ((100 * (5000 - k_) + 90).toNat) < nn_ → sm_T (mt_P sc_) 0 527 (12, [some (.inr (.inr (some (13, 0)))), some (.inl c_), some (.inl i_), some (.inl k_), none], [], S_) (fun ro9_ => ∃ u_ S1_, ro9_ = (.inl u_, S1_, 0) ∧ vq_527 c_ i_ S0_ u_ S1_)) ∧ (∀ (k_ : Int) (j_ : Int) (S_ : sm_S), gi S_ → ai_fr (sx_W vw_527) S0_ S_ → ((0 ≤ k_ ∧ k_ < 1224 ∧ 0 ≤ j_ ∧ j_ ≤ 20 ∧ S0_.2.2.1 289 0 c_.toNat ≤ 1224) ∧ (S_.2.2.1 289 0 c_.toNat = S0_.2.2.1 289 0 c_.toNat - 1) ∧ True) → ((100 * (5000 - k_) + 80 - j_).toNat) < nn_ → sm_T (mt_P sc_) 0 527 (51, [some (.inr (.inr (some (13, 0)))), some (.inl c_), some (.inl i_), some (.inl k_), some (.inl j_)], [], S_) (fun ro9_ => ∃ u_ S1_, ro9_ = (.inl u_, S1_, 0) ∧ vq_527 c_ i_ S0_ u_ S1_)) := by
  intro nn_
  induction nn_ with
  | zero => exact ⟨fun _ _ _ _ _ h_ => absurd h_ (Nat.not_lt_zero _), fun _ _ _ _ _ _ h_ => absurd h_ (Nat.not_lt_zero _)⟩
  | succ nn_ ih_ =>
    refine ⟨?_, ?_⟩
    · rintro k_ S_ hI_ hF_ ⟨h0_, h4_, -⟩ hm_
      refine sm_T_go 4 (c1 := (18, [some (.inr (.inr (some (13, 0)))), some (.inl c_), some (.inl i_), some (.inl k_), none], [.inl c_, .inr (.inr (some (289, 0))), .inl k_], S_)) rfl ?_
      refine sm_T_iald (n := 4) rfl rfl (by omega) (by omega) ?_
      have bx1_ : (-1) ≤ S_.2.2.1 289 0 c_.toNat ∧ S_.2.2.1 289 0 c_.toNat ≤ 1224 := hI_.2 289 0 _
      refine sm_T_br (a := 3) (z := 89) rfl (fun cx2_ => ?_) (fun cx2_ => ?_)
      · have cx2_ : (S_.2.2.1 289 0 c_.toNat) ≤ k_ := of_decide_eq_true cx2_
        refine sm_T_rv rfl ⟨_, _, rfl, rfl, hI_, hF_, ?_⟩
        exact h4_
      · have cx2_ : ¬ ((S_.2.2.1 289 0 c_.toNat) ≤ k_) := of_decide_eq_false cx2_
        refine sm_T_go 4 (c1 := (30, [some (.inr (.inr (some (13, 0)))), some (.inl c_), some (.inl i_), some (.inl k_), none], [.inl c_, .inl 1280, .inr (.inr (some (290, 0)))], S_)) rfl ?_
        refine sm_T_bin (w := 1280 * c_) rfl (bi_mul (by omega) (by omega) (by omega)) ?_ -- pc_ 30
        refine sm_T_go 1 (c1 := (32, [some (.inr (.inr (some (13, 0)))), some (.inl c_), some (.inl i_), some (.inl k_), none], [.inl k_, .inl (1280 * c_), .inr (.inr (some (290, 0)))], S_)) rfl ?_
        refine sm_T_bin (w := 1280 * c_ + k_) rfl (bi_add (by omega) (by omega) (by omega)) ?_ -- pc_ 32
        refine sm_T_go 4 (c1 := (41, [some (.inr (.inr (some (13, 0)))), some (.inl c_), some (.inl i_), some (.inl k_), none], [.inl c_, .inl 1280, .inr (.inr (some (290, 0))), .inl (1280 * c_ + k_), .inr (.inr (some (290, 0)))], S_)) rfl ?_
        refine sm_T_bin (w := 1280 * c_) rfl (bi_mul (by omega) (by omega) (by omega)) ?_ -- pc_ 41
        refine sm_T_go 1 (c1 := (43, [some (.inr (.inr (some (13, 0)))), some (.inl c_), some (.inl i_), some (.inl k_), none], [.inl k_, .inl (1280 * c_), .inr (.inr (some (290, 0))), .inl (1280 * c_ + k_), .inr (.inr (some (290, 0)))], S_)) rfl ?_
        refine sm_T_bin (w := 1280 * c_ + k_) rfl (bi_add (by omega) (by omega) (by omega)) ?_ -- pc_ 43
        refine sm_T_go 1 (c1 := (45, [some (.inr (.inr (some (13, 0)))), some (.inl c_), some (.inl i_), some (.inl k_), none], [.inl 1, .inl (1280 * c_ + k_), .inr (.inr (some (290, 0))), .inl (1280 * c_ + k_), .inr (.inr (some (290, 0)))], S_)) rfl ?_
        refine sm_T_bin (w := 1280 * c_ + k_ + 1) rfl (bi_add (by omega) (by omega) (by omega)) ?_ -- pc_ 45
        refine sm_T_iald (n := 5120) rfl rfl (by omega) (by omega) ?_
        have bx3_ : 0 ≤ S_.2.2.1 290 0 (1280 * c_ + k_ + 1).toNat ∧ S_.2.2.1 290 0 (1280 * c_ + k_ + 1).toNat ≤ 4095 := hI_.2 290 0 _
        refine sm_T_iast (n := 5120) rfl rfl (by omega) (by omega) ?_
        have hIx4_ : gi (sm_aI S_ 290 0 (1280 * c_ + k_).toNat (S_.2.2.1 290 0 (1280 * c_ + k_ + 1).toNat)) := gi_aI hI_ (show 0 ≤ (S_.2.2.1 290 0 (1280 * c_ + k_ + 1).toNat) ∧ (S_.2.2.1 290 0 (1280 * c_ + k_ + 1).toNat) ≤ 4095 from ⟨by omega, by omega⟩)
        have hFx5_ : ai_fr (sx_W vw_527) S0_ (sm_aI S_ 290 0 (1280 * c_ + k_).toNat (S_.2.2.1 290 0 (1280 * c_ + k_ + 1).toNat)) := ai_fr_tr hF_ (ai_fr_aI rfl)
        refine sm_T_go 2 (c1 := (51, [some (.inr (.inr (some (13, 0)))), some (.inl c_), some (.inl i_), some (.inl k_), some (.inl 0)], [], sm_aI S_ 290 0 (1280 * c_ + k_).toNat (S_.2.2.1 290 0 (1280 * c_ + k_ + 1).toNat))) rfl ?_
        refine ih_.2 k_ 0 (sm_aI S_ 290 0 (1280 * c_ + k_).toNat (S_.2.2.1 290 0 (1280 * c_ + k_ + 1).toNat)) hIx4_ hFx5_ ⟨?_, ?_, trivial⟩ ?_
        · omega
        · (rw [rd_ne (by decide)]; exact h4_)
        · omega
    · rintro k_ j_ S_ hI_ hF_ ⟨h0_, h4_, -⟩ hm_
      refine sm_T_go 2 (c1 := (55, [some (.inr (.inr (some (13, 0)))), some (.inl c_), some (.inl i_), some (.inl k_), some (.inl j_)], [.inl 20, .inl j_], S_)) rfl ?_
      refine sm_T_br (a := 3) (z := 47) rfl (fun cx1_ => ?_) (fun cx1_ => ?_)
      · have cx1_ : 20 ≤ j_ := of_decide_eq_true cx1_
        refine sm_T_inc (a := 3) (z := 1) (v := k_) (w := k_ + 1) rfl rfl (by omega) (by omega) (by omega) ?_ -- pc_ 102
        refine sm_T_go 1 (c1 := (12, [some (.inr (.inr (some (13, 0)))), some (.inl c_), some (.inl i_), some (.inl (k_ + 1)), some (.inl j_)], [], S_)) rfl ?_
        refine sm_T_wk [some (.inr (.inr (some (13, 0)))), some (.inl c_), some (.inl i_), some (.inl (k_ + 1)), none] (by exact ⟨rfl, rfl, rfl, rfl, trivial⟩) ?_
        refine ih_.1 (k_ + 1) S_ hI_ hF_ ⟨?_, ?_, trivial⟩ ?_
        · omega
        · exact h4_
        · omega
      · have cx1_ : ¬ (20 ≤ j_) := of_decide_eq_false cx1_
        refine sm_T_go 5 (c1 := (68, [some (.inr (.inr (some (13, 0)))), some (.inl c_), some (.inl i_), some (.inl k_), some (.inl j_)], [.inl c_, .inl 1280, .inl 20, .inr (.inr (some (292, 0)))], S_)) rfl ?_
        refine sm_T_bin (w := 1280 * c_) rfl (bi_mul (by omega) (by omega) (by omega)) ?_ -- pc_ 68
        refine sm_T_go 1 (c1 := (70, [some (.inr (.inr (some (13, 0)))), some (.inl c_), some (.inl i_), some (.inl k_), some (.inl j_)], [.inl k_, .inl (1280 * c_), .inl 20, .inr (.inr (some (292, 0)))], S_)) rfl ?_
        refine sm_T_bin (w := 1280 * c_ + k_) rfl (bi_add (by omega) (by omega) (by omega)) ?_ -- pc_ 70
        refine sm_T_bin (w := 25600 * c_ + 20 * k_) rfl (bi_mul (by omega) (by omega) (by omega)) ?_ -- pc_ 71
        refine sm_T_go 1 (c1 := (74, [some (.inr (.inr (some (13, 0)))), some (.inl c_), some (.inl i_), some (.inl k_), some (.inl j_)], [.inl j_, .inl (25600 * c_ + 20 * k_), .inr (.inr (some (292, 0)))], S_)) rfl ?_
        refine sm_T_bin (w := 25600 * c_ + 20 * k_ + j_) rfl (bi_add (by omega) (by omega) (by omega)) ?_ -- pc_ 74
        refine sm_T_go 5 (c1 := (85, [some (.inr (.inr (some (13, 0)))), some (.inl c_), some (.inl i_), some (.inl k_), some (.inl j_)], [.inl c_, .inl 1280, .inl 20, .inr (.inr (some (292, 0))), .inl (25600 * c_ + 20 * k_ + j_), .inr (.inr (some (292, 0)))], S_)) rfl ?_
        refine sm_T_bin (w := 1280 * c_) rfl (bi_mul (by omega) (by omega) (by omega)) ?_ -- pc_ 85
        refine sm_T_go 1 (c1 := (87, [some (.inr (.inr (some (13, 0)))), some (.inl c_), some (.inl i_), some (.inl k_), some (.inl j_)], [.inl k_, .inl (1280 * c_), .inl 20, .inr (.inr (some (292, 0))), .inl (25600 * c_ + 20 * k_ + j_), .inr (.inr (some (292, 0)))], S_)) rfl ?_
        refine sm_T_bin (w := 1280 * c_ + k_) rfl (bi_add (by omega) (by omega) (by omega)) ?_ -- pc_ 87
        refine sm_T_go 1 (c1 := (89, [some (.inr (.inr (some (13, 0)))), some (.inl c_), some (.inl i_), some (.inl k_), some (.inl j_)], [.inl 1, .inl (1280 * c_ + k_), .inl 20, .inr (.inr (some (292, 0))), .inl (25600 * c_ + 20 * k_ + j_), .inr (.inr (some (292, 0)))], S_)) rfl ?_
        refine sm_T_bin (w := 1280 * c_ + k_ + 1) rfl (bi_add (by omega) (by omega) (by omega)) ?_ -- pc_ 89
        refine sm_T_bin (w := 25600 * c_ + 20 * k_ + 20) rfl (bi_mul (by omega) (by omega) (by omega)) ?_ -- pc_ 90
        refine sm_T_go 1 (c1 := (93, [some (.inr (.inr (some (13, 0)))), some (.inl c_), some (.inl i_), some (.inl k_), some (.inl j_)], [.inl j_, .inl (25600 * c_ + 20 * k_ + 20), .inr (.inr (some (292, 0))), .inl (25600 * c_ + 20 * k_ + j_), .inr (.inr (some (292, 0)))], S_)) rfl ?_
        refine sm_T_bin (w := 25600 * c_ + 20 * k_ + j_ + 20) rfl (bi_add (by omega) (by omega) (by omega)) ?_ -- pc_ 93
        refine sm_T_lald (n := 102400) rfl rfl (by omega) (by omega) ?_
        refine sm_T_last (n := 102400) rfl rfl (by omega) (by omega) ?_
        have hIx2_ : gi (sm_aL S_ 292 0 (25600 * c_ + 20 * k_ + j_).toNat ((S_.2.2.2 292 0 (25600 * c_ + 20 * k_ + j_ + 20).toNat))) := gi_aL hI_
        have hFx3_ : ai_fr (sx_W vw_527) S0_ (sm_aL S_ 292 0 (25600 * c_ + 20 * k_ + j_).toNat ((S_.2.2.2 292 0 (25600 * c_ + 20 * k_ + j_ + 20).toNat))) := ai_fr_tr hF_ (ai_fr_aL rfl)
        refine sm_T_inc (a := 4) (z := 1) (v := j_) (w := j_ + 1) rfl rfl (by omega) (by omega) (by omega) ?_ -- pc_ 96
        refine sm_T_go 1 (c1 := (51, [some (.inr (.inr (some (13, 0)))), some (.inl c_), some (.inl i_), some (.inl k_), some (.inl (j_ + 1))], [], sm_aL S_ 292 0 (25600 * c_ + 20 * k_ + j_).toNat ((S_.2.2.2 292 0 (25600 * c_ + 20 * k_ + j_ + 20).toNat)))) rfl ?_
        refine ih_.2 k_ (j_ + 1) (sm_aL S_ 292 0 (25600 * c_ + 20 * k_ + j_).toNat ((S_.2.2.2 292 0 (25600 * c_ + 20 * k_ + j_ + 20).toNat))) hIx2_ hFx3_ ⟨?_, ?_, trivial⟩ ?_
        · omega
        · exact h4_
        · omega
set_option maxHeartbeats 400000 in
set_option maxRecDepth 20000 in
theorem vc_527 {sc_ : Nat × (Nat → Int)} (c_ : Int) (i_ : Int) (S0_ : sm_S) (hI_ : gi S0_) (hc_ : 0 ≤ c_ ∧ c_ ≤ 3) (hi_ : 0 ≤ i_ ∧ i_ < S0_.2.2.1 289 0 c_.toNat) : sm_T (mt_P sc_) 0 527 (0, [some (.inr (.inr (some (13, 0)))), some (.inl c_), some (.inl i_), none, none], [], S0_) (fun ro9_ => ∃ u_ S1_, ro9_ = (.inl u_, S1_, 0) ∧ vq_527 c_ i_ S0_ u_ S1_) := by
  have hF_ : ai_fr (sx_W vw_527) S0_ S0_ := ai_fr_rf
  have q1_ : (-1) ≤ S0_.2.2.1 289 0 c_.toNat ∧ S0_.2.2.1 289 0 c_.toNat ≤ 1224 := hI_.2 289 0 _
  refine sm_T_go 4 (c1 := (6, [some (.inr (.inr (some (13, 0)))), some (.inl c_), some (.inl i_), none, none], [.inl c_, .inr (.inr (some (289, 0))), .inl c_, .inr (.inr (some (289, 0)))], S0_)) rfl ?_
  refine sm_T_iald (n := 4) rfl rfl (by omega) (by omega) ?_
  have bx1_ : (-1) ≤ S0_.2.2.1 289 0 c_.toNat ∧ S0_.2.2.1 289 0 c_.toNat ≤ 1224 := hI_.2 289 0 _
  refine sm_T_go 1 (c1 := (8, [some (.inr (.inr (some (13, 0)))), some (.inl c_), some (.inl i_), none, none], [.inl 1, .inl (S0_.2.2.1 289 0 c_.toNat), .inl c_, .inr (.inr (some (289, 0)))], S0_)) rfl ?_
  refine sm_T_bin (w := (S0_.2.2.1 289 0 c_.toNat) - 1) rfl (bi_sub (by omega) (by omega) (by omega)) ?_ -- pc_ 8
  refine sm_T_iast (n := 4) rfl rfl (by omega) (by omega) ?_
  have hIx2_ : gi (sm_aI S0_ 289 0 c_.toNat ((S0_.2.2.1 289 0 c_.toNat) - 1)) := gi_aI hI_ (show (-1) ≤ (S0_.2.2.1 289 0 c_.toNat) - 1 ∧ (S0_.2.2.1 289 0 c_.toNat) - 1 ≤ 1224 from ⟨by omega, by omega⟩)
  have hFx3_ : ai_fr (sx_W vw_527) S0_ (sm_aI S0_ 289 0 c_.toNat ((S0_.2.2.1 289 0 c_.toNat) - 1)) := ai_fr_tr hF_ (ai_fr_aI rfl)
  refine sm_T_go 2 (c1 := (12, [some (.inr (.inr (some (13, 0)))), some (.inl c_), some (.inl i_), some (.inl i_), none], [], sm_aI S0_ 289 0 c_.toNat ((S0_.2.2.1 289 0 c_.toNat) - 1))) rfl ?_
  refine (vl_527 c_ i_ S0_ hc_ hi_ _).1 i_ (sm_aI S0_ 289 0 c_.toNat ((S0_.2.2.1 289 0 c_.toNat) - 1)) hIx2_ hFx3_ ⟨?_, ?_, trivial⟩ (Nat.lt_succ_self _)
  · omega
  · (rw [rd_eq, if_pos rfl])
/-! M_.tests -/
def vw_528 : sx_Wl := ([(13, 0), (13, 221), (13, 222)], [238, 289, 290, 291, 292, 293, 294], [])
def vq_528 (a1_ : Int) (S0_ : sm_S) (u_ : Option sm_V) (S1_ : sm_S) : Prop := ∃ v_ : Int, u_ = some (.inl v_) ∧ gi S1_ ∧ ai_fr (sx_W vw_528) S0_ S1_ ∧ ((-2147483648 ≤ v_ ∧ v_ ≤ 2147483647) ∧ jR S1_)
set_option maxHeartbeats 1500000 in
set_option maxRecDepth 20000 in
theorem vl_528 {sc_ : Nat × (Nat → Int)} (a1_ : Int) (S0_ : sm_S) (ha1_ : (-2147483648) ≤ a1_ ∧ a1_ ≤ 2147483647) (hJ_ : jR S0_) : ∀ nn_ : Nat, (∀ (f_ : Int) (S_ : sm_S), gi S_ → ai_fr (sx_W vw_528) S0_ S_ → ((0 ≤ a1_ ∧ a1_ < 4 ∧ 0 ≤ f_ ∧ f_ ≤ 1224 ∧ 0 ≤ S_.2.2.1 289 0 a1_.toNat ∧ S_.2.2.1 289 0 a1_.toNat ≤ f_) ∧ (S0_.2.2.1 222 0 a1_.toNat = 1) ∧ True) → (90000000 + (5000 - f_).toNat) < nn_ → sm_T (mt_P sc_) 5 528 (35, [some (.inr (.inr (some (13, 0)))), some (.inl a1_), some (.inl f_), none, none], [], S_) (fun ro9_ => ∃ u_ S1_, ro9_ = (.inl u_, S1_, 0) ∧ vq_528 a1_ S0_ u_ S1_)) ∧ (∀ (i_ : Int) (S_ : sm_S), gi S_ → ai_fr (sx_W vw_528) S0_ S_ → ((0 ≤ a1_ ∧ a1_ < 4 ∧ -1 ≤ i_ ∧ i_ < S_.2.2.1 289 0 a1_.toNat) ∧ (S0_.2.2.1 222 0 a1_.toNat = 1) ∧ True) → ((10000 * (i_ + 1) + 9000).toNat) < nn_ → sm_T (mt_P sc_) 5 528 (90, [some (.inr (.inr (some (13, 0)))), some (.inl a1_), some (.inl i_), none, none], [], S_) (fun ro9_ => ∃ u_ S1_, ro9_ = (.inl u_, S1_, 0) ∧ vq_528 a1_ S0_ u_ S1_)) ∧ (∀ (i_ : Int) (go_ : Int) (f_ : Int) (S_ : sm_S), gi S_ → ai_fr (sx_W vw_528) S0_ S_ → ((0 ≤ a1_ ∧ a1_ < 4 ∧ 0 ≤ i_ ∧ i_ < S_.2.2.1 289 0 a1_.toNat ∧ 0 ≤ f_ ∧ f_ ≤ 1224) ∧ (S0_.2.2.1 222 0 a1_.toNat = 1) ∧ True) → ((10000 * (i_ + 1) + 8000 - f_).toNat) < nn_ → sm_T (mt_P sc_) 5 528 (99, [some (.inr (.inr (some (13, 0)))), some (.inl a1_), some (.inl i_), some (.inl go_), some (.inl f_)], [], S_) (fun ro9_ => ∃ u_ S1_, ro9_ = (.inl u_, S1_, 0) ∧ vq_528 a1_ S0_ u_ S1_)) := by
  intro nn_
  induction nn_ with
  | zero => exact ⟨fun _ _ _ _ _ h_ => absurd h_ (Nat.not_lt_zero _), fun _ _ _ _ _ h_ => absurd h_ (Nat.not_lt_zero _), fun _ _ _ _ _ _ _ h_ => absurd h_ (Nat.not_lt_zero _)⟩
  | succ nn_ ih_ =>
    refine ⟨?_, ?_, ?_⟩
    · rintro f_ S_ hI_ hF_ ⟨h0_, ht_, -⟩ hm_
      have f222_ : S_.2.2.1 222 0 = S0_.2.2.1 222 0 := fr_arr hF_ rfl
      have f223_ : S_.2.2.1 223 0 = S0_.2.2.1 223 0 := fr_arr hF_ rfl
      have f224_ : S_.2.2.1 224 0 = S0_.2.2.1 224 0 := fr_arr hF_ rfl
      have f225_ : S_.2.2.1 225 0 = S0_.2.2.1 225 0 := fr_arr hF_ rfl
      have f228_ : S_.2.2.1 228 0 = S0_.2.2.1 228 0 := fr_arr hF_ rfl
      have x222_ : S_.2.2.1 222 0 a1_.toNat = S0_.2.2.1 222 0 a1_.toNat := congrFun f222_ _
      have x223_ : S_.2.2.1 223 0 a1_.toNat = S0_.2.2.1 223 0 a1_.toNat := congrFun f223_ _
      have x224_ : S_.2.2.1 224 0 a1_.toNat = S0_.2.2.1 224 0 a1_.toNat := congrFun f224_ _
      have x225_ : S_.2.2.1 225 0 a1_.toNat = S0_.2.2.1 225 0 a1_.toNat := congrFun f225_ _
      have x228_ : S_.2.2.1 228 0 a1_.toNat = S0_.2.2.1 228 0 a1_.toNat := congrFun f228_ _
      have K9_ : cRk a1_ S0_ := hJ_.2 a1_ (by omega) (by omega) ht_
      obtain ⟨K1_, K2_, K3_, K4_, K5_, K6_, K7_⟩ := K9_
      have k4_ := cgt_fr (c_ := a1_) (by omega) hI_ K4_ hF_
      have k5_ := con_fr (c_ := a1_) (by omega) hI_ K5_ hF_
      have kf_ : fco a1_ S_ = fco a1_ S0_ := fco_fr hF_
      have fb9_ := fco_b (c_ := a1_) hI_ (by omega)
      have q9_ : (-1) ≤ S_.2.2.1 289 0 a1_.toNat ∧ S_.2.2.1 289 0 a1_.toNat ≤ 1224 := hI_.2 289 0 _
      refine sm_T_go 3 (c1 := (38, [some (.inr (.inr (some (13, 0)))), some (.inl a1_), some (.inl f_), none, none], [.inl a1_, .inr (.inr (some (13, 0))), .inl f_], S_)) rfl ?_
      refine sm_T_cal (d1 := 1) (Q1 := vq_514 a1_ S_) rfl rfl (by decide) (vc_514 a1_ S_ hI_ (by omega) (by omega)) (fun u_ Sx1_ px4_ => ?_)
      obtain ⟨rfl, vx6_, rfl, px4_⟩ := px4_
      have e38_ := px4_
      refine sm_T_br (a := 3) (z := 40) rfl (fun cx7_ => ?_) (fun cx7_ => ?_)
      · have cx7_ : vx6_ ≤ f_ := of_decide_eq_true cx7_
        refine sm_T_go 3 (c1 := (86, [some (.inr (.inr (some (13, 0)))), some (.inl a1_), some (.inl f_), none, none], [.inl a1_, .inr (.inr (some (289, 0)))], S_)) rfl ?_
        refine sm_T_iald (n := 4) rfl rfl (by omega) (by omega) ?_
        have bx8_ : (-1) ≤ S_.2.2.1 289 0 a1_.toNat ∧ S_.2.2.1 289 0 a1_.toNat ≤ 1224 := hI_.2 289 0 _
        refine sm_T_go 1 (c1 := (88, [some (.inr (.inr (some (13, 0)))), some (.inl a1_), some (.inl f_), none, none], [.inl 1, .inl (S_.2.2.1 289 0 a1_.toNat)], S_)) rfl ?_
        refine sm_T_bin (w := (S_.2.2.1 289 0 a1_.toNat) - 1) rfl (bi_sub (by omega) (by omega) (by omega)) ?_ -- pc_ 88
        refine sm_T_go 1 (c1 := (90, [some (.inr (.inr (some (13, 0)))), some (.inl a1_), some (.inl ((S_.2.2.1 289 0 a1_.toNat) - 1)), none, none], [], S_)) rfl ?_
        refine ih_.2.1 ((S_.2.2.1 289 0 a1_.toNat) - 1) S_ hI_ hF_ ⟨?_, ?_, trivial⟩ ?_
        · omega
        · exact ht_
        · omega
      · have cx7_ : ¬ (vx6_ ≤ f_) := of_decide_eq_false cx7_
        refine sm_T_go 3 (c1 := (47, [some (.inr (.inr (some (13, 0)))), some (.inl a1_), some (.inl f_), none, none], [.inl f_, .inl a1_, .inr (.inr (some (13, 0)))], S_)) rfl ?_
        refine sm_T_cal (d1 := 1) (Q1 := vq_526 a1_ f_ S_) rfl rfl (by decide) (vc_526 a1_ f_ S_ hI_ (by omega) (by omega)) (fun u_ Sx9_ px12_ => ?_)
        obtain ⟨rfl, vx14_, rfl, px12_⟩ := px12_
        refine sm_T_b0 (a := 1) (z := 12) rfl (fun cx15_ => ?_) (fun cx15_ => ?_)
        · have cx15_ : vx14_ ≠ 0 := of_decide_eq_true cx15_
          refine sm_T_go 5 (c1 := (75, [some (.inr (.inr (some (13, 0)))), some (.inl a1_), some (.inl f_), some (.inl (-1)), none], [], S_)) rfl ?_
          refine sm_T_inc (a := 2) (z := 1) (v := f_) (w := f_ + 1) rfl rfl (by omega) (by omega) (by omega) ?_ -- pc_ 75
          refine sm_T_go 1 (c1 := (35, [some (.inr (.inr (some (13, 0)))), some (.inl a1_), some (.inl (f_ + 1)), some (.inl (-1)), none], [], S_)) rfl ?_
          refine sm_T_wk [some (.inr (.inr (some (13, 0)))), some (.inl a1_), some (.inl (f_ + 1)), none, none] (by exact ⟨rfl, rfl, rfl, trivial⟩) ?_
          refine ih_.1 (f_ + 1) S_ hI_ hF_ ⟨?_, ?_, trivial⟩ ?_
          · omega
          · exact ht_
          · omega
        · have cx15_ : ¬ (vx14_ ≠ 0) := of_decide_eq_false cx15_
          refine sm_T_go 3 (c1 := (56, [some (.inr (.inr (some (13, 0)))), some (.inl a1_), some (.inl f_), none, none], [.inl f_, .inl a1_, .inr (.inr (some (13, 0)))], S_)) rfl ?_
          refine sm_T_cal (d1 := 4) (Q1 := vq_520 a1_ f_ S_) rfl rfl (by decide) (vc_520 a1_ f_ S_ hI_ (by omega) (by omega) (by exact k4_) (by exact k5_) (by omega)) (fun u_ Sx16_ px19_ => ?_)
          obtain ⟨vx21_, rfl, hIx17_, hFx18_, px19_⟩ := px19_
          have hFx20_ : ai_fr (sx_W vw_528) S0_ Sx16_ := ai_fr_tr hF_ (fr_le hFx18_ rfl)
          have e56_ := px19_
          have n56_ : Sx16_.2.2.1 289 0 a1_.toNat = S_.2.2.1 289 0 a1_.toNat := congrFun (fr_arr hFx18_ rfl) _
          have j56_ := cgt_fr (c_ := a1_) (by omega) hIx17_ k4_ hFx18_
          have l56_ := con_fr (c_ := a1_) (by omega) hIx17_ k5_ hFx18_
          have m223_ : Sx16_.2.2.1 223 0 a1_.toNat = S_.2.2.1 223 0 a1_.toNat := congrFun (fr_arr hFx18_ rfl) _
          have m224_ : Sx16_.2.2.1 224 0 a1_.toNat = S_.2.2.1 224 0 a1_.toNat := congrFun (fr_arr hFx18_ rfl) _
          refine sm_T_go 4 (c1 := (66, [some (.inr (.inr (some (13, 0)))), some (.inl a1_), some (.inl f_), some (.inl vx21_), none], [.inl (-1), .inl vx21_], Sx16_)) rfl ?_
          refine sm_T_br (a := 0) (z := 9) rfl (fun cx22_ => ?_) (fun cx22_ => ?_)
          · have cx22_ : vx21_ = (-1) := of_decide_eq_true cx22_
            refine sm_T_inc (a := 2) (z := 1) (v := f_) (w := f_ + 1) rfl rfl (by omega) (by omega) (by omega) ?_ -- pc_ 75
            refine sm_T_go 1 (c1 := (35, [some (.inr (.inr (some (13, 0)))), some (.inl a1_), some (.inl (f_ + 1)), some (.inl vx21_), none], [], Sx16_)) rfl ?_
            refine sm_T_wk [some (.inr (.inr (some (13, 0)))), some (.inl a1_), some (.inl (f_ + 1)), none, none] (by exact ⟨rfl, rfl, rfl, trivial⟩) ?_
            refine ih_.1 (f_ + 1) Sx16_ hIx17_ hFx20_ ⟨?_, ?_, trivial⟩ ?_
            · omega
            · exact ht_
            · omega
          · have cx22_ : ¬ (vx21_ = (-1)) := of_decide_eq_false cx22_
            refine sm_T_go 3 (c1 := (72, [some (.inr (.inr (some (13, 0)))), some (.inl a1_), some (.inl f_), some (.inl vx21_), none], [.inl vx21_, .inl a1_, .inr (.inr (some (13, 0)))], Sx16_)) rfl ?_
            refine sm_T_cal (d1 := 3) (Q1 := vq_525 a1_ vx21_ Sx16_) rfl rfl (by decide) (vc_525 a1_ vx21_ Sx16_ hIx17_ (by omega) (by omega) (by exact j56_) (by exact l56_) (by omega) (by omega)) (fun u_ Sx23_ px26_ => ?_)
            obtain ⟨rfl, hIx24_, hFx25_, px26_⟩ := px26_
            have hFx27_ : ai_fr (sx_W vw_528) S0_ Sx23_ := ai_fr_tr hFx20_ (fr_le hFx25_ rfl)
            have e72_ := px26_
            refine sm_T_inc (a := 2) (z := 1) (v := f_) (w := f_ + 1) rfl rfl (by omega) (by omega) (by omega) ?_ -- pc_ 75
            refine sm_T_go 1 (c1 := (35, [some (.inr (.inr (some (13, 0)))), some (.inl a1_), some (.inl (f_ + 1)), some (.inl vx21_), none], [], Sx23_)) rfl ?_
            refine sm_T_wk [some (.inr (.inr (some (13, 0)))), some (.inl a1_), some (.inl (f_ + 1)), none, none] (by exact ⟨rfl, rfl, rfl, trivial⟩) ?_
            refine ih_.1 (f_ + 1) Sx23_ hIx24_ hFx27_ ⟨?_, ?_, trivial⟩ ?_
            · omega
            · exact ht_
            · omega
    · rintro i_ S_ hI_ hF_ ⟨h0_, ht_, -⟩ hm_
      have f222_ : S_.2.2.1 222 0 = S0_.2.2.1 222 0 := fr_arr hF_ rfl
      have f223_ : S_.2.2.1 223 0 = S0_.2.2.1 223 0 := fr_arr hF_ rfl
      have f224_ : S_.2.2.1 224 0 = S0_.2.2.1 224 0 := fr_arr hF_ rfl
      have f225_ : S_.2.2.1 225 0 = S0_.2.2.1 225 0 := fr_arr hF_ rfl
      have f228_ : S_.2.2.1 228 0 = S0_.2.2.1 228 0 := fr_arr hF_ rfl
      have x222_ : S_.2.2.1 222 0 a1_.toNat = S0_.2.2.1 222 0 a1_.toNat := congrFun f222_ _
      have x223_ : S_.2.2.1 223 0 a1_.toNat = S0_.2.2.1 223 0 a1_.toNat := congrFun f223_ _
      have x224_ : S_.2.2.1 224 0 a1_.toNat = S0_.2.2.1 224 0 a1_.toNat := congrFun f224_ _
      have x225_ : S_.2.2.1 225 0 a1_.toNat = S0_.2.2.1 225 0 a1_.toNat := congrFun f225_ _
      have x228_ : S_.2.2.1 228 0 a1_.toNat = S0_.2.2.1 228 0 a1_.toNat := congrFun f228_ _
      have K9_ : cRk a1_ S0_ := hJ_.2 a1_ (by omega) (by omega) ht_
      obtain ⟨K1_, K2_, K3_, K4_, K5_, K6_, K7_⟩ := K9_
      have k4_ := cgt_fr (c_ := a1_) (by omega) hI_ K4_ hF_
      have k5_ := con_fr (c_ := a1_) (by omega) hI_ K5_ hF_
      have kf_ : fco a1_ S_ = fco a1_ S0_ := fco_fr hF_
      have fb9_ := fco_b (c_ := a1_) hI_ (by omega)
      have q9_ : (-1) ≤ S_.2.2.1 289 0 a1_.toNat ∧ S_.2.2.1 289 0 a1_.toNat ≤ 1224 := hI_.2 289 0 _
      refine sm_T_go 1 (c1 := (91, [some (.inr (.inr (some (13, 0)))), some (.inl a1_), some (.inl i_), none, none], [.inl i_], S_)) rfl ?_
      refine sm_T_b0 (a := 2) (z := 72) rfl (fun cx1_ => ?_) (fun cx1_ => ?_)
      · have cx1_ : i_ < 0 := of_decide_eq_true cx1_
        refine sm_T_go 3 (c1 := (168, [some (.inr (.inr (some (13, 0)))), some (.inl a1_), some (.inl i_), none, none], [.inl a1_, .inr (.inr (some (289, 0)))], S_)) rfl ?_
        refine sm_T_iald (n := 4) rfl rfl (by omega) (by omega) ?_
        have bx2_ : (-1) ≤ S_.2.2.1 289 0 a1_.toNat ∧ S_.2.2.1 289 0 a1_.toNat ≤ 1224 := hI_.2 289 0 _
        refine sm_T_ri rfl ⟨_, _, rfl, _, rfl, hI_, hF_, ?_⟩
        exact ⟨⟨by omega, by omega⟩, jR_fr hJ_ hI_ hF_⟩
      · have cx1_ : ¬ (i_ < 0) := of_decide_eq_false cx1_
        refine sm_T_go 4 (c1 := (99, [some (.inr (.inr (some (13, 0)))), some (.inl a1_), some (.inl i_), some (.inl 1), some (.inl 0)], [], S_)) rfl ?_
        refine ih_.2.2 i_ 1 0 S_ hI_ hF_ ⟨?_, ?_, trivial⟩ ?_
        · omega
        · exact ht_
        · omega
    · rintro i_ go_ f_ S_ hI_ hF_ ⟨h0_, ht_, -⟩ hm_
      have f222_ : S_.2.2.1 222 0 = S0_.2.2.1 222 0 := fr_arr hF_ rfl
      have f223_ : S_.2.2.1 223 0 = S0_.2.2.1 223 0 := fr_arr hF_ rfl
      have f224_ : S_.2.2.1 224 0 = S0_.2.2.1 224 0 := fr_arr hF_ rfl
      have f225_ : S_.2.2.1 225 0 = S0_.2.2.1 225 0 := fr_arr hF_ rfl
      have f228_ : S_.2.2.1 228 0 = S0_.2.2.1 228 0 := fr_arr hF_ rfl
      have x222_ : S_.2.2.1 222 0 a1_.toNat = S0_.2.2.1 222 0 a1_.toNat := congrFun f222_ _
      have x223_ : S_.2.2.1 223 0 a1_.toNat = S0_.2.2.1 223 0 a1_.toNat := congrFun f223_ _
      have x224_ : S_.2.2.1 224 0 a1_.toNat = S0_.2.2.1 224 0 a1_.toNat := congrFun f224_ _
      have x225_ : S_.2.2.1 225 0 a1_.toNat = S0_.2.2.1 225 0 a1_.toNat := congrFun f225_ _
      have x228_ : S_.2.2.1 228 0 a1_.toNat = S0_.2.2.1 228 0 a1_.toNat := congrFun f228_ _
      have K9_ : cRk a1_ S0_ := hJ_.2 a1_ (by omega) (by omega) ht_
      obtain ⟨K1_, K2_, K3_, K4_, K5_, K6_, K7_⟩ := K9_
      have k4_ := cgt_fr (c_ := a1_) (by omega) hI_ K4_ hF_
      have k5_ := con_fr (c_ := a1_) (by omega) hI_ K5_ hF_
      have kf_ : fco a1_ S_ = fco a1_ S0_ := fco_fr hF_
      have fb9_ := fco_b (c_ := a1_) hI_ (by omega)
      have q9_ : (-1) ≤ S_.2.2.1 289 0 a1_.toNat ∧ S_.2.2.1 289 0 a1_.toNat ≤ 1224 := hI_.2 289 0 _
      refine sm_T_go 3 (c1 := (103, [some (.inr (.inr (some (13, 0)))), some (.inl a1_), some (.inl i_), some (.inl go_), some (.inl f_)], [.inl a1_, .inr (.inr (some (13, 0))), .inl f_], S_)) rfl ?_
      refine sm_T_cal (d1 := 1) (Q1 := vq_514 a1_ S_) rfl rfl (by decide) (vc_514 a1_ S_ hI_ (by omega) (by omega)) (fun u_ Sx1_ px4_ => ?_)
      obtain ⟨rfl, vx6_, rfl, px4_⟩ := px4_
      have e103_ := px4_
      refine sm_T_br (a := 3) (z := 41) rfl (fun cx7_ => ?_) (fun cx7_ => ?_)
      · have cx7_ : vx6_ ≤ f_ := of_decide_eq_true cx7_
        refine sm_T_go 1 (c1 := (148, [some (.inr (.inr (some (13, 0)))), some (.inl a1_), some (.inl i_), some (.inl go_), some (.inl f_)], [.inl go_], S_)) rfl ?_
        refine sm_T_b0 (a := 0) (z := 9) rfl (fun cx8_ => ?_) (fun cx8_ => ?_)
        · have cx8_ : go_ = 0 := of_decide_eq_true cx8_
          refine sm_T_inc (a := 2) (z := (-1)) (v := i_) (w := i_ - 1) rfl rfl (by omega) (by omega) (by omega) ?_ -- pc_ 157
          refine sm_T_go 1 (c1 := (90, [some (.inr (.inr (some (13, 0)))), some (.inl a1_), some (.inl (i_ - 1)), some (.inl go_), some (.inl f_)], [], S_)) rfl ?_
          refine sm_T_wk [some (.inr (.inr (some (13, 0)))), some (.inl a1_), some (.inl (i_ - 1)), none, none] (by exact ⟨rfl, rfl, rfl, trivial⟩) ?_
          refine ih_.2.1 (i_ - 1) S_ hI_ hF_ ⟨?_, ?_, trivial⟩ ?_
          · omega
          · exact ht_
          · omega
        · have cx8_ : ¬ (go_ = 0) := of_decide_eq_false cx8_
          refine sm_T_go 3 (c1 := (154, [some (.inr (.inr (some (13, 0)))), some (.inl a1_), some (.inl i_), some (.inl go_), some (.inl f_)], [.inl i_, .inl a1_, .inr (.inr (some (13, 0)))], S_)) rfl ?_
          refine sm_T_cal (d1 := 0) (Q1 := vq_527 a1_ i_ S_) rfl rfl (by decide) (vc_527 a1_ i_ S_ hI_ (by omega) (by omega)) (fun u_ Sx9_ px12_ => ?_)
          obtain ⟨rfl, hIx10_, hFx11_, px12_⟩ := px12_
          have hFx13_ : ai_fr (sx_W vw_528) S0_ Sx9_ := ai_fr_tr hF_ (fr_le hFx11_ rfl)
          have e154_ := px12_
          refine sm_T_inc (a := 2) (z := (-1)) (v := i_) (w := i_ - 1) rfl rfl (by omega) (by omega) (by omega) ?_ -- pc_ 157
          refine sm_T_go 1 (c1 := (90, [some (.inr (.inr (some (13, 0)))), some (.inl a1_), some (.inl (i_ - 1)), some (.inl go_), some (.inl f_)], [], Sx9_)) rfl ?_
          refine sm_T_wk [some (.inr (.inr (some (13, 0)))), some (.inl a1_), some (.inl (i_ - 1)), none, none] (by exact ⟨rfl, rfl, rfl, trivial⟩) ?_
          refine ih_.2.1 (i_ - 1) Sx9_ hIx10_ hFx13_ ⟨?_, ?_, trivial⟩ ?_
          · omega
          · exact ht_
          · omega
      · have cx7_ : ¬ (vx6_ ≤ f_) := of_decide_eq_false cx7_
        refine sm_T_go 1 (c1 := (110, [some (.inr (.inr (some (13, 0)))), some (.inl a1_), some (.inl i_), some (.inl go_), some (.inl f_)], [.inl go_], S_)) rfl ?_
        refine sm_T_b0 (a := 0) (z := 37) rfl (fun cx14_ => ?_) (fun cx14_ => ?_)
        · have cx14_ : go_ = 0 := of_decide_eq_true cx14_
          refine sm_T_go 1 (c1 := (148, [some (.inr (.inr (some (13, 0)))), some (.inl a1_), some (.inl i_), some (.inl go_), some (.inl f_)], [.inl go_], S_)) rfl ?_
          refine sm_T_b0 (a := 0) (z := 9) rfl (fun cx15_ => ?_) (fun cx15_ => ?_)
          · have cx15_ : go_ = 0 := of_decide_eq_true cx15_
            refine sm_T_inc (a := 2) (z := (-1)) (v := i_) (w := i_ - 1) rfl rfl (by omega) (by omega) (by omega) ?_ -- pc_ 157
            refine sm_T_go 1 (c1 := (90, [some (.inr (.inr (some (13, 0)))), some (.inl a1_), some (.inl (i_ - 1)), some (.inl go_), some (.inl f_)], [], S_)) rfl ?_
            refine sm_T_wk [some (.inr (.inr (some (13, 0)))), some (.inl a1_), some (.inl (i_ - 1)), none, none] (by exact ⟨rfl, rfl, rfl, trivial⟩) ?_
            refine ih_.2.1 (i_ - 1) S_ hI_ hF_ ⟨?_, ?_, trivial⟩ ?_
            · omega
            · exact ht_
            · omega
          · have cx15_ : ¬ (go_ = 0) := of_decide_eq_false cx15_
            exfalso; omega
        · have cx14_ : ¬ (go_ = 0) := of_decide_eq_false cx14_
          refine sm_T_go 4 (c1 := (118, [some (.inr (.inr (some (13, 0)))), some (.inl a1_), some (.inl i_), some (.inl go_), some (.inl f_)], [.inl f_, .inl i_, .inl a1_, .inr (.inr (some (13, 0)))], S_)) rfl ?_
          refine sm_T_cal (d1 := 0) (Q1 := vq_524 a1_ i_ f_ S_) rfl rfl (by decide) (vc_524 a1_ i_ f_ S_ hI_ (by omega) (by omega) (by omega)) (fun u_ Sx16_ px19_ => ?_)
          obtain ⟨rfl, vx21_, rfl, px19_⟩ := px19_
          refine sm_T_b0 (a := 0) (z := 14) rfl (fun cx22_ => ?_) (fun cx22_ => ?_)
          · have cx22_ : vx21_ = 0 := of_decide_eq_true cx22_
            refine sm_T_go 3 (c1 := (141, [some (.inr (.inr (some (13, 0)))), some (.inl a1_), some (.inl i_), some (.inl 1), some (.inl f_)], [], S_)) rfl ?_
            refine sm_T_inc (a := 4) (z := 1) (v := f_) (w := f_ + 1) rfl rfl (by omega) (by omega) (by omega) ?_ -- pc_ 141
            refine sm_T_go 1 (c1 := (99, [some (.inr (.inr (some (13, 0)))), some (.inl a1_), some (.inl i_), some (.inl 1), some (.inl (f_ + 1))], [], S_)) rfl ?_
            refine ih_.2.2 i_ 1 (f_ + 1) S_ hI_ hF_ ⟨?_, ?_, trivial⟩ ?_
            · omega
            · exact ht_
            · omega
          · have cx22_ : ¬ (vx21_ = 0) := of_decide_eq_false cx22_
            refine sm_T_go 3 (c1 := (128, [some (.inr (.inr (some (13, 0)))), some (.inl a1_), some (.inl i_), some (.inl go_), some (.inl f_)], [.inl f_, .inl a1_, .inr (.inr (some (13, 0)))], S_)) rfl ?_
            refine sm_T_cal (d1 := 1) (Q1 := vq_526 a1_ f_ S_) rfl rfl (by decide) (vc_526 a1_ f_ S_ hI_ (by omega) (by omega)) (fun u_ Sx23_ px26_ => ?_)
            obtain ⟨rfl, vx28_, rfl, px26_⟩ := px26_
            refine sm_T_go 1 (c1 := (132, [some (.inr (.inr (some (13, 0)))), some (.inl a1_), some (.inl i_), some (.inl go_), some (.inl f_)], [.inl 1, .inl vx28_], S_)) rfl ?_
            refine sm_T_br (a := 5) (z := 7) rfl (fun cx29_ => ?_) (fun cx29_ => ?_)
            · have cx29_ : vx28_ ≤ 1 := of_decide_eq_true cx29_
              refine sm_T_go 2 (c1 := (141, [some (.inr (.inr (some (13, 0)))), some (.inl a1_), some (.inl i_), some (.inl 0), some (.inl f_)], [], S_)) rfl ?_
              refine sm_T_inc (a := 4) (z := 1) (v := f_) (w := f_ + 1) rfl rfl (by omega) (by omega) (by omega) ?_ -- pc_ 141
              refine sm_T_go 1 (c1 := (99, [some (.inr (.inr (some (13, 0)))), some (.inl a1_), some (.inl i_), some (.inl 0), some (.inl (f_ + 1))], [], S_)) rfl ?_
              refine ih_.2.2 i_ 0 (f_ + 1) S_ hI_ hF_ ⟨?_, ?_, trivial⟩ ?_
              · omega
              · exact ht_
              · omega
            · have cx29_ : ¬ (vx28_ ≤ 1) := of_decide_eq_false cx29_
              refine sm_T_go 3 (c1 := (141, [some (.inr (.inr (some (13, 0)))), some (.inl a1_), some (.inl i_), some (.inl 1), some (.inl f_)], [], S_)) rfl ?_
              refine sm_T_inc (a := 4) (z := 1) (v := f_) (w := f_ + 1) rfl rfl (by omega) (by omega) (by omega) ?_ -- pc_ 141
              refine sm_T_go 1 (c1 := (99, [some (.inr (.inr (some (13, 0)))), some (.inl a1_), some (.inl i_), some (.inl 1), some (.inl (f_ + 1))], [], S_)) rfl ?_
              refine ih_.2.2 i_ 1 (f_ + 1) S_ hI_ hF_ ⟨?_, ?_, trivial⟩ ?_
              · omega
              · exact ht_
              · omega
set_option maxHeartbeats 1500000 in
set_option maxRecDepth 20000 in
theorem vc_528 {sc_ : Nat × (Nat → Int)} (a1_ : Int) (S0_ : sm_S) (hI_ : gi S0_) (ha1_ : (-2147483648) ≤ a1_ ∧ a1_ ≤ 2147483647) (hJ_ : jR S0_) : sm_T (mt_P sc_) 5 528 (0, [some (.inr (.inr (some (13, 0)))), some (.inl a1_), none, none, none], [], S0_) (fun ro9_ => ∃ u_ S1_, ro9_ = (.inl u_, S1_, 0) ∧ vq_528 a1_ S0_ u_ S1_) := by
  have hF_ : ai_fr (sx_W vw_528) S0_ S0_ := ai_fr_rf
  refine sm_T_go 3 (c1 := (3, [some (.inr (.inr (some (13, 0)))), some (.inl a1_), none, none, none], [.inl a1_, .inr (.inr (some (13, 0))), .inr (.inr (some (13, 0)))], S0_)) rfl ?_
  refine sm_T_cal (d1 := 0) (Q1 := vq_371 a1_ S0_) rfl rfl (by decide) (vc_371 a1_ S0_ hI_ (by omega)) (fun u_ Sx1_ px4_ => ?_)
  obtain ⟨rfl, vx6_, rfl, px4_⟩ := px4_
  have d3_ := px4_
  refine sm_T_b0 (a := 0) (z := 7) rfl (fun cx7_ => ?_) (fun cx7_ => ?_)
  · have cx7_ : vx6_ = 0 := of_decide_eq_true cx7_
    have hIx8_ : gi (sm_pI S0_ 13 0 0 1) := gi_pI hI_ (show 0 ≤ 1 ∧ 1 ≤ 4 from ⟨by omega, by omega⟩)
    have hFx9_ : ai_fr (sx_W vw_528) S0_ (sm_pI S0_ 13 0 0 1) := ai_fr_tr hF_ (ai_fr_pI rfl)
    refine sm_T_go 6 (c1 := (25, [some (.inr (.inr (some (13, 0)))), some (.inl a1_), none, none, none], [.inl 0], sm_pI S0_ 13 0 0 1)) rfl ?_
    refine sm_T_ri rfl ⟨_, _, rfl, _, rfl, hIx8_, hFx9_, ?_⟩
    exact ⟨⟨by omega, by omega⟩, jR_fr hJ_ hIx8_ hFx9_⟩
  · have cx7_ : ¬ (vx6_ = 0) := of_decide_eq_false cx7_
    have hIx10_ : gi (sm_pI S0_ 13 0 0 0) := gi_pI hI_ (show 0 ≤ 0 ∧ 0 ≤ 4 from ⟨by omega, by omega⟩)
    have hFx11_ : ai_fr (sx_W vw_528) S0_ (sm_pI S0_ 13 0 0 0) := ai_fr_tr hF_ (ai_fr_pI rfl)
    refine sm_T_go 10 (c1 := (32, [some (.inr (.inr (some (13, 0)))), some (.inl a1_), none, none, none], [.inl 0, .inl a1_, .inr (.inr (some (289, 0)))], sm_pI S0_ 13 0 0 0)) rfl ?_
    refine sm_T_iast (n := 4) rfl rfl (by omega) (by omega) ?_
    have hIx12_ : gi (sm_aI (sm_pI S0_ 13 0 0 0) 289 0 a1_.toNat 0) := gi_aI hIx10_ (show (-1) ≤ 0 ∧ 0 ≤ 1224 from ⟨by omega, by omega⟩)
    have hFx13_ : ai_fr (sx_W vw_528) S0_ (sm_aI (sm_pI S0_ 13 0 0 0) 289 0 a1_.toNat 0) := ai_fr_tr hFx11_ (ai_fr_aI rfl)
    refine sm_T_go 2 (c1 := (35, [some (.inr (.inr (some (13, 0)))), some (.inl a1_), some (.inl 0), none, none], [], sm_aI (sm_pI S0_ 13 0 0 0) 289 0 a1_.toNat 0)) rfl ?_
    refine (vl_528 a1_ S0_ ha1_ hJ_ _).1 0 (sm_aI (sm_pI S0_ 13 0 0 0) 289 0 a1_.toNat 0) hIx12_ hFx13_ ⟨?_, ?_, trivial⟩ (Nat.lt_succ_self _)
    · (rw [rd_eq, if_pos rfl]; omega)
    · omega
/-! M_.patternCode -/
def vw_529 : sx_Wl := ([], [], [])
def vq_529 (c_ : Int) (k_ : Int) (S0_ : sm_S) (u_ : Option sm_V) (S1_ : sm_S) : Prop := S0_ = S1_ ∧ ∃ v_ : Int, u_ = some (.inl v_) ∧ (((-2147483648) ≤ v_ ∧ v_ ≤ 2147483647) ∧ ((v_ = 0 ∧ 0 ≤ c_ ∧ c_ < 4 ∧ 0 ≤ k_ ∧ k_ < 1224) ∨ v_ = 1 ∨ v_ = 2))
set_option maxHeartbeats 400000 in
set_option maxRecDepth 20000 in
theorem vc_529 {sc_ : Nat × (Nat → Int)} (c_ : Int) (k_ : Int) (S0_ : sm_S) (hI_ : gi S0_) (hc_ : (-2147483648) ≤ c_ ∧ c_ ≤ 2147483647) (hk_ : (-2147483648) ≤ k_ ∧ k_ ≤ 2147483647) : sm_T (mt_P sc_) 1 529 (0, [some (.inr (.inr (some (13, 0)))), some (.inl c_), some (.inl k_)], [], S0_) (fun ro9_ => ∃ u_ S1_, ro9_ = (.inl u_, S1_, 0) ∧ vq_529 c_ k_ S0_ u_ S1_) := by
  have hF_ : ai_fr (sx_W vw_529) S0_ S0_ := ai_fr_rf
  refine sm_T_go 2 (c1 := (2, [some (.inr (.inr (some (13, 0)))), some (.inl c_), some (.inl k_)], [.inl c_, .inr (.inr (some (13, 0)))], S0_)) rfl ?_
  refine sm_T_cal (d1 := 0) (Q1 := vq_371 c_ S0_) rfl rfl (by decide) (vc_371 c_ S0_ hI_ (by omega)) (fun u_ Sx1_ px4_ => ?_)
  obtain ⟨rfl, vx6_, rfl, px4_⟩ := px4_
  refine sm_T_b0 (a := 0) (z := 7) rfl (fun cx7_ => ?_) (fun cx7_ => ?_)
  · have cx7_ : vx6_ = 0 := of_decide_eq_true cx7_
    refine sm_T_go 2 (c1 := (45, [some (.inr (.inr (some (13, 0)))), some (.inl c_), some (.inl k_)], [.inl 1], S0_)) rfl ?_
    refine sm_T_ri rfl ⟨_, _, rfl, rfl, _, rfl, ?_⟩
    refine ⟨⟨by omega, by omega⟩, ?_⟩
    omega
  · have cx7_ : ¬ (vx6_ = 0) := of_decide_eq_false cx7_
    refine sm_T_go 1 (c1 := (9, [some (.inr (.inr (some (13, 0)))), some (.inl c_), some (.inl k_)], [.inl k_], S0_)) rfl ?_
    refine sm_T_b0 (a := 3) (z := 7) rfl (fun cx8_ => ?_) (fun cx8_ => ?_)
    · have cx8_ : 0 ≤ k_ := of_decide_eq_true cx8_
      refine sm_T_go 3 (c1 := (21, [some (.inr (.inr (some (13, 0)))), some (.inl c_), some (.inl k_)], [.inl c_, .inr (.inr (some (289, 0)))], S0_)) rfl ?_
      refine sm_T_iald (n := 4) rfl rfl (by omega) (by omega) ?_
      have bx9_ : (-1) ≤ S0_.2.2.1 289 0 c_.toNat ∧ S0_.2.2.1 289 0 c_.toNat ≤ 1224 := hI_.2 289 0 _
      refine sm_T_go 1 (c1 := (23, [some (.inr (.inr (some (13, 0)))), some (.inl c_), some (.inl k_)], [.inl (-1), .inl (S0_.2.2.1 289 0 c_.toNat)], S0_)) rfl ?_
      refine sm_T_br (a := 1) (z := 7) rfl (fun cx10_ => ?_) (fun cx10_ => ?_)
      · have cx10_ : (S0_.2.2.1 289 0 c_.toNat) ≠ (-1) := of_decide_eq_true cx10_
        refine sm_T_go 4 (c1 := (36, [some (.inr (.inr (some (13, 0)))), some (.inl c_), some (.inl k_)], [.inl c_, .inr (.inr (some (289, 0))), .inl k_], S0_)) rfl ?_
        refine sm_T_iald (n := 4) rfl rfl (by omega) (by omega) ?_
        refine sm_T_br (a := 2) (z := 7) rfl (fun cx11_ => ?_) (fun cx11_ => ?_)
        · have cx11_ : k_ < (S0_.2.2.1 289 0 c_.toNat) := of_decide_eq_true cx11_
          refine sm_T_go 1 (c1 := (45, [some (.inr (.inr (some (13, 0)))), some (.inl c_), some (.inl k_)], [.inl 0], S0_)) rfl ?_
          refine sm_T_ri rfl ⟨_, _, rfl, rfl, _, rfl, ?_⟩
          refine ⟨⟨by omega, by omega⟩, ?_⟩
          omega
        · have cx11_ : ¬ (k_ < (S0_.2.2.1 289 0 c_.toNat)) := of_decide_eq_false cx11_
          refine sm_T_go 2 (c1 := (45, [some (.inr (.inr (some (13, 0)))), some (.inl c_), some (.inl k_)], [.inl 1], S0_)) rfl ?_
          refine sm_T_ri rfl ⟨_, _, rfl, rfl, _, rfl, ?_⟩
          refine ⟨⟨by omega, by omega⟩, ?_⟩
          omega
      · have cx10_ : ¬ ((S0_.2.2.1 289 0 c_.toNat) ≠ (-1)) := of_decide_eq_false cx10_
        refine sm_T_go 2 (c1 := (45, [some (.inr (.inr (some (13, 0)))), some (.inl c_), some (.inl k_)], [.inl 2], S0_)) rfl ?_
        refine sm_T_ri rfl ⟨_, _, rfl, rfl, _, rfl, ?_⟩
        refine ⟨⟨by omega, by omega⟩, ?_⟩
        omega
    · have cx8_ : ¬ (0 ≤ k_) := of_decide_eq_false cx8_
      refine sm_T_go 2 (c1 := (45, [some (.inr (.inr (some (13, 0)))), some (.inl c_), some (.inl k_)], [.inl 1], S0_)) rfl ?_
      refine sm_T_ri rfl ⟨_, _, rfl, rfl, _, rfl, ?_⟩
      refine ⟨⟨by omega, by omega⟩, ?_⟩
      omega
/-! M_.pattern -/
def vw_530 : sx_Wl := ([(13, 0)], [], [])
def vq_530 (a1_ : Int) (a2_ : Int) (S0_ : sm_S) (u_ : Option sm_V) (S1_ : sm_S) : Prop := ∃ v_ : Int, u_ = some (.inl v_) ∧ gi S1_ ∧ ai_fr (sx_W vw_530) S0_ S1_ ∧ (((-2147483648) ≤ v_ ∧ v_ ≤ 2147483647) ∧ (jR S1_))
set_option maxHeartbeats 400000 in
set_option maxRecDepth 20000 in
theorem vc_530 {sc_ : Nat × (Nat → Int)} (a1_ : Int) (a2_ : Int) (S0_ : sm_S) (hI_ : gi S0_) (ha1_ : (-2147483648) ≤ a1_ ∧ a1_ ≤ 2147483647) (ha2_ : (-2147483648) ≤ a2_ ∧ a2_ ≤ 2147483647) (hJ_ : jR S0_) : sm_T (mt_P sc_) 2 530 (0, [some (.inr (.inr (some (13, 0)))), some (.inl a1_), some (.inl a2_)], [], S0_) (fun ro9_ => ∃ u_ S1_, ro9_ = (.inl u_, S1_, 0) ∧ vq_530 a1_ a2_ S0_ u_ S1_) := by
  have hF_ : ai_fr (sx_W vw_530) S0_ S0_ := ai_fr_rf
  refine sm_T_go 4 (c1 := (4, [some (.inr (.inr (some (13, 0)))), some (.inl a1_), some (.inl a2_)], [.inl a2_, .inl a1_, .inr (.inr (some (13, 0))), .inr (.inr (some (13, 0)))], S0_)) rfl ?_
  refine sm_T_cal (d1 := 1) (Q1 := vq_529 a1_ a2_ S0_) rfl rfl (by decide) (vc_529 a1_ a2_ S0_ hI_ (by omega) (by omega)) (fun u_ Sx1_ px4_ => ?_)
  obtain ⟨rfl, vx6_, rfl, px4_⟩ := px4_
  have e4_ := px4_
  have hIx7_ : gi (sm_pI S0_ 13 0 0 vx6_) := gi_pI hI_ (show 0 ≤ vx6_ ∧ vx6_ ≤ 4 from ⟨by omega, by omega⟩)
  have hFx8_ : ai_fr (sx_W vw_530) S0_ (sm_pI S0_ 13 0 0 vx6_) := ai_fr_tr hF_ (ai_fr_pI rfl)
  refine sm_T_go 3 (c1 := (14, [some (.inr (.inr (some (13, 0)))), some (.inl a1_), some (.inl a2_)], [.inl vx6_], sm_pI S0_ 13 0 0 vx6_)) rfl ?_
  refine sm_T_b0 (a := 5) (z := 7) rfl (fun cx9_ => ?_) (fun cx9_ => ?_)
  · have cx9_ : vx6_ ≤ 0 := of_decide_eq_true cx9_
    refine sm_T_go 4 (c1 := (29, [some (.inr (.inr (some (13, 0)))), some (.inl a1_), some (.inl a2_)], [.inl a1_, .inl 1280, .inr (.inr (some (290, 0)))], sm_pI S0_ 13 0 0 vx6_)) rfl ?_
    refine sm_T_bin (w := 1280 * a1_) rfl (bi_mul (by omega) (by omega) (by omega)) ?_ -- pc_ 29
    refine sm_T_go 1 (c1 := (31, [some (.inr (.inr (some (13, 0)))), some (.inl a1_), some (.inl a2_)], [.inl a2_, .inl (1280 * a1_), .inr (.inr (some (290, 0)))], sm_pI S0_ 13 0 0 vx6_)) rfl ?_
    refine sm_T_bin (w := 1280 * a1_ + a2_) rfl (bi_add (by omega) (by omega) (by omega)) ?_ -- pc_ 31
    refine sm_T_iald (n := 5120) rfl rfl (by omega) (by omega) ?_
    have bx10_ : 0 ≤ S0_.2.2.1 290 0 (1280 * a1_ + a2_).toNat ∧ S0_.2.2.1 290 0 (1280 * a1_ + a2_).toNat ≤ 4095 := hI_.2 290 0 _
    refine sm_T_go 0 (c1 := (33, [some (.inr (.inr (some (13, 0)))), some (.inl a1_), some (.inl a2_)], [.inl (S0_.2.2.1 290 0 (1280 * a1_ + a2_).toNat)], sm_pI S0_ 13 0 0 vx6_)) rfl ?_
    refine sm_T_ri rfl ⟨_, _, rfl, _, rfl, hIx7_, hFx8_, ?_⟩
    refine ⟨⟨by omega, by omega⟩, jR_fr hJ_ hIx7_ hFx8_⟩
  · have cx9_ : ¬ (vx6_ ≤ 0) := of_decide_eq_false cx9_
    refine sm_T_go 2 (c1 := (33, [some (.inr (.inr (some (13, 0)))), some (.inl a1_), some (.inl a2_)], [.inl 0], sm_pI S0_ 13 0 0 vx6_)) rfl ?_
    refine sm_T_ri rfl ⟨_, _, rfl, _, rfl, hIx7_, hFx8_, ?_⟩
    refine ⟨⟨by omega, by omega⟩, jR_fr hJ_ hIx7_ hFx8_⟩
/-! M_.fails -/
def vw_531 : sx_Wl := ([(13, 0)], [291], [])
def vq_531 (a1_ : Int) (a2_ : Int) (a3_ : Int) (S0_ : sm_S) (u_ : Option sm_V) (S1_ : sm_S) : Prop := ∃ v_ : Int, u_ = some (.inl v_) ∧ gi S1_ ∧ ai_fr (sx_W vw_531) S0_ S1_ ∧ (((-2147483648) ≤ v_ ∧ v_ ≤ 2147483647) ∧ (jR S1_))
set_option maxHeartbeats 400000 in
set_option maxRecDepth 20000 in
theorem vc_531 {sc_ : Nat × (Nat → Int)} (a1_ : Int) (a2_ : Int) (a3_ : Int) (S0_ : sm_S) (hI_ : gi S0_) (ha1_ : (-2147483648) ≤ a1_ ∧ a1_ ≤ 2147483647) (ha2_ : (-2147483648) ≤ a2_ ∧ a2_ ≤ 2147483647) (ha3_ : 0 ≤ a3_ ∧ a3_ ≤ 1) (hJ_ : jR S0_) : sm_T (mt_P sc_) 2 531 (0, [some (.inr (.inr (some (13, 0)))), some (.inl a1_), some (.inl a2_), some (.inl a3_), none], [], S0_) (fun ro9_ => ∃ u_ S1_, ro9_ = (.inl u_, S1_, 0) ∧ vq_531 a1_ a2_ a3_ S0_ u_ S1_) := by
  have hF_ : ai_fr (sx_W vw_531) S0_ S0_ := ai_fr_rf
  refine sm_T_go 4 (c1 := (4, [some (.inr (.inr (some (13, 0)))), some (.inl a1_), some (.inl a2_), some (.inl a3_), none], [.inl a2_, .inl a1_, .inr (.inr (some (13, 0))), .inr (.inr (some (13, 0)))], S0_)) rfl ?_
  refine sm_T_cal (d1 := 1) (Q1 := vq_529 a1_ a2_ S0_) rfl rfl (by decide) (vc_529 a1_ a2_ S0_ hI_ (by omega) (by omega)) (fun u_ Sx1_ px4_ => ?_)
  obtain ⟨rfl, vx6_, rfl, px4_⟩ := px4_
  have e4_ := px4_
  have hIx7_ : gi (sm_pI S0_ 13 0 0 vx6_) := gi_pI hI_ (show 0 ≤ vx6_ ∧ vx6_ ≤ 4 from ⟨by omega, by omega⟩)
  have hFx8_ : ai_fr (sx_W vw_531) S0_ (sm_pI S0_ 13 0 0 vx6_) := ai_fr_tr hF_ (ai_fr_pI rfl)
  refine sm_T_go 3 (c1 := (14, [some (.inr (.inr (some (13, 0)))), some (.inl a1_), some (.inl a2_), some (.inl a3_), none], [.inl vx6_], sm_pI S0_ 13 0 0 vx6_)) rfl ?_
  refine sm_T_b0 (a := 5) (z := 5) rfl (fun cx9_ => ?_) (fun cx9_ => ?_)
  · have cx9_ : vx6_ ≤ 0 := of_decide_eq_true cx9_
    refine sm_T_go 4 (c1 := (27, [some (.inr (.inr (some (13, 0)))), some (.inl a1_), some (.inl a2_), some (.inl a3_), none], [.inl a1_, .inl 1280, .inr (.inr (some (291, 0)))], sm_pI S0_ 13 0 0 vx6_)) rfl ?_
    refine sm_T_bin (w := 1280 * a1_) rfl (bi_mul (by omega) (by omega) (by omega)) ?_ -- pc_ 27
    refine sm_T_go 1 (c1 := (29, [some (.inr (.inr (some (13, 0)))), some (.inl a1_), some (.inl a2_), some (.inl a3_), none], [.inl a2_, .inl (1280 * a1_), .inr (.inr (some (291, 0)))], sm_pI S0_ 13 0 0 vx6_)) rfl ?_
    refine sm_T_bin (w := 1280 * a1_ + a2_) rfl (bi_add (by omega) (by omega) (by omega)) ?_ -- pc_ 29
    refine sm_T_zald (n := 5120) rfl rfl (by omega) (by omega) ?_
    have bx10_ : 0 ≤ S0_.2.2.1 291 0 (1280 * a1_ + a2_).toNat ∧ S0_.2.2.1 291 0 (1280 * a1_ + a2_).toNat ≤ 1 := hI_.2 291 0 _
    refine sm_T_go 5 (c1 := (41, [some (.inr (.inr (some (13, 0)))), some (.inl a1_), some (.inl a2_), some (.inl a3_), some (.inl (S0_.2.2.1 291 0 (1280 * a1_ + a2_).toNat))], [.inl a1_, .inl 1280, .inr (.inr (some (291, 0)))], sm_pI S0_ 13 0 0 vx6_)) rfl ?_
    refine sm_T_bin (w := 1280 * a1_) rfl (bi_mul (by omega) (by omega) (by omega)) ?_ -- pc_ 41
    refine sm_T_go 1 (c1 := (43, [some (.inr (.inr (some (13, 0)))), some (.inl a1_), some (.inl a2_), some (.inl a3_), some (.inl (S0_.2.2.1 291 0 (1280 * a1_ + a2_).toNat))], [.inl a2_, .inl (1280 * a1_), .inr (.inr (some (291, 0)))], sm_pI S0_ 13 0 0 vx6_)) rfl ?_
    refine sm_T_bin (w := 1280 * a1_ + a2_) rfl (bi_add (by omega) (by omega) (by omega)) ?_ -- pc_ 43
    refine sm_T_go 1 (c1 := (45, [some (.inr (.inr (some (13, 0)))), some (.inl a1_), some (.inl a2_), some (.inl a3_), some (.inl (S0_.2.2.1 291 0 (1280 * a1_ + a2_).toNat))], [.inl a3_, .inl (1280 * a1_ + a2_), .inr (.inr (some (291, 0)))], sm_pI S0_ 13 0 0 vx6_)) rfl ?_
    refine sm_T_zas1 (n := 5120) rfl rfl (by omega) (by omega) (by omega) ?_
    have hIx11_ : gi (sm_aI (sm_pI S0_ 13 0 0 vx6_) 291 0 (1280 * a1_ + a2_).toNat a3_) := gi_aI hIx7_ (show 0 ≤ a3_ ∧ a3_ ≤ 1 from ⟨by omega, by omega⟩)
    have hFx12_ : ai_fr (sx_W vw_531) S0_ (sm_aI (sm_pI S0_ 13 0 0 vx6_) 291 0 (1280 * a1_ + a2_).toNat a3_) := ai_fr_tr hFx8_ (ai_fr_aI rfl)
    refine sm_T_go 1 (c1 := (48, [some (.inr (.inr (some (13, 0)))), some (.inl a1_), some (.inl a2_), some (.inl a3_), some (.inl (S0_.2.2.1 291 0 (1280 * a1_ + a2_).toNat))], [.inl (S0_.2.2.1 291 0 (1280 * a1_ + a2_).toNat)], sm_aI (sm_pI S0_ 13 0 0 vx6_) 291 0 (1280 * a1_ + a2_).toNat a3_)) rfl ?_
    refine sm_T_rz rfl (by omega) ⟨_, _, rfl, _, rfl, hIx11_, hFx12_, ?_⟩
    refine ⟨⟨by omega, by omega⟩, jR_fr hJ_ hIx11_ hFx12_⟩
  · have cx9_ : ¬ (vx6_ ≤ 0) := of_decide_eq_false cx9_
    refine sm_T_go 1 (c1 := (18, [some (.inr (.inr (some (13, 0)))), some (.inl a1_), some (.inl a2_), some (.inl a3_), none], [.inl 0], sm_pI S0_ 13 0 0 vx6_)) rfl ?_
    refine sm_T_rz rfl (by omega) ⟨_, _, rfl, _, rfl, hIx7_, hFx8_, ?_⟩
    refine ⟨⟨by omega, by omega⟩, jR_fr hJ_ hIx7_ hFx8_⟩
/-! M_.isSuspect -/
def vw_532 : sx_Wl := ([], [], [])
def vq_532 (c_ : Int) (f_ : Int) (S0_ : sm_S) (u_ : Option sm_V) (S1_ : sm_S) : Prop := S0_ = S1_ ∧ ∃ v_ : Int, u_ = some (.inl v_) ∧ (v_ = 0 ∨ v_ = 1)
set_option maxHeartbeats 400000 in
set_option maxRecDepth 20000 in
theorem vl_532 {sc_ : Nat × (Nat → Int)} (c_ : Int) (f_ : Int) (S0_ : sm_S) (hc_ : 0 ≤ c_ ∧ c_ ≤ 3) (hf_ : 0 ≤ f_ ∧ f_ ≤ 1279) : ∀ nn_ : Nat, (∀ (so_ : Int) (ju_ : Int) (i_ : Int) (S_ : sm_S), gi S_ → ai_fr (sx_W vw_532) S0_ S_ → ((0 ≤ i_ ∧ i_ ≤ 1224) ∧ (S_ = S0_) ∧ True) → ((5000 - i_).toNat) < nn_ → sm_T (mt_P sc_) 1 532 (8, [some (.inr (.inr (some (13, 0)))), some (.inl c_), some (.inl f_), some (.inl so_), some (.inl ju_), some (.inl i_), none], [], S_) (fun ro9_ => ∃ u_ S1_, ro9_ = (.inl u_, S1_, 0) ∧ vq_532 c_ f_ S0_ u_ S1_)) := by
  intro nn_
  induction nn_ with
  | zero => exact fun _ _ _ _ _ _ _ h_ => absurd h_ (Nat.not_lt_zero _)
  | succ nn_ ih_ =>
    rintro so_ ju_ i_ S_ hI_ hF_ ⟨h0_, hS_, -⟩ hm_
    subst hS_
    refine sm_T_go 4 (c1 := (15, [some (.inr (.inr (some (13, 0)))), some (.inl c_), some (.inl f_), some (.inl so_), some (.inl ju_), some (.inl i_), none], [.inl c_, .inr (.inr (some (289, 0))), .inl i_], S_)) rfl ?_
    refine sm_T_iald (n := 4) rfl rfl (by omega) (by omega) ?_
    have bx1_ : (-1) ≤ S_.2.2.1 289 0 c_.toNat ∧ S_.2.2.1 289 0 c_.toNat ≤ 1224 := hI_.2 289 0 _
    refine sm_T_br (a := 3) (z := 64) rfl (fun cx2_ => ?_) (fun cx2_ => ?_)
    · have cx2_ : (S_.2.2.1 289 0 c_.toNat) ≤ i_ := of_decide_eq_true cx2_
      refine sm_T_go 1 (c1 := (81, [some (.inr (.inr (some (13, 0)))), some (.inl c_), some (.inl f_), some (.inl so_), some (.inl ju_), some (.inl i_), none], [.inl so_], S_)) rfl ?_
      refine sm_T_b0 (a := 0) (z := 12) rfl (fun cx3_ => ?_) (fun cx3_ => ?_)
      · have cx3_ : so_ = 0 := of_decide_eq_true cx3_
        refine sm_T_go 1 (c1 := (94, [some (.inr (.inr (some (13, 0)))), some (.inl c_), some (.inl f_), some (.inl so_), some (.inl ju_), some (.inl i_), none], [.inl 0], S_)) rfl ?_
        refine sm_T_rz rfl (by omega) ⟨_, _, rfl, (by first | rfl | exact hS_.symm), _, rfl, ?_⟩
        omega
      · have cx3_ : ¬ (so_ = 0) := of_decide_eq_false cx3_
        refine sm_T_go 1 (c1 := (86, [some (.inr (.inr (some (13, 0)))), some (.inl c_), some (.inl f_), some (.inl so_), some (.inl ju_), some (.inl i_), none], [.inl ju_], S_)) rfl ?_
        refine sm_T_b0 (a := 0) (z := 7) rfl (fun cx4_ => ?_) (fun cx4_ => ?_)
        · have cx4_ : ju_ = 0 := of_decide_eq_true cx4_
          refine sm_T_go 1 (c1 := (94, [some (.inr (.inr (some (13, 0)))), some (.inl c_), some (.inl f_), some (.inl so_), some (.inl ju_), some (.inl i_), none], [.inl 0], S_)) rfl ?_
          refine sm_T_rz rfl (by omega) ⟨_, _, rfl, (by first | rfl | exact hS_.symm), _, rfl, ?_⟩
          omega
        · have cx4_ : ¬ (ju_ = 0) := of_decide_eq_false cx4_
          refine sm_T_go 2 (c1 := (94, [some (.inr (.inr (some (13, 0)))), some (.inl c_), some (.inl f_), some (.inl so_), some (.inl ju_), some (.inl i_), none], [.inl 1], S_)) rfl ?_
          refine sm_T_rz rfl (by omega) ⟨_, _, rfl, (by first | rfl | exact hS_.symm), _, rfl, ?_⟩
          omega
    · have cx2_ : ¬ ((S_.2.2.1 289 0 c_.toNat) ≤ i_) := of_decide_eq_false cx2_
      refine sm_T_go 4 (c1 := (24, [some (.inr (.inr (some (13, 0)))), some (.inl c_), some (.inl f_), some (.inl so_), some (.inl ju_), some (.inl i_), none], [.inl f_, .inl i_, .inl c_, .inr (.inr (some (13, 0)))], S_)) rfl ?_
      refine sm_T_cal (d1 := 0) (Q1 := vq_524 c_ i_ f_ S_) rfl rfl (by decide) (vc_524 c_ i_ f_ S_ hI_ (by omega) (by omega) (by omega)) (fun u_ Sx5_ px8_ => ?_)
      obtain ⟨rfl, vx10_, rfl, px8_⟩ := px8_
      refine sm_T_go 2 (c1 := (30, [some (.inr (.inr (some (13, 0)))), some (.inl c_), some (.inl f_), some (.inl so_), some (.inl ju_), some (.inl i_), some (.inl vx10_)], [.inl so_], S_)) rfl ?_
      refine sm_T_b0 (a := 1) (z := 8) rfl (fun cx11_ => ?_) (fun cx11_ => ?_)
      · have cx11_ : so_ ≠ 0 := of_decide_eq_true cx11_
        refine sm_T_go 4 (c1 := (46, [some (.inr (.inr (some (13, 0)))), some (.inl c_), some (.inl f_), some (.inl 1), some (.inl ju_), some (.inl i_), some (.inl vx10_)], [.inl ju_], S_)) rfl ?_
        refine sm_T_b0 (a := 0) (z := 25) rfl (fun cx12_ => ?_) (fun cx12_ => ?_)
        · have cx12_ : ju_ = 0 := of_decide_eq_true cx12_
          refine sm_T_go 2 (c1 := (74, [some (.inr (.inr (some (13, 0)))), some (.inl c_), some (.inl f_), some (.inl 1), some (.inl 0), some (.inl i_), some (.inl vx10_)], [], S_)) rfl ?_
          refine sm_T_inc (a := 5) (z := 1) (v := i_) (w := i_ + 1) rfl rfl (by omega) (by omega) (by omega) ?_ -- pc_ 74
          refine sm_T_go 1 (c1 := (8, [some (.inr (.inr (some (13, 0)))), some (.inl c_), some (.inl f_), some (.inl 1), some (.inl 0), some (.inl (i_ + 1)), some (.inl vx10_)], [], S_)) rfl ?_
          refine sm_T_wk [some (.inr (.inr (some (13, 0)))), some (.inl c_), some (.inl f_), some (.inl 1), some (.inl 0), some (.inl (i_ + 1)), none] (by exact ⟨rfl, rfl, rfl, rfl, rfl, rfl, trivial⟩) ?_
          refine ih_ 1 0 (i_ + 1) S_ hI_ hF_ ⟨?_, ?_, trivial⟩ ?_
          · omega
          · rfl
          · omega
        · have cx12_ : ¬ (ju_ = 0) := of_decide_eq_false cx12_
          refine sm_T_go 5 (c1 := (59, [some (.inr (.inr (some (13, 0)))), some (.inl c_), some (.inl f_), some (.inl 1), some (.inl ju_), some (.inl i_), some (.inl vx10_)], [.inl c_, .inl 1280, .inr (.inr (some (291, 0))), .inl vx10_], S_)) rfl ?_
          refine sm_T_bin (w := 1280 * c_) rfl (bi_mul (by omega) (by omega) (by omega)) ?_ -- pc_ 59
          refine sm_T_go 1 (c1 := (62, [some (.inr (.inr (some (13, 0)))), some (.inl c_), some (.inl f_), some (.inl 1), some (.inl ju_), some (.inl i_), some (.inl vx10_)], [.inl i_, .inl (1280 * c_), .inr (.inr (some (291, 0))), .inl vx10_], S_)) rfl ?_
          refine sm_T_bin (w := 1280 * c_ + i_) rfl (bi_add (by omega) (by omega) (by omega)) ?_ -- pc_ 62
          refine sm_T_zald (n := 5120) rfl rfl (by omega) (by omega) ?_
          have bx13_ : 0 ≤ S_.2.2.1 291 0 (1280 * c_ + i_).toNat ∧ S_.2.2.1 291 0 (1280 * c_ + i_).toNat ≤ 1 := hI_.2 291 0 _
          refine sm_T_br (a := 1) (z := 7) rfl (fun cx14_ => ?_) (fun cx14_ => ?_)
          · have cx14_ : vx10_ ≠ (S_.2.2.1 291 0 (1280 * c_ + i_).toNat) := of_decide_eq_true cx14_
            refine sm_T_go 2 (c1 := (74, [some (.inr (.inr (some (13, 0)))), some (.inl c_), some (.inl f_), some (.inl 1), some (.inl 0), some (.inl i_), some (.inl vx10_)], [], S_)) rfl ?_
            refine sm_T_inc (a := 5) (z := 1) (v := i_) (w := i_ + 1) rfl rfl (by omega) (by omega) (by omega) ?_ -- pc_ 74
            refine sm_T_go 1 (c1 := (8, [some (.inr (.inr (some (13, 0)))), some (.inl c_), some (.inl f_), some (.inl 1), some (.inl 0), some (.inl (i_ + 1)), some (.inl vx10_)], [], S_)) rfl ?_
            refine sm_T_wk [some (.inr (.inr (some (13, 0)))), some (.inl c_), some (.inl f_), some (.inl 1), some (.inl 0), some (.inl (i_ + 1)), none] (by exact ⟨rfl, rfl, rfl, rfl, rfl, rfl, trivial⟩) ?_
            refine ih_ 1 0 (i_ + 1) S_ hI_ hF_ ⟨?_, ?_, trivial⟩ ?_
            · omega
            · rfl
            · omega
          · have cx14_ : ¬ (vx10_ ≠ (S_.2.2.1 291 0 (1280 * c_ + i_).toNat)) := of_decide_eq_false cx14_
            refine sm_T_go 3 (c1 := (74, [some (.inr (.inr (some (13, 0)))), some (.inl c_), some (.inl f_), some (.inl 1), some (.inl 1), some (.inl i_), some (.inl vx10_)], [], S_)) rfl ?_
            refine sm_T_inc (a := 5) (z := 1) (v := i_) (w := i_ + 1) rfl rfl (by omega) (by omega) (by omega) ?_ -- pc_ 74
            refine sm_T_go 1 (c1 := (8, [some (.inr (.inr (some (13, 0)))), some (.inl c_), some (.inl f_), some (.inl 1), some (.inl 1), some (.inl (i_ + 1)), some (.inl vx10_)], [], S_)) rfl ?_
            refine sm_T_wk [some (.inr (.inr (some (13, 0)))), some (.inl c_), some (.inl f_), some (.inl 1), some (.inl 1), some (.inl (i_ + 1)), none] (by exact ⟨rfl, rfl, rfl, rfl, rfl, rfl, trivial⟩) ?_
            refine ih_ 1 1 (i_ + 1) S_ hI_ hF_ ⟨?_, ?_, trivial⟩ ?_
            · omega
            · rfl
            · omega
      · have cx11_ : ¬ (so_ ≠ 0) := of_decide_eq_false cx11_
        refine sm_T_go 1 (c1 := (35, [some (.inr (.inr (some (13, 0)))), some (.inl c_), some (.inl f_), some (.inl so_), some (.inl ju_), some (.inl i_), some (.inl vx10_)], [.inl vx10_], S_)) rfl ?_
        refine sm_T_b0 (a := 0) (z := 7) rfl (fun cx15_ => ?_) (fun cx15_ => ?_)
        · have cx15_ : vx10_ = 0 := of_decide_eq_true cx15_
          refine sm_T_go 3 (c1 := (46, [some (.inr (.inr (some (13, 0)))), some (.inl c_), some (.inl f_), some (.inl 0), some (.inl ju_), some (.inl i_), some (.inl vx10_)], [.inl ju_], S_)) rfl ?_
          refine sm_T_b0 (a := 0) (z := 25) rfl (fun cx16_ => ?_) (fun cx16_ => ?_)
          · have cx16_ : ju_ = 0 := of_decide_eq_true cx16_
            refine sm_T_go 2 (c1 := (74, [some (.inr (.inr (some (13, 0)))), some (.inl c_), some (.inl f_), some (.inl 0), some (.inl 0), some (.inl i_), some (.inl vx10_)], [], S_)) rfl ?_
            refine sm_T_inc (a := 5) (z := 1) (v := i_) (w := i_ + 1) rfl rfl (by omega) (by omega) (by omega) ?_ -- pc_ 74
            refine sm_T_go 1 (c1 := (8, [some (.inr (.inr (some (13, 0)))), some (.inl c_), some (.inl f_), some (.inl 0), some (.inl 0), some (.inl (i_ + 1)), some (.inl vx10_)], [], S_)) rfl ?_
            refine sm_T_wk [some (.inr (.inr (some (13, 0)))), some (.inl c_), some (.inl f_), some (.inl 0), some (.inl 0), some (.inl (i_ + 1)), none] (by exact ⟨rfl, rfl, rfl, rfl, rfl, rfl, trivial⟩) ?_
            refine ih_ 0 0 (i_ + 1) S_ hI_ hF_ ⟨?_, ?_, trivial⟩ ?_
            · omega
            · rfl
            · omega
          · have cx16_ : ¬ (ju_ = 0) := of_decide_eq_false cx16_
            refine sm_T_go 5 (c1 := (59, [some (.inr (.inr (some (13, 0)))), some (.inl c_), some (.inl f_), some (.inl 0), some (.inl ju_), some (.inl i_), some (.inl vx10_)], [.inl c_, .inl 1280, .inr (.inr (some (291, 0))), .inl vx10_], S_)) rfl ?_
            refine sm_T_bin (w := 1280 * c_) rfl (bi_mul (by omega) (by omega) (by omega)) ?_ -- pc_ 59
            refine sm_T_go 1 (c1 := (62, [some (.inr (.inr (some (13, 0)))), some (.inl c_), some (.inl f_), some (.inl 0), some (.inl ju_), some (.inl i_), some (.inl vx10_)], [.inl i_, .inl (1280 * c_), .inr (.inr (some (291, 0))), .inl vx10_], S_)) rfl ?_
            refine sm_T_bin (w := 1280 * c_ + i_) rfl (bi_add (by omega) (by omega) (by omega)) ?_ -- pc_ 62
            refine sm_T_zald (n := 5120) rfl rfl (by omega) (by omega) ?_
            have bx17_ : 0 ≤ S_.2.2.1 291 0 (1280 * c_ + i_).toNat ∧ S_.2.2.1 291 0 (1280 * c_ + i_).toNat ≤ 1 := hI_.2 291 0 _
            refine sm_T_br (a := 1) (z := 7) rfl (fun cx18_ => ?_) (fun cx18_ => ?_)
            · have cx18_ : vx10_ ≠ (S_.2.2.1 291 0 (1280 * c_ + i_).toNat) := of_decide_eq_true cx18_
              refine sm_T_go 2 (c1 := (74, [some (.inr (.inr (some (13, 0)))), some (.inl c_), some (.inl f_), some (.inl 0), some (.inl 0), some (.inl i_), some (.inl vx10_)], [], S_)) rfl ?_
              refine sm_T_inc (a := 5) (z := 1) (v := i_) (w := i_ + 1) rfl rfl (by omega) (by omega) (by omega) ?_ -- pc_ 74
              refine sm_T_go 1 (c1 := (8, [some (.inr (.inr (some (13, 0)))), some (.inl c_), some (.inl f_), some (.inl 0), some (.inl 0), some (.inl (i_ + 1)), some (.inl vx10_)], [], S_)) rfl ?_
              refine sm_T_wk [some (.inr (.inr (some (13, 0)))), some (.inl c_), some (.inl f_), some (.inl 0), some (.inl 0), some (.inl (i_ + 1)), none] (by exact ⟨rfl, rfl, rfl, rfl, rfl, rfl, trivial⟩) ?_
              refine ih_ 0 0 (i_ + 1) S_ hI_ hF_ ⟨?_, ?_, trivial⟩ ?_
              · omega
              · rfl
              · omega
            · have cx18_ : ¬ (vx10_ ≠ (S_.2.2.1 291 0 (1280 * c_ + i_).toNat)) := of_decide_eq_false cx18_
              refine sm_T_go 3 (c1 := (74, [some (.inr (.inr (some (13, 0)))), some (.inl c_), some (.inl f_), some (.inl 0), some (.inl 1), some (.inl i_), some (.inl vx10_)], [], S_)) rfl ?_
              refine sm_T_inc (a := 5) (z := 1) (v := i_) (w := i_ + 1) rfl rfl (by omega) (by omega) (by omega) ?_ -- pc_ 74
              refine sm_T_go 1 (c1 := (8, [some (.inr (.inr (some (13, 0)))), some (.inl c_), some (.inl f_), some (.inl 0), some (.inl 1), some (.inl (i_ + 1)), some (.inl vx10_)], [], S_)) rfl ?_
              refine sm_T_wk [some (.inr (.inr (some (13, 0)))), some (.inl c_), some (.inl f_), some (.inl 0), some (.inl 1), some (.inl (i_ + 1)), none] (by exact ⟨rfl, rfl, rfl, rfl, rfl, rfl, trivial⟩) ?_
              refine ih_ 0 1 (i_ + 1) S_ hI_ hF_ ⟨?_, ?_, trivial⟩ ?_
              · omega
              · rfl
              · omega
        · have cx15_ : ¬ (vx10_ = 0) := of_decide_eq_false cx15_
          refine sm_T_go 4 (c1 := (46, [some (.inr (.inr (some (13, 0)))), some (.inl c_), some (.inl f_), some (.inl 1), some (.inl ju_), some (.inl i_), some (.inl vx10_)], [.inl ju_], S_)) rfl ?_
          refine sm_T_b0 (a := 0) (z := 25) rfl (fun cx19_ => ?_) (fun cx19_ => ?_)
          · have cx19_ : ju_ = 0 := of_decide_eq_true cx19_
            refine sm_T_go 2 (c1 := (74, [some (.inr (.inr (some (13, 0)))), some (.inl c_), some (.inl f_), some (.inl 1), some (.inl 0), some (.inl i_), some (.inl vx10_)], [], S_)) rfl ?_
            refine sm_T_inc (a := 5) (z := 1) (v := i_) (w := i_ + 1) rfl rfl (by omega) (by omega) (by omega) ?_ -- pc_ 74
            refine sm_T_go 1 (c1 := (8, [some (.inr (.inr (some (13, 0)))), some (.inl c_), some (.inl f_), some (.inl 1), some (.inl 0), some (.inl (i_ + 1)), some (.inl vx10_)], [], S_)) rfl ?_
            refine sm_T_wk [some (.inr (.inr (some (13, 0)))), some (.inl c_), some (.inl f_), some (.inl 1), some (.inl 0), some (.inl (i_ + 1)), none] (by exact ⟨rfl, rfl, rfl, rfl, rfl, rfl, trivial⟩) ?_
            refine ih_ 1 0 (i_ + 1) S_ hI_ hF_ ⟨?_, ?_, trivial⟩ ?_
            · omega
            · rfl
            · omega
          · have cx19_ : ¬ (ju_ = 0) := of_decide_eq_false cx19_
            refine sm_T_go 5 (c1 := (59, [some (.inr (.inr (some (13, 0)))), some (.inl c_), some (.inl f_), some (.inl 1), some (.inl ju_), some (.inl i_), some (.inl vx10_)], [.inl c_, .inl 1280, .inr (.inr (some (291, 0))), .inl vx10_], S_)) rfl ?_
            refine sm_T_bin (w := 1280 * c_) rfl (bi_mul (by omega) (by omega) (by omega)) ?_ -- pc_ 59
            refine sm_T_go 1 (c1 := (62, [some (.inr (.inr (some (13, 0)))), some (.inl c_), some (.inl f_), some (.inl 1), some (.inl ju_), some (.inl i_), some (.inl vx10_)], [.inl i_, .inl (1280 * c_), .inr (.inr (some (291, 0))), .inl vx10_], S_)) rfl ?_
            refine sm_T_bin (w := 1280 * c_ + i_) rfl (bi_add (by omega) (by omega) (by omega)) ?_ -- pc_ 62
            refine sm_T_zald (n := 5120) rfl rfl (by omega) (by omega) ?_
            have bx20_ : 0 ≤ S_.2.2.1 291 0 (1280 * c_ + i_).toNat ∧ S_.2.2.1 291 0 (1280 * c_ + i_).toNat ≤ 1 := hI_.2 291 0 _
            refine sm_T_br (a := 1) (z := 7) rfl (fun cx21_ => ?_) (fun cx21_ => ?_)
            · have cx21_ : vx10_ ≠ (S_.2.2.1 291 0 (1280 * c_ + i_).toNat) := of_decide_eq_true cx21_
              refine sm_T_go 2 (c1 := (74, [some (.inr (.inr (some (13, 0)))), some (.inl c_), some (.inl f_), some (.inl 1), some (.inl 0), some (.inl i_), some (.inl vx10_)], [], S_)) rfl ?_
              refine sm_T_inc (a := 5) (z := 1) (v := i_) (w := i_ + 1) rfl rfl (by omega) (by omega) (by omega) ?_ -- pc_ 74
              refine sm_T_go 1 (c1 := (8, [some (.inr (.inr (some (13, 0)))), some (.inl c_), some (.inl f_), some (.inl 1), some (.inl 0), some (.inl (i_ + 1)), some (.inl vx10_)], [], S_)) rfl ?_
              refine sm_T_wk [some (.inr (.inr (some (13, 0)))), some (.inl c_), some (.inl f_), some (.inl 1), some (.inl 0), some (.inl (i_ + 1)), none] (by exact ⟨rfl, rfl, rfl, rfl, rfl, rfl, trivial⟩) ?_
              refine ih_ 1 0 (i_ + 1) S_ hI_ hF_ ⟨?_, ?_, trivial⟩ ?_
              · omega
              · rfl
              · omega
            · have cx21_ : ¬ (vx10_ ≠ (S_.2.2.1 291 0 (1280 * c_ + i_).toNat)) := of_decide_eq_false cx21_
              refine sm_T_go 3 (c1 := (74, [some (.inr (.inr (some (13, 0)))), some (.inl c_), some (.inl f_), some (.inl 1), some (.inl 1), some (.inl i_), some (.inl vx10_)], [], S_)) rfl ?_
              refine sm_T_inc (a := 5) (z := 1) (v := i_) (w := i_ + 1) rfl rfl (by omega) (by omega) (by omega) ?_ -- pc_ 74
              refine sm_T_go 1 (c1 := (8, [some (.inr (.inr (some (13, 0)))), some (.inl c_), some (.inl f_), some (.inl 1), some (.inl 1), some (.inl (i_ + 1)), some (.inl vx10_)], [], S_)) rfl ?_
              refine sm_T_wk [some (.inr (.inr (some (13, 0)))), some (.inl c_), some (.inl f_), some (.inl 1), some (.inl 1), some (.inl (i_ + 1)), none] (by exact ⟨rfl, rfl, rfl, rfl, rfl, rfl, trivial⟩) ?_
              refine ih_ 1 1 (i_ + 1) S_ hI_ hF_ ⟨?_, ?_, trivial⟩ ?_
              · omega
              · rfl
              · omega
set_option maxHeartbeats 400000 in
set_option maxRecDepth 20000 in
theorem vc_532 {sc_ : Nat × (Nat → Int)} (c_ : Int) (f_ : Int) (S0_ : sm_S) (hI_ : gi S0_) (hc_ : 0 ≤ c_ ∧ c_ ≤ 3) (hf_ : 0 ≤ f_ ∧ f_ ≤ 1279) : sm_T (mt_P sc_) 1 532 (0, [some (.inr (.inr (some (13, 0)))), some (.inl c_), some (.inl f_), none, none, none, none], [], S0_) (fun ro9_ => ∃ u_ S1_, ro9_ = (.inl u_, S1_, 0) ∧ vq_532 c_ f_ S0_ u_ S1_) := by
  have hF_ : ai_fr (sx_W vw_532) S0_ S0_ := ai_fr_rf
  refine sm_T_go 6 (c1 := (8, [some (.inr (.inr (some (13, 0)))), some (.inl c_), some (.inl f_), some (.inl 0), some (.inl 1), some (.inl 0), none], [], S0_)) rfl ?_
  refine (vl_532 c_ f_ S0_ hc_ hf_ _) 0 1 0 S0_ hI_ hF_ ⟨?_, ?_, trivial⟩ (Nat.lt_succ_self _)
  · omega
  · rfl
/-! M_.suspect -/
def vw_533 : sx_Wl := ([(13, 0)], [], [])
def vq_533 (a1_ : Int) (a2_ : Int) (S0_ : sm_S) (u_ : Option sm_V) (S1_ : sm_S) : Prop := ∃ v_ : Int, u_ = some (.inl v_) ∧ gi S1_ ∧ ai_fr (sx_W vw_533) S0_ S1_ ∧ ((-2147483648 ≤ v_ ∧ v_ ≤ 2147483647) ∧ jR S1_)
set_option maxHeartbeats 400000 in
set_option maxRecDepth 20000 in
theorem vl_533 {sc_ : Nat × (Nat → Int)} (a1_ : Int) (a2_ : Int) (S0_ : sm_S) (ha1_ : (-2147483648) ≤ a1_ ∧ a1_ ≤ 2147483647) (ha2_ : (-2147483648) ≤ a2_ ∧ a2_ ≤ 2147483647) (hJ_ : jR S0_) : ∀ nn_ : Nat, (∀ (l_ : Int) (f_ : Int) (S_ : sm_S), gi S_ → ai_fr (sx_W vw_533) S0_ S_ → ((0 ≤ a1_ ∧ a1_ < 4 ∧ 0 ≤ f_ ∧ f_ ≤ 1224 ∧ 0 ≤ l_ ∧ S0_.2.2.1 223 0 a1_.toNat + S0_.2.2.1 224 0 a1_.toNat ≤ 12 ∧ l_ ≤ 2147483647) ∧ True) → ((5000 - f_).toNat) < nn_ → sm_T (mt_P sc_) 2 533 (49, [some (.inr (.inr (some (13, 0)))), some (.inl a1_), some (.inl a2_), some (.inl l_), some (.inl f_)], [], S_) (fun ro9_ => ∃ u_ S1_, ro9_ = (.inl u_, S1_, 0) ∧ vq_533 a1_ a2_ S0_ u_ S1_)) := by
  intro nn_
  induction nn_ with
  | zero => exact fun _ _ _ _ _ _ h_ => absurd h_ (Nat.not_lt_zero _)
  | succ nn_ ih_ =>
    rintro l_ f_ S_ hI_ hF_ ⟨h0_, -⟩ hm_
    have f223_ : S_.2.2.1 223 0 = S0_.2.2.1 223 0 := fr_arr hF_ rfl
    have f224_ : S_.2.2.1 224 0 = S0_.2.2.1 224 0 := fr_arr hF_ rfl
    have x223_ : S_.2.2.1 223 0 a1_.toNat = S0_.2.2.1 223 0 a1_.toNat := congrFun f223_ _
    have x224_ : S_.2.2.1 224 0 a1_.toNat = S0_.2.2.1 224 0 a1_.toNat := congrFun f224_ _
    have fb9_ := fco_b (c_ := a1_) hI_ (by omega)
    refine sm_T_go 3 (c1 := (53, [some (.inr (.inr (some (13, 0)))), some (.inl a1_), some (.inl a2_), some (.inl l_), some (.inl f_)], [.inl a1_, .inr (.inr (some (13, 0))), .inl f_], S_)) rfl ?_
    refine sm_T_cal (d1 := 1) (Q1 := vq_514 a1_ S_) rfl rfl (by decide) (vc_514 a1_ S_ hI_ (by omega) (by omega)) (fun u_ Sx1_ px4_ => ?_)
    obtain ⟨rfl, vx6_, rfl, px4_⟩ := px4_
    refine sm_T_br (a := 3) (z := 29) rfl (fun cx7_ => ?_) (fun cx7_ => ?_)
    · have cx7_ : vx6_ ≤ f_ := of_decide_eq_true cx7_
      refine sm_T_go 1 (c1 := (86, [some (.inr (.inr (some (13, 0)))), some (.inl a1_), some (.inl a2_), some (.inl l_), some (.inl f_)], [.inl (-1)], S_)) rfl ?_
      refine sm_T_ri rfl ⟨_, _, rfl, _, rfl, hI_, hF_, ?_⟩
      exact ⟨⟨by omega, by omega⟩, jR_fr hJ_ hI_ hF_⟩
    · have cx7_ : ¬ (vx6_ ≤ f_) := of_decide_eq_false cx7_
      refine sm_T_go 3 (c1 := (63, [some (.inr (.inr (some (13, 0)))), some (.inl a1_), some (.inl a2_), some (.inl l_), some (.inl f_)], [.inl f_, .inl a1_, .inr (.inr (some (13, 0)))], S_)) rfl ?_
      refine sm_T_cal (d1 := 1) (Q1 := vq_532 a1_ f_ S_) rfl rfl (by decide) (vc_532 a1_ f_ S_ hI_ (by omega) (by omega)) (fun u_ Sx8_ px11_ => ?_)
      obtain ⟨rfl, vx13_, rfl, px11_⟩ := px11_
      refine sm_T_b0 (a := 0) (z := 13) rfl (fun cx14_ => ?_) (fun cx14_ => ?_)
      · have cx14_ : vx13_ = 0 := of_decide_eq_true cx14_
        refine sm_T_inc (a := 4) (z := 1) (v := f_) (w := f_ + 1) rfl rfl (by omega) (by omega) (by omega) ?_ -- pc_ 79
        refine sm_T_go 1 (c1 := (49, [some (.inr (.inr (some (13, 0)))), some (.inl a1_), some (.inl a2_), some (.inl l_), some (.inl (f_ + 1))], [], S_)) rfl ?_
        refine ih_ l_ (f_ + 1) S_ hI_ hF_ ⟨?_, trivial⟩ ?_
        · omega
        · omega
      · have cx14_ : ¬ (vx13_ = 0) := of_decide_eq_false cx14_
        refine sm_T_go 1 (c1 := (70, [some (.inr (.inr (some (13, 0)))), some (.inl a1_), some (.inl a2_), some (.inl l_), some (.inl f_)], [.inl l_], S_)) rfl ?_
        refine sm_T_b0 (a := 1) (z := 6) rfl (fun cx15_ => ?_) (fun cx15_ => ?_)
        · have cx15_ : l_ ≠ 0 := of_decide_eq_true cx15_
          refine sm_T_inc (a := 3) (z := (-1)) (v := l_) (w := l_ - 1) rfl rfl (by omega) (by omega) (by omega) ?_ -- pc_ 76
          refine sm_T_inc (a := 4) (z := 1) (v := f_) (w := f_ + 1) rfl rfl (by omega) (by omega) (by omega) ?_ -- pc_ 79
          refine sm_T_go 1 (c1 := (49, [some (.inr (.inr (some (13, 0)))), some (.inl a1_), some (.inl a2_), some (.inl (l_ - 1)), some (.inl (f_ + 1))], [], S_)) rfl ?_
          refine ih_ (l_ - 1) (f_ + 1) S_ hI_ hF_ ⟨?_, trivial⟩ ?_
          · omega
          · omega
        · have cx15_ : ¬ (l_ ≠ 0) := of_decide_eq_false cx15_
          refine sm_T_go 1 (c1 := (75, [some (.inr (.inr (some (13, 0)))), some (.inl a1_), some (.inl a2_), some (.inl l_), some (.inl f_)], [.inl f_], S_)) rfl ?_
          refine sm_T_ri rfl ⟨_, _, rfl, _, rfl, hI_, hF_, ?_⟩
          exact ⟨⟨by omega, by omega⟩, jR_fr hJ_ hI_ hF_⟩
set_option maxHeartbeats 400000 in
set_option maxRecDepth 20000 in
theorem vc_533 {sc_ : Nat × (Nat → Int)} (a1_ : Int) (a2_ : Int) (S0_ : sm_S) (hI_ : gi S0_) (ha1_ : (-2147483648) ≤ a1_ ∧ a1_ ≤ 2147483647) (ha2_ : (-2147483648) ≤ a2_ ∧ a2_ ≤ 2147483647) (hJ_ : jR S0_) : sm_T (mt_P sc_) 2 533 (0, [some (.inr (.inr (some (13, 0)))), some (.inl a1_), some (.inl a2_), none, none], [], S0_) (fun ro9_ => ∃ u_ S1_, ro9_ = (.inl u_, S1_, 0) ∧ vq_533 a1_ a2_ S0_ u_ S1_) := by
  have hF_ : ai_fr (sx_W vw_533) S0_ S0_ := ai_fr_rf
  refine sm_T_go 3 (c1 := (3, [some (.inr (.inr (some (13, 0)))), some (.inl a1_), some (.inl a2_), none, none], [.inl a1_, .inr (.inr (some (13, 0))), .inr (.inr (some (13, 0)))], S0_)) rfl ?_
  refine sm_T_cal (d1 := 0) (Q1 := vq_371 a1_ S0_) rfl rfl (by decide) (vc_371 a1_ S0_ hI_ (by omega)) (fun u_ Sx1_ px4_ => ?_)
  obtain ⟨rfl, vx6_, rfl, px4_⟩ := px4_
  have d3_ := px4_
  refine sm_T_b0 (a := 0) (z := 7) rfl (fun cx7_ => ?_) (fun cx7_ => ?_)
  · have cx7_ : vx6_ = 0 := of_decide_eq_true cx7_
    have hIx8_ : gi (sm_pI S0_ 13 0 0 1) := gi_pI hI_ (show 0 ≤ 1 ∧ 1 ≤ 4 from ⟨by omega, by omega⟩)
    have hFx9_ : ai_fr (sx_W vw_533) S0_ (sm_pI S0_ 13 0 0 1) := ai_fr_tr hF_ (ai_fr_pI rfl)
    refine sm_T_go 7 (c1 := (43, [some (.inr (.inr (some (13, 0)))), some (.inl a1_), some (.inl a2_), none, none], [.inl 0], sm_pI S0_ 13 0 0 1)) rfl ?_
    refine sm_T_ri rfl ⟨_, _, rfl, _, rfl, hIx8_, hFx9_, ?_⟩
    exact ⟨⟨by omega, by omega⟩, jR_fr hJ_ hIx8_ hFx9_⟩
  · have cx7_ : ¬ (vx6_ = 0) := of_decide_eq_false cx7_
    have K9_ : cRk a1_ S0_ := hJ_.2 a1_ (by omega) (by omega) (by omega)
    obtain ⟨K1_, K2_, K3_, K4_, K5_, K6_, K7_⟩ := K9_
    refine sm_T_go 1 (c1 := (10, [some (.inr (.inr (some (13, 0)))), some (.inl a1_), some (.inl a2_), none, none], [.inl a2_, .inr (.inr (some (13, 0)))], S0_)) rfl ?_
    refine sm_T_b0 (a := 3) (z := 7) rfl (fun cx10_ => ?_) (fun cx10_ => ?_)
    · have cx10_ : 0 ≤ a2_ := of_decide_eq_true cx10_
      refine sm_T_go 3 (c1 := (22, [some (.inr (.inr (some (13, 0)))), some (.inl a1_), some (.inl a2_), none, none], [.inl a1_, .inr (.inr (some (289, 0))), .inr (.inr (some (13, 0)))], S0_)) rfl ?_
      refine sm_T_iald (n := 4) rfl rfl (by omega) (by omega) ?_
      have bx11_ : (-1) ≤ S0_.2.2.1 289 0 a1_.toNat ∧ S0_.2.2.1 289 0 a1_.toNat ≤ 1224 := hI_.2 289 0 _
      refine sm_T_go 1 (c1 := (24, [some (.inr (.inr (some (13, 0)))), some (.inl a1_), some (.inl a2_), none, none], [.inl (-1), .inl (S0_.2.2.1 289 0 a1_.toNat), .inr (.inr (some (13, 0)))], S0_)) rfl ?_
      refine sm_T_br (a := 1) (z := 7) rfl (fun cx12_ => ?_) (fun cx12_ => ?_)
      · have cx12_ : (S0_.2.2.1 289 0 a1_.toNat) ≠ (-1) := of_decide_eq_true cx12_
        have hIx13_ : gi (sm_pI S0_ 13 0 0 0) := gi_pI hI_ (show 0 ≤ 0 ∧ 0 ≤ 4 from ⟨by omega, by omega⟩)
        have hFx14_ : ai_fr (sx_W vw_533) S0_ (sm_pI S0_ 13 0 0 0) := ai_fr_tr hF_ (ai_fr_pI rfl)
        refine sm_T_go 9 (c1 := (49, [some (.inr (.inr (some (13, 0)))), some (.inl a1_), some (.inl a2_), some (.inl a2_), some (.inl 0)], [], sm_pI S0_ 13 0 0 0)) rfl ?_
        refine (vl_533 a1_ a2_ S0_ ha1_ ha2_ hJ_ _) a2_ 0 (sm_pI S0_ 13 0 0 0) hIx13_ hFx14_ ⟨?_, trivial⟩ (Nat.lt_succ_self _)
        · omega
      · have cx12_ : ¬ ((S0_.2.2.1 289 0 a1_.toNat) ≠ (-1)) := of_decide_eq_false cx12_
        have hIx15_ : gi (sm_pI S0_ 13 0 0 2) := gi_pI hI_ (show 0 ≤ 2 ∧ 2 ≤ 4 from ⟨by omega, by omega⟩)
        have hFx16_ : ai_fr (sx_W vw_533) S0_ (sm_pI S0_ 13 0 0 2) := ai_fr_tr hF_ (ai_fr_pI rfl)
        refine sm_T_go 7 (c1 := (43, [some (.inr (.inr (some (13, 0)))), some (.inl a1_), some (.inl a2_), none, none], [.inl 0], sm_pI S0_ 13 0 0 2)) rfl ?_
        refine sm_T_ri rfl ⟨_, _, rfl, _, rfl, hIx15_, hFx16_, ?_⟩
        exact ⟨⟨by omega, by omega⟩, jR_fr hJ_ hIx15_ hFx16_⟩
    · have cx10_ : ¬ (0 ≤ a2_) := of_decide_eq_false cx10_
      have hIx17_ : gi (sm_pI S0_ 13 0 0 1) := gi_pI hI_ (show 0 ≤ 1 ∧ 1 ≤ 4 from ⟨by omega, by omega⟩)
      have hFx18_ : ai_fr (sx_W vw_533) S0_ (sm_pI S0_ 13 0 0 1) := ai_fr_tr hF_ (ai_fr_pI rfl)
      refine sm_T_go 7 (c1 := (43, [some (.inr (.inr (some (13, 0)))), some (.inl a1_), some (.inl a2_), none, none], [.inl 0], sm_pI S0_ 13 0 0 1)) rfl ?_
      refine sm_T_ri rfl ⟨_, _, rfl, _, rfl, hIx17_, hFx18_, ?_⟩
      exact ⟨⟨by omega, by omega⟩, jR_fr hJ_ hIx17_ hFx18_⟩
/-! M_.faults -/
def vw_534 : sx_Wl := ([(13, 0), (13, 221), (13, 222)], [238, 293, 294], [])
def vq_534 (a1_ : Int) (a2_ : Int) (S0_ : sm_S) (u_ : Option sm_V) (S1_ : sm_S) : Prop := ∃ v_ : Int, u_ = some (.inl v_) ∧ gi S1_ ∧ ai_fr (sx_W vw_534) S0_ S1_ ∧ ((-2147483648 ≤ v_ ∧ v_ ≤ 2147483647) ∧ jR S1_)
set_option maxHeartbeats 400000 in
set_option maxRecDepth 20000 in
theorem vl_534 {sc_ : Nat × (Nat → Int)} (a1_ : Int) (a2_ : Int) (S0_ : sm_S) (ha1_ : (-2147483648) ≤ a1_ ∧ a1_ ≤ 2147483647) (ha2_ : (-2147483648) ≤ a2_ ∧ a2_ ≤ 2147483647) (hJ_ : jR S0_) : ∀ nn_ : Nat, (∀ (mn : Int) (wo : Int) (sh_ : Int) (f_ : Int) (S_ : sm_S), gi S_ → ai_fr (sx_W vw_534) S0_ S_ → ((0 ≤ a1_ ∧ a1_ < 4 ∧ 0 ≤ a2_ ∧ a2_ ≤ 2 ∧ 0 ≤ f_ ∧ f_ ≤ 1224 ∧ 0 ≤ wo ∧ wo ≤ f_ ∧ 0 ≤ sh_ ∧ sh_ ≤ f_ ∧ mn = fco a1_ S0_ ∧ mn ≤ 1224 ∧ 0 ≤ mn) ∧ (S0_.2.2.1 222 0 a1_.toNat = 1) ∧ True) → ((5000 - f_).toNat) < nn_ → sm_T (mt_P sc_) 5 534 (54, [some (.inr (.inr (some (13, 0)))), some (.inl a1_), some (.inl a2_), some (.inl mn), some (.inl wo), some (.inl sh_), some (.inl f_)], [], S_) (fun ro9_ => ∃ u_ S1_, ro9_ = (.inl u_, S1_, 0) ∧ vq_534 a1_ a2_ S0_ u_ S1_)) := by
  intro nn_
  induction nn_ with
  | zero => exact fun _ _ _ _ _ _ _ _ h_ => absurd h_ (Nat.not_lt_zero _)
  | succ nn_ ih_ =>
    rintro mn wo sh_ f_ S_ hI_ hF_ ⟨h0_, ht_, -⟩ hm_
    have f222_ : S_.2.2.1 222 0 = S0_.2.2.1 222 0 := fr_arr hF_ rfl
    have f223_ : S_.2.2.1 223 0 = S0_.2.2.1 223 0 := fr_arr hF_ rfl
    have f224_ : S_.2.2.1 224 0 = S0_.2.2.1 224 0 := fr_arr hF_ rfl
    have f225_ : S_.2.2.1 225 0 = S0_.2.2.1 225 0 := fr_arr hF_ rfl
    have f228_ : S_.2.2.1 228 0 = S0_.2.2.1 228 0 := fr_arr hF_ rfl
    have x222_ : S_.2.2.1 222 0 a1_.toNat = S0_.2.2.1 222 0 a1_.toNat := congrFun f222_ _
    have x223_ : S_.2.2.1 223 0 a1_.toNat = S0_.2.2.1 223 0 a1_.toNat := congrFun f223_ _
    have x224_ : S_.2.2.1 224 0 a1_.toNat = S0_.2.2.1 224 0 a1_.toNat := congrFun f224_ _
    have x225_ : S_.2.2.1 225 0 a1_.toNat = S0_.2.2.1 225 0 a1_.toNat := congrFun f225_ _
    have x228_ : S_.2.2.1 228 0 a1_.toNat = S0_.2.2.1 228 0 a1_.toNat := congrFun f228_ _
    have K9_ : cRk a1_ S0_ := hJ_.2 a1_ (by omega) (by omega) ht_
    obtain ⟨K1_, K2_, K3_, K4_, K5_, K6_, K7_⟩ := K9_
    have k4_ := cgt_fr (c_ := a1_) (by omega) hI_ K4_ hF_
    have k5_ := con_fr (c_ := a1_) (by omega) hI_ K5_ hF_
    have kf_ : fco a1_ S_ = fco a1_ S0_ := fco_fr hF_
    have fb9_ := fco_b (c_ := a1_) hI_ (by omega)
    have q9_ : (-1) ≤ S_.2.2.1 289 0 a1_.toNat ∧ S_.2.2.1 289 0 a1_.toNat ≤ 1224 := hI_.2 289 0 _
    refine sm_T_go 2 (c1 := (57, [some (.inr (.inr (some (13, 0)))), some (.inl a1_), some (.inl a2_), some (.inl mn), some (.inl wo), some (.inl sh_), some (.inl f_)], [.inl mn, .inl f_], S_)) rfl ?_
    refine sm_T_br (a := 3) (z := 64) rfl (fun cx1_ => ?_) (fun cx1_ => ?_)
    · have cx1_ : mn ≤ f_ := of_decide_eq_true cx1_
      refine sm_T_go 1 (c1 := (122, [some (.inr (.inr (some (13, 0)))), some (.inl a1_), some (.inl a2_), some (.inl mn), some (.inl wo), some (.inl sh_), some (.inl f_)], [.inl a2_], S_)) rfl ?_
      refine sm_T_b0 (a := 1) (z := 7) rfl (fun cx2_ => ?_) (fun cx2_ => ?_)
      · have cx2_ : a2_ ≠ 0 := of_decide_eq_true cx2_
        refine sm_T_go 2 (c1 := (131, [some (.inr (.inr (some (13, 0)))), some (.inl a1_), some (.inl a2_), some (.inl mn), some (.inl wo), some (.inl sh_), some (.inl f_)], [.inl 1, .inl a2_], S_)) rfl ?_
        refine sm_T_br (a := 1) (z := 8) rfl (fun cx3_ => ?_) (fun cx3_ => ?_)
        · have cx3_ : a2_ ≠ 1 := of_decide_eq_true cx3_
          refine sm_T_go 3 (c1 := (144, [some (.inr (.inr (some (13, 0)))), some (.inl a1_), some (.inl a2_), some (.inl mn), some (.inl wo), some (.inl sh_), some (.inl f_)], [.inl a1_, .inr (.inr (some (289, 0)))], S_)) rfl ?_
          refine sm_T_iald (n := 4) rfl rfl (by omega) (by omega) ?_
          have bx4_ : (-1) ≤ S_.2.2.1 289 0 a1_.toNat ∧ S_.2.2.1 289 0 a1_.toNat ≤ 1224 := hI_.2 289 0 _
          refine sm_T_go 1 (c1 := (146, [some (.inr (.inr (some (13, 0)))), some (.inl a1_), some (.inl a2_), some (.inl mn), some (.inl wo), some (.inl sh_), some (.inl f_)], [.inl (-1), .inl (S_.2.2.1 289 0 a1_.toNat)], S_)) rfl ?_
          refine sm_T_br (a := 1) (z := 7) rfl (fun cx5_ => ?_) (fun cx5_ => ?_)
          · have cx5_ : (S_.2.2.1 289 0 a1_.toNat) ≠ (-1) := of_decide_eq_true cx5_
            refine sm_T_go 1 (c1 := (155, [some (.inr (.inr (some (13, 0)))), some (.inl a1_), some (.inl a2_), some (.inl mn), some (.inl wo), some (.inl sh_), some (.inl f_)], [.inl sh_], S_)) rfl ?_
            refine sm_T_ri rfl ⟨_, _, rfl, _, rfl, hI_, hF_, ?_⟩
            exact ⟨⟨by omega, by omega⟩, jR_fr hJ_ hI_ hF_⟩
          · have cx5_ : ¬ ((S_.2.2.1 289 0 a1_.toNat) ≠ (-1)) := of_decide_eq_false cx5_
            refine sm_T_go 2 (c1 := (155, [some (.inr (.inr (some (13, 0)))), some (.inl a1_), some (.inl a2_), some (.inl mn), some (.inl wo), some (.inl sh_), some (.inl f_)], [.inl (-1)], S_)) rfl ?_
            refine sm_T_ri rfl ⟨_, _, rfl, _, rfl, hI_, hF_, ?_⟩
            exact ⟨⟨by omega, by omega⟩, jR_fr hJ_ hI_ hF_⟩
        · have cx3_ : ¬ (a2_ ≠ 1) := of_decide_eq_false cx3_
          refine sm_T_go 2 (c1 := (155, [some (.inr (.inr (some (13, 0)))), some (.inl a1_), some (.inl a2_), some (.inl mn), some (.inl wo), some (.inl sh_), some (.inl f_)], [.inl wo], S_)) rfl ?_
          refine sm_T_ri rfl ⟨_, _, rfl, _, rfl, hI_, hF_, ?_⟩
          exact ⟨⟨by omega, by omega⟩, jR_fr hJ_ hI_ hF_⟩
      · have cx2_ : ¬ (a2_ ≠ 0) := of_decide_eq_false cx2_
        refine sm_T_go 2 (c1 := (155, [some (.inr (.inr (some (13, 0)))), some (.inl a1_), some (.inl a2_), some (.inl mn), some (.inl wo), some (.inl sh_), some (.inl f_)], [.inl mn], S_)) rfl ?_
        refine sm_T_ri rfl ⟨_, _, rfl, _, rfl, hI_, hF_, ?_⟩
        exact ⟨⟨by omega, by omega⟩, jR_fr hJ_ hI_ hF_⟩
    · have cx1_ : ¬ (mn ≤ f_) := of_decide_eq_false cx1_
      refine sm_T_go 1 (c1 := (61, [some (.inr (.inr (some (13, 0)))), some (.inl a1_), some (.inl a2_), some (.inl mn), some (.inl wo), some (.inl sh_), some (.inl f_)], [.inl a2_], S_)) rfl ?_
      refine sm_T_b0 (a := 5) (z := 60) rfl (fun cx6_ => ?_) (fun cx6_ => ?_)
      · have cx6_ : a2_ ≤ 0 := of_decide_eq_true cx6_
        refine sm_T_go 1 (c1 := (122, [some (.inr (.inr (some (13, 0)))), some (.inl a1_), some (.inl a2_), some (.inl mn), some (.inl wo), some (.inl sh_), some (.inl f_)], [.inl a2_], S_)) rfl ?_
        refine sm_T_b0 (a := 1) (z := 7) rfl (fun cx7_ => ?_) (fun cx7_ => ?_)
        · have cx7_ : a2_ ≠ 0 := of_decide_eq_true cx7_
          refine sm_T_go 2 (c1 := (131, [some (.inr (.inr (some (13, 0)))), some (.inl a1_), some (.inl a2_), some (.inl mn), some (.inl wo), some (.inl sh_), some (.inl f_)], [.inl 1, .inl a2_], S_)) rfl ?_
          refine sm_T_br (a := 1) (z := 8) rfl (fun cx8_ => ?_) (fun cx8_ => ?_)
          · have cx8_ : a2_ ≠ 1 := of_decide_eq_true cx8_
            refine sm_T_go 3 (c1 := (144, [some (.inr (.inr (some (13, 0)))), some (.inl a1_), some (.inl a2_), some (.inl mn), some (.inl wo), some (.inl sh_), some (.inl f_)], [.inl a1_, .inr (.inr (some (289, 0)))], S_)) rfl ?_
            refine sm_T_iald (n := 4) rfl rfl (by omega) (by omega) ?_
            have bx9_ : (-1) ≤ S_.2.2.1 289 0 a1_.toNat ∧ S_.2.2.1 289 0 a1_.toNat ≤ 1224 := hI_.2 289 0 _
            refine sm_T_go 1 (c1 := (146, [some (.inr (.inr (some (13, 0)))), some (.inl a1_), some (.inl a2_), some (.inl mn), some (.inl wo), some (.inl sh_), some (.inl f_)], [.inl (-1), .inl (S_.2.2.1 289 0 a1_.toNat)], S_)) rfl ?_
            refine sm_T_br (a := 1) (z := 7) rfl (fun cx10_ => ?_) (fun cx10_ => ?_)
            · have cx10_ : (S_.2.2.1 289 0 a1_.toNat) ≠ (-1) := of_decide_eq_true cx10_
              refine sm_T_go 1 (c1 := (155, [some (.inr (.inr (some (13, 0)))), some (.inl a1_), some (.inl a2_), some (.inl mn), some (.inl wo), some (.inl sh_), some (.inl f_)], [.inl sh_], S_)) rfl ?_
              refine sm_T_ri rfl ⟨_, _, rfl, _, rfl, hI_, hF_, ?_⟩
              exact ⟨⟨by omega, by omega⟩, jR_fr hJ_ hI_ hF_⟩
            · have cx10_ : ¬ ((S_.2.2.1 289 0 a1_.toNat) ≠ (-1)) := of_decide_eq_false cx10_
              refine sm_T_go 2 (c1 := (155, [some (.inr (.inr (some (13, 0)))), some (.inl a1_), some (.inl a2_), some (.inl mn), some (.inl wo), some (.inl sh_), some (.inl f_)], [.inl (-1)], S_)) rfl ?_
              refine sm_T_ri rfl ⟨_, _, rfl, _, rfl, hI_, hF_, ?_⟩
              exact ⟨⟨by omega, by omega⟩, jR_fr hJ_ hI_ hF_⟩
          · have cx8_ : ¬ (a2_ ≠ 1) := of_decide_eq_false cx8_
            exfalso; omega
        · have cx7_ : ¬ (a2_ ≠ 0) := of_decide_eq_false cx7_
          refine sm_T_go 2 (c1 := (155, [some (.inr (.inr (some (13, 0)))), some (.inl a1_), some (.inl a2_), some (.inl mn), some (.inl wo), some (.inl sh_), some (.inl f_)], [.inl mn], S_)) rfl ?_
          refine sm_T_ri rfl ⟨_, _, rfl, _, rfl, hI_, hF_, ?_⟩
          exact ⟨⟨by omega, by omega⟩, jR_fr hJ_ hI_ hF_⟩
      · have cx6_ : ¬ (a2_ ≤ 0) := of_decide_eq_false cx6_
        refine sm_T_go 3 (c1 := (68, [some (.inr (.inr (some (13, 0)))), some (.inl a1_), some (.inl a2_), some (.inl mn), some (.inl wo), some (.inl sh_), some (.inl f_)], [.inl 1, .inl a2_, .inl wo], S_)) rfl ?_
        refine sm_T_br (a := 1) (z := 18) rfl (fun cx11_ => ?_) (fun cx11_ => ?_)
        · have cx11_ : a2_ ≠ 1 := of_decide_eq_true cx11_
          refine sm_T_go 1 (c1 := (87, [some (.inr (.inr (some (13, 0)))), some (.inl a1_), some (.inl a2_), some (.inl mn), some (.inl wo), some (.inl sh_), some (.inl f_)], [.inl 0, .inl wo], S_)) rfl ?_
          refine sm_T_bin (w := wo) rfl (bi_add (by omega) (by omega) (by omega)) ?_ -- pc_ 87
          refine sm_T_go 4 (c1 := (94, [some (.inr (.inr (some (13, 0)))), some (.inl a1_), some (.inl a2_), some (.inl mn), some (.inl wo), some (.inl sh_), some (.inl f_)], [.inl 2, .inl a2_, .inl sh_], S_)) rfl ?_
          refine sm_T_br (a := 1) (z := 17) rfl (fun cx12_ => ?_) (fun cx12_ => ?_)
          · have cx12_ : a2_ ≠ 2 := of_decide_eq_true cx12_
            refine sm_T_go 1 (c1 := (112, [some (.inr (.inr (some (13, 0)))), some (.inl a1_), some (.inl a2_), some (.inl mn), some (.inl wo), some (.inl sh_), some (.inl f_)], [.inl 0, .inl sh_], S_)) rfl ?_
            refine sm_T_bin (w := sh_) rfl (bi_add (by omega) (by omega) (by omega)) ?_ -- pc_ 112
            refine sm_T_go 1 (c1 := (115, [some (.inr (.inr (some (13, 0)))), some (.inl a1_), some (.inl a2_), some (.inl mn), some (.inl wo), some (.inl sh_), some (.inl f_)], [], S_)) rfl ?_
            refine sm_T_inc (a := 6) (z := 1) (v := f_) (w := f_ + 1) rfl rfl (by omega) (by omega) (by omega) ?_ -- pc_ 115
            refine sm_T_go 1 (c1 := (54, [some (.inr (.inr (some (13, 0)))), some (.inl a1_), some (.inl a2_), some (.inl mn), some (.inl wo), some (.inl sh_), some (.inl (f_ + 1))], [], S_)) rfl ?_
            refine ih_ mn wo sh_ (f_ + 1) S_ hI_ hF_ ⟨?_, ?_, trivial⟩ ?_
            · omega
            · exact ht_
            · omega
          · have cx12_ : ¬ (a2_ ≠ 2) := of_decide_eq_false cx12_
            refine sm_T_go 3 (c1 := (101, [some (.inr (.inr (some (13, 0)))), some (.inl a1_), some (.inl a2_), some (.inl mn), some (.inl wo), some (.inl sh_), some (.inl f_)], [.inl f_, .inl a1_, .inr (.inr (some (13, 0))), .inl sh_], S_)) rfl ?_
            refine sm_T_cal (d1 := 1) (Q1 := vq_526 a1_ f_ S_) rfl rfl (by decide) (vc_526 a1_ f_ S_ hI_ (by omega) (by omega)) (fun u_ Sx13_ px16_ => ?_)
            obtain ⟨rfl, vx18_, rfl, px16_⟩ := px16_
            refine sm_T_b0 (a := 5) (z := 7) rfl (fun cx19_ => ?_) (fun cx19_ => ?_)
            · have cx19_ : vx18_ ≤ 0 := of_decide_eq_true cx19_
              refine sm_T_go 1 (c1 := (112, [some (.inr (.inr (some (13, 0)))), some (.inl a1_), some (.inl a2_), some (.inl mn), some (.inl wo), some (.inl sh_), some (.inl f_)], [.inl 0, .inl sh_], S_)) rfl ?_
              refine sm_T_bin (w := sh_) rfl (bi_add (by omega) (by omega) (by omega)) ?_ -- pc_ 112
              refine sm_T_go 1 (c1 := (115, [some (.inr (.inr (some (13, 0)))), some (.inl a1_), some (.inl a2_), some (.inl mn), some (.inl wo), some (.inl sh_), some (.inl f_)], [], S_)) rfl ?_
              refine sm_T_inc (a := 6) (z := 1) (v := f_) (w := f_ + 1) rfl rfl (by omega) (by omega) (by omega) ?_ -- pc_ 115
              refine sm_T_go 1 (c1 := (54, [some (.inr (.inr (some (13, 0)))), some (.inl a1_), some (.inl a2_), some (.inl mn), some (.inl wo), some (.inl sh_), some (.inl (f_ + 1))], [], S_)) rfl ?_
              refine ih_ mn wo sh_ (f_ + 1) S_ hI_ hF_ ⟨?_, ?_, trivial⟩ ?_
              · omega
              · exact ht_
              · omega
            · have cx19_ : ¬ (vx18_ ≤ 0) := of_decide_eq_false cx19_
              refine sm_T_go 2 (c1 := (112, [some (.inr (.inr (some (13, 0)))), some (.inl a1_), some (.inl a2_), some (.inl mn), some (.inl wo), some (.inl sh_), some (.inl f_)], [.inl 1, .inl sh_], S_)) rfl ?_
              refine sm_T_bin (w := sh_ + 1) rfl (bi_add (by omega) (by omega) (by omega)) ?_ -- pc_ 112
              refine sm_T_go 1 (c1 := (115, [some (.inr (.inr (some (13, 0)))), some (.inl a1_), some (.inl a2_), some (.inl mn), some (.inl wo), some (.inl (sh_ + 1)), some (.inl f_)], [], S_)) rfl ?_
              refine sm_T_inc (a := 6) (z := 1) (v := f_) (w := f_ + 1) rfl rfl (by omega) (by omega) (by omega) ?_ -- pc_ 115
              refine sm_T_go 1 (c1 := (54, [some (.inr (.inr (some (13, 0)))), some (.inl a1_), some (.inl a2_), some (.inl mn), some (.inl wo), some (.inl (sh_ + 1)), some (.inl (f_ + 1))], [], S_)) rfl ?_
              refine ih_ mn wo (sh_ + 1) (f_ + 1) S_ hI_ hF_ ⟨?_, ?_, trivial⟩ ?_
              · omega
              · exact ht_
              · omega
        · have cx11_ : ¬ (a2_ ≠ 1) := of_decide_eq_false cx11_
          refine sm_T_go 3 (c1 := (75, [some (.inr (.inr (some (13, 0)))), some (.inl a1_), some (.inl a2_), some (.inl mn), some (.inl wo), some (.inl sh_), some (.inl f_)], [.inl f_, .inl a1_, .inr (.inr (some (13, 0))), .inl wo], S_)) rfl ?_
          refine sm_T_cal (d1 := 4) (Q1 := vq_520 a1_ f_ S_) rfl rfl (by decide) (vc_520 a1_ f_ S_ hI_ (by omega) (by omega) (by exact k4_) (by exact k5_) (by omega)) (fun u_ Sx20_ px23_ => ?_)
          obtain ⟨vx25_, rfl, hIx21_, hFx22_, px23_⟩ := px23_
          have hFx24_ : ai_fr (sx_W vw_534) S0_ Sx20_ := ai_fr_tr hF_ (fr_le hFx22_ rfl)
          refine sm_T_go 1 (c1 := (79, [some (.inr (.inr (some (13, 0)))), some (.inl a1_), some (.inl a2_), some (.inl mn), some (.inl wo), some (.inl sh_), some (.inl f_)], [.inl (-1), .inl vx25_, .inl wo], Sx20_)) rfl ?_
          refine sm_T_br (a := 1) (z := 7) rfl (fun cx26_ => ?_) (fun cx26_ => ?_)
          · have cx26_ : vx25_ ≠ (-1) := of_decide_eq_true cx26_
            refine sm_T_go 1 (c1 := (87, [some (.inr (.inr (some (13, 0)))), some (.inl a1_), some (.inl a2_), some (.inl mn), some (.inl wo), some (.inl sh_), some (.inl f_)], [.inl 0, .inl wo], Sx20_)) rfl ?_
            refine sm_T_bin (w := wo) rfl (bi_add (by omega) (by omega) (by omega)) ?_ -- pc_ 87
            refine sm_T_go 4 (c1 := (94, [some (.inr (.inr (some (13, 0)))), some (.inl a1_), some (.inl a2_), some (.inl mn), some (.inl wo), some (.inl sh_), some (.inl f_)], [.inl 2, .inl a2_, .inl sh_], Sx20_)) rfl ?_
            refine sm_T_br (a := 1) (z := 17) rfl (fun cx27_ => ?_) (fun cx27_ => ?_)
            · have cx27_ : a2_ ≠ 2 := of_decide_eq_true cx27_
              refine sm_T_go 1 (c1 := (112, [some (.inr (.inr (some (13, 0)))), some (.inl a1_), some (.inl a2_), some (.inl mn), some (.inl wo), some (.inl sh_), some (.inl f_)], [.inl 0, .inl sh_], Sx20_)) rfl ?_
              refine sm_T_bin (w := sh_) rfl (bi_add (by omega) (by omega) (by omega)) ?_ -- pc_ 112
              refine sm_T_go 1 (c1 := (115, [some (.inr (.inr (some (13, 0)))), some (.inl a1_), some (.inl a2_), some (.inl mn), some (.inl wo), some (.inl sh_), some (.inl f_)], [], Sx20_)) rfl ?_
              refine sm_T_inc (a := 6) (z := 1) (v := f_) (w := f_ + 1) rfl rfl (by omega) (by omega) (by omega) ?_ -- pc_ 115
              refine sm_T_go 1 (c1 := (54, [some (.inr (.inr (some (13, 0)))), some (.inl a1_), some (.inl a2_), some (.inl mn), some (.inl wo), some (.inl sh_), some (.inl (f_ + 1))], [], Sx20_)) rfl ?_
              refine ih_ mn wo sh_ (f_ + 1) Sx20_ hIx21_ hFx24_ ⟨?_, ?_, trivial⟩ ?_
              · omega
              · exact ht_
              · omega
            · have cx27_ : ¬ (a2_ ≠ 2) := of_decide_eq_false cx27_
              exfalso; omega
          · have cx26_ : ¬ (vx25_ ≠ (-1)) := of_decide_eq_false cx26_
            refine sm_T_go 2 (c1 := (87, [some (.inr (.inr (some (13, 0)))), some (.inl a1_), some (.inl a2_), some (.inl mn), some (.inl wo), some (.inl sh_), some (.inl f_)], [.inl 1, .inl wo], Sx20_)) rfl ?_
            refine sm_T_bin (w := wo + 1) rfl (bi_add (by omega) (by omega) (by omega)) ?_ -- pc_ 87
            refine sm_T_go 4 (c1 := (94, [some (.inr (.inr (some (13, 0)))), some (.inl a1_), some (.inl a2_), some (.inl mn), some (.inl (wo + 1)), some (.inl sh_), some (.inl f_)], [.inl 2, .inl a2_, .inl sh_], Sx20_)) rfl ?_
            refine sm_T_br (a := 1) (z := 17) rfl (fun cx28_ => ?_) (fun cx28_ => ?_)
            · have cx28_ : a2_ ≠ 2 := of_decide_eq_true cx28_
              refine sm_T_go 1 (c1 := (112, [some (.inr (.inr (some (13, 0)))), some (.inl a1_), some (.inl a2_), some (.inl mn), some (.inl (wo + 1)), some (.inl sh_), some (.inl f_)], [.inl 0, .inl sh_], Sx20_)) rfl ?_
              refine sm_T_bin (w := sh_) rfl (bi_add (by omega) (by omega) (by omega)) ?_ -- pc_ 112
              refine sm_T_go 1 (c1 := (115, [some (.inr (.inr (some (13, 0)))), some (.inl a1_), some (.inl a2_), some (.inl mn), some (.inl (wo + 1)), some (.inl sh_), some (.inl f_)], [], Sx20_)) rfl ?_
              refine sm_T_inc (a := 6) (z := 1) (v := f_) (w := f_ + 1) rfl rfl (by omega) (by omega) (by omega) ?_ -- pc_ 115
              refine sm_T_go 1 (c1 := (54, [some (.inr (.inr (some (13, 0)))), some (.inl a1_), some (.inl a2_), some (.inl mn), some (.inl (wo + 1)), some (.inl sh_), some (.inl (f_ + 1))], [], Sx20_)) rfl ?_
              refine ih_ mn (wo + 1) sh_ (f_ + 1) Sx20_ hIx21_ hFx24_ ⟨?_, ?_, trivial⟩ ?_
              · omega
              · exact ht_
              · omega
            · have cx28_ : ¬ (a2_ ≠ 2) := of_decide_eq_false cx28_
              exfalso; omega
set_option maxHeartbeats 400000 in
set_option maxRecDepth 20000 in
theorem vc_534 {sc_ : Nat × (Nat → Int)} (a1_ : Int) (a2_ : Int) (S0_ : sm_S) (hI_ : gi S0_) (ha1_ : (-2147483648) ≤ a1_ ∧ a1_ ≤ 2147483647) (ha2_ : (-2147483648) ≤ a2_ ∧ a2_ ≤ 2147483647) (hJ_ : jR S0_) : sm_T (mt_P sc_) 5 534 (0, [some (.inr (.inr (some (13, 0)))), some (.inl a1_), some (.inl a2_), none, none, none, none], [], S0_) (fun ro9_ => ∃ u_ S1_, ro9_ = (.inl u_, S1_, 0) ∧ vq_534 a1_ a2_ S0_ u_ S1_) := by
  have hF_ : ai_fr (sx_W vw_534) S0_ S0_ := ai_fr_rf
  refine sm_T_go 3 (c1 := (3, [some (.inr (.inr (some (13, 0)))), some (.inl a1_), some (.inl a2_), none, none, none, none], [.inl a1_, .inr (.inr (some (13, 0))), .inr (.inr (some (13, 0)))], S0_)) rfl ?_
  refine sm_T_cal (d1 := 0) (Q1 := vq_371 a1_ S0_) rfl rfl (by decide) (vc_371 a1_ S0_ hI_ (by omega)) (fun u_ Sx1_ px4_ => ?_)
  obtain ⟨rfl, vx6_, rfl, px4_⟩ := px4_
  have d3_ := px4_
  refine sm_T_b0 (a := 1) (z := 7) rfl (fun cx7_ => ?_) (fun cx7_ => ?_)
  · have cx7_ : vx6_ ≠ 0 := of_decide_eq_true cx7_
    refine sm_T_go 3 (c1 := (16, [some (.inr (.inr (some (13, 0)))), some (.inl a1_), some (.inl a2_), none, none, none, none], [.inl 2, .inl 0, .inl a2_, .inr (.inr (some (13, 0)))], S0_)) rfl ?_
    refine sm_T_cal (d1 := 0) (Q1 := vq_278 a2_ 0 2 S0_) rfl rfl (by decide) (vc_278 a2_ 0 2 S0_ hI_ ) (fun u_ Sx8_ px11_ => ?_)
    obtain ⟨rfl, vx13_, rfl, px11_⟩ := px11_
    have e16_ := px11_
    refine sm_T_b0 (a := 1) (z := 7) rfl (fun cx14_ => ?_) (fun cx14_ => ?_)
    · have cx14_ : vx13_ ≠ 0 := of_decide_eq_true cx14_
      have K9_ : cRk a1_ S0_ := hJ_.2 a1_ (by omega) (by omega) (by omega)
      obtain ⟨K1_, K2_, K3_, K4_, K5_, K6_, K7_⟩ := K9_
      have fb9_ := fco_b hI_ K1_
      have hIx15_ : gi (sm_pI S0_ 13 0 0 0) := gi_pI hI_ (show 0 ≤ 0 ∧ 0 ≤ 4 from ⟨by omega, by omega⟩)
      have hFx16_ : ai_fr (sx_W vw_534) S0_ (sm_pI S0_ 13 0 0 0) := ai_fr_tr hF_ (ai_fr_pI rfl)
      refine sm_T_go 7 (c1 := (41, [some (.inr (.inr (some (13, 0)))), some (.inl a1_), some (.inl a2_), none, none, none, none], [.inl a1_, .inr (.inr (some (13, 0)))], sm_pI S0_ 13 0 0 0)) rfl ?_
      refine sm_T_cal (d1 := 1) (Q1 := vq_514 a1_ (sm_pI S0_ 13 0 0 0)) rfl rfl (by decide) (vc_514 a1_ (sm_pI S0_ 13 0 0 0) hIx15_ (by omega) (by exact K1_)) (fun u_ Sx17_ px20_ => ?_)
      obtain ⟨rfl, vx22_, rfl, px20_⟩ := px20_
      have e41_ : vx22_ = fco a1_ S0_ ∧ 0 ≤ vx22_ ∧ vx22_ ≤ 1224 := px20_
      refine sm_T_go 7 (c1 := (54, [some (.inr (.inr (some (13, 0)))), some (.inl a1_), some (.inl a2_), some (.inl vx22_), some (.inl 0), some (.inl 0), some (.inl 0)], [], sm_pI S0_ 13 0 0 0)) rfl ?_
      refine (vl_534 a1_ a2_ S0_ ha1_ ha2_ hJ_ _) vx22_ 0 0 0 (sm_pI S0_ 13 0 0 0) hIx15_ hFx16_ ⟨?_, ?_, trivial⟩ (Nat.lt_succ_self _)
      · omega
      · omega
    · have cx14_ : ¬ (vx13_ ≠ 0) := of_decide_eq_false cx14_
      have hIx23_ : gi (sm_pI S0_ 13 0 0 2) := gi_pI hI_ (show 0 ≤ 2 ∧ 2 ≤ 4 from ⟨by omega, by omega⟩)
      have hFx24_ : ai_fr (sx_W vw_534) S0_ (sm_pI S0_ 13 0 0 2) := ai_fr_tr hF_ (ai_fr_pI rfl)
      refine sm_T_go 7 (c1 := (38, [some (.inr (.inr (some (13, 0)))), some (.inl a1_), some (.inl a2_), none, none, none, none], [.inl 0], sm_pI S0_ 13 0 0 2)) rfl ?_
      refine sm_T_ri rfl ⟨_, _, rfl, _, rfl, hIx23_, hFx24_, ?_⟩
      exact ⟨⟨by omega, by omega⟩, jR_fr hJ_ hIx23_ hFx24_⟩
  · have cx7_ : ¬ (vx6_ ≠ 0) := of_decide_eq_false cx7_
    have hIx25_ : gi (sm_pI S0_ 13 0 0 1) := gi_pI hI_ (show 0 ≤ 1 ∧ 1 ≤ 4 from ⟨by omega, by omega⟩)
    have hFx26_ : ai_fr (sx_W vw_534) S0_ (sm_pI S0_ 13 0 0 1) := ai_fr_tr hF_ (ai_fr_pI rfl)
    refine sm_T_go 7 (c1 := (38, [some (.inr (.inr (some (13, 0)))), some (.inl a1_), some (.inl a2_), none, none, none, none], [.inl 0], sm_pI S0_ 13 0 0 1)) rfl ?_
    refine sm_T_ri rfl ⟨_, _, rfl, _, rfl, hIx25_, hFx26_, ?_⟩
    exact ⟨⟨by omega, by omega⟩, jR_fr hJ_ hIx25_ hFx26_⟩
end
/-! 99.zs5 -/
section
/-! the reference: a graph laid; written by wip/p55/gen/vg -/

/-! the_ reference: a_ graph laid for_ mapping -/
/-- the_ node that stands for_ a_ literal -/
def nod (d_ : Int) (S_ : sm_S) (l_ : Int) : Int := S_.2.2.1 166 0 (2048 * d_ + l_ / 2).toNat / 2
/-- what is_ known of_ the_ design that is_ mapped -/
def dmp (F_ N_ d_ : Int) (S_ : sm_S) : Prop := (0 ≤ d_ ∧ d_ ≤ 5 ∧ S_.1 13 0 105 = d_ ∧ S_.2.2.1 160 0 d_.toNat = F_ ∧ S_.2.2.1 159 0 d_.toNat = N_ ∧ 1 ≤ F_ ∧ F_ ≤ 13 ∧ F_ ≤ N_ ∧ N_ ≤ 1013) ∧ dRk d_.toNat S_
theorem nod_b {F_ N_ d_ l_ : Int} {S_ : sm_S} (h_ : dmp F_ N_ d_ S_) (h0_ : 0 ≤ l_) (h1_ : l_ < 2 * N_) : 0 ≤ nod d_ S_ l_ ∧ nod d_ S_ l_ ≤ l_ / 2 ∧ S_.2.2.1 166 0 (2048 * d_ + nod d_ S_ l_).toNat = 2 * nod d_ S_ l_ ∧ ∀ b_ : Int, 0 ≤ b_ ∧ b_ ≤ 1 → i_xor (S_.2.2.1 166 0 (2048 * d_ + l_ / 2).toNat) b_ / 2 = nod d_ S_ l_ := by
  obtain ⟨⟨a1_, a2_, a3_, a4_, a5_, a6_, a7_, a8_, a9_⟩, F1_, I_, R_, N1_, k1_, k2_, k3_, k4_⟩ := h_
  have q_ := k3_.2 (l_ / 2).toNat (by omega)
  obtain ⟨q1_, q2_, -⟩ := q_
  have e_ : 2048 * d_.toNat + (l_ / 2).toNat = (2048 * d_ + l_ / 2).toNat := by omega
  simp only [e_] at q1_ q2_
  unfold nod
  have x_ := q2_
  rw [show 2048 * d_.toNat + (S_.2.2.1 166 0 (2048 * d_ + l_ / 2).toNat / 2).toNat = (2048 * d_ + S_.2.2.1 166 0 (2048 * d_ + l_ / 2).toNat / 2).toNat by omega] at x_
  refine ⟨by omega, by omega, x_, fun b_ hb_ => ?_⟩
  have y_ := i_xb (x_ := S_.2.2.1 166 0 (2048 * d_ + l_ / 2).toNat) (b_ := b_) (by omega) hb_
  omega
theorem nod_p {F_ N_ d_ k_ : Int} {S_ : sm_S} (h_ : dmp F_ N_ d_ S_) (h0_ : F_ ≤ k_) (h1_ : k_ < N_) (hs_ : S_.2.2.1 166 0 (2048 * d_ + k_).toNat = 2 * k_) : (2 ≤ S_.2.2.1 164 0 (2048 * d_ + k_).toNat ∧ S_.2.2.1 164 0 (2048 * d_ + k_).toNat < 2 * k_ ∧ 1 ≤ nod d_ S_ (S_.2.2.1 164 0 (2048 * d_ + k_).toNat) ∧ nod d_ S_ (S_.2.2.1 164 0 (2048 * d_ + k_).toNat) < k_) ∧ (2 ≤ S_.2.2.1 165 0 (2048 * d_ + k_).toNat ∧ S_.2.2.1 165 0 (2048 * d_ + k_).toNat < 2 * k_ ∧ 1 ≤ nod d_ S_ (S_.2.2.1 165 0 (2048 * d_ + k_).toNat) ∧ nod d_ S_ (S_.2.2.1 165 0 (2048 * d_ + k_).toNat) < k_) := by
  have hh_ := h_
  obtain ⟨⟨a1_, a2_, a3_, a4_, a5_, a6_, a7_, a8_, a9_⟩, F1_, I_, R_, N1_, k1_, k2_, k3_, k4_⟩ := h_
  have g_ := k2_ k_.toNat (by omega) (by omega)
  have q_ := (k3_.2 k_.toNat (by omega)).2.2 (by omega)
  have e_ : 2048 * d_.toNat + k_.toNat = (2048 * d_ + k_).toNat := by omega
  simp only [e_] at g_ q_
  have m_ := q_ (by omega)
  unfold m3 at m_
  simp only [e_] at m_
  rw [show 2048 * d_.toNat + (S_.2.2.1 164 0 (2048 * d_ + k_).toNat / 2).toNat = (2048 * d_ + S_.2.2.1 164 0 (2048 * d_ + k_).toNat / 2).toNat by omega, show 2048 * d_.toNat + (S_.2.2.1 165 0 (2048 * d_ + k_).toNat / 2).toNat = (2048 * d_ + S_.2.2.1 165 0 (2048 * d_ + k_).toNat / 2).toNat by omega] at m_
  have b1_ := nod_b hh_ (l_ := S_.2.2.1 164 0 (2048 * d_ + k_).toNat) (by omega) (by omega)
  have b2_ := nod_b hh_ (l_ := S_.2.2.1 165 0 (2048 * d_ + k_).toNat) (by omega) (by omega)
  have c1_ : 1 ≤ nod d_ S_ (S_.2.2.1 164 0 (2048 * d_ + k_).toNat) := m_.1
  have c2_ : 1 ≤ nod d_ S_ (S_.2.2.1 165 0 (2048 * d_ + k_).toNat) := m_.2.1
  omega
theorem dmp_fr {w_ : sx_Wl} {F_ N_ d_ : Int} {S_ S'_ : sm_S} (h_ : dmp F_ N_ d_ S_) (g_ : ai_fr (sx_W w_) S_ S'_) (h1_ : (sx_W w_).1 13 105 = false := by rfl) (q_ : dwf w_ = true := by rfl) : dmp F_ N_ d_ S'_ := by
  refine ⟨?_, dRk_fr h_.2 g_ (fun t_ a_ b_ => dwf_0 q_ (by omega) a_)⟩
  rw [g_.1 13 0 105 h1_, fr_arr (t := 160) g_ (dwf_0 q_ (by decide) (by decide)), fr_arr (t := 159) g_ (dwf_0 q_ (by decide) (by decide))]
  exact h_.1
theorem nod_fr {w_ : sx_Wl} {d_ : Int} {S_ S'_ : sm_S} (g_ : ai_fr (sx_W w_) S_ S'_) (q_ : dwf w_ = true := by rfl) : nod d_ S'_ = nod d_ S_ := by
  funext l_
  unfold nod
  rw [fr_arr (t := 166) g_ (dwf_0 q_ (by decide) (by decide))]
theorem dmp_l {F_ N_ d_ k_ : Int} {S_ : sm_S} (h_ : dmp F_ N_ d_ S_) : (0 ≤ k_ → k_ < S_.2.2.1 156 0 d_.toNat → 0 ≤ S_.2.2.1 167 0 (16 * d_ + k_).toNat ∧ S_.2.2.1 167 0 (16 * d_ + k_).toNat < 2 * N_) ∧ (0 ≤ k_ → k_ < S_.2.2.1 155 0 d_.toNat → 0 ≤ S_.2.2.1 168 0 (6 * d_ + k_).toNat ∧ S_.2.2.1 168 0 (6 * d_ + k_).toNat < 2 * N_) := by
  obtain ⟨⟨a1_, a2_, a3_, a4_, a5_, a6_, a7_, a8_, a9_⟩, F1_, I_, R_, N1_, k1_, k2_, k3_, k4_, k5_, -⟩ := h_
  refine ⟨fun h0_ h1_ => ?_, fun h0_ h1_ => ?_⟩
  · have q_ := k4_ k_.toNat (by omega)
    rw [show 16 * d_.toNat + k_.toNat = (16 * d_ + k_).toNat by omega] at q_
    omega
  · have q_ := k5_ k_.toNat (by omega)
    rw [show 6 * d_.toNat + k_.toNat = (6 * d_ + k_).toNat by omega] at q_
    omega
/-- nodes that are_ wanted stand for_ themselves -/
def gwn (N_ d_ : Int) (S_ : sm_S) : Prop := ∀ k_ : Int, 0 ≤ k_ → k_ < N_ → S_.2.2.1 202 0 k_.toNat = 1 → S_.2.2.1 166 0 (2048 * d_ + k_).toNat = 2 * k_
/-- the_ parts of_ wanted nodes are_ wanted -/
def lgp (S_ : sm_S) (k_ : Int) : Prop := (1 ≤ S_.2.2.1 199 0 k_.toNat / 2 ∧ S_.2.2.1 199 0 k_.toNat / 2 < k_ ∧ S_.2.2.1 202 0 (S_.2.2.1 199 0 k_.toNat / 2).toNat = 1) ∧ (1 ≤ S_.2.2.1 200 0 k_.toNat / 2 ∧ S_.2.2.1 200 0 k_.toNat / 2 < k_ ∧ S_.2.2.1 202 0 (S_.2.2.1 200 0 k_.toNat / 2).toNat = 1)
def lgn (F_ N_ : Int) (S_ : sm_S) : Prop := ∀ k_ : Int, F_ ≤ k_ → k_ < N_ → S_.2.2.1 202 0 k_.toNat = 1 → lgp S_ k_
/-- roots are_ marked -/
def mrk (F_ : Int) (S_ : sm_S) (q_ : Int) : Prop := S_.2.2.1 202 0 q_.toNat = 1 ∧ (q_ < F_ ∨ S_.2.2.1 203 0 q_.toNat = 1)
def rtd (F_ d_ o_ n_ : Int) (S_ : sm_S) : Prop := (∀ k_ : Int, 0 ≤ k_ → k_ < o_ → mrk F_ S_ (nod d_ S_ (S_.2.2.1 167 0 (16 * d_ + k_).toNat))) ∧ ∀ k_ : Int, 0 ≤ k_ → k_ < n_ → mrk F_ S_ (nod d_ S_ (S_.2.2.1 168 0 (6 * d_ + k_).toNat))
theorem mrk_up {F_ q_ x_ : Int} {S_ S'_ : sm_S} (h_ : mrk F_ S_ q_) (hx_ : 0 ≤ x_) (hq_ : 0 ≤ q_) (e1_ : ∀ j_, S'_.2.2.1 202 0 j_ = if j_ = x_.toNat then 1 else S_.2.2.1 202 0 j_) (e2_ : ∀ j_, S'_.2.2.1 203 0 j_ = if j_ = x_.toNat then (if x_ < F_ then 0 else 1) else S_.2.2.1 203 0 j_) : mrk F_ S'_ q_ := by
  unfold mrk at *
  rw [e1_, e2_]
  by_cases c_ : q_.toNat = x_.toNat
  · rw [if_pos c_, if_pos c_]
    refine ⟨rfl, ?_⟩
    by_cases y_ : q_ < F_
    · exact Or.inl y_
    · right
      rw [if_neg (by omega)]
  · rw [if_neg c_, if_neg c_]
    exact h_
theorem mrk_mo {F_ q_ : Int} {S_ S'_ : sm_S} (h_ : mrk F_ S_ q_) (e1_ : ∀ j_, S_.2.2.1 202 0 j_ = 1 → S'_.2.2.1 202 0 j_ = 1) (e2_ : ∀ j_, S_.2.2.1 203 0 j_ = 1 → S'_.2.2.1 203 0 j_ = 1) : mrk F_ S'_ q_ := by
  refine ⟨e1_ _ h_.1, ?_⟩
  rcases h_.2 with y_ | y_
  · exact Or.inl y_
  · exact Or.inr (e2_ _ y_)
theorem rtd_mo {F_ d_ o_ n_ : Int} {S_ S'_ : sm_S} (h_ : rtd F_ d_ o_ n_ S_) (a1_ : S'_.2.2.1 166 0 = S_.2.2.1 166 0) (a2_ : S'_.2.2.1 167 0 = S_.2.2.1 167 0) (a3_ : S'_.2.2.1 168 0 = S_.2.2.1 168 0) (e1_ : ∀ j_, S_.2.2.1 202 0 j_ = 1 → S'_.2.2.1 202 0 j_ = 1) (e2_ : ∀ j_, S_.2.2.1 203 0 j_ = 1 → S'_.2.2.1 203 0 j_ = 1) : rtd F_ d_ o_ n_ S'_ := by
  have nn9_ : nod d_ S'_ = nod d_ S_ := by
    funext l_
    unfold nod
    rw [a1_]
  unfold rtd
  rw [a2_, a3_, nn9_]
  exact ⟨fun k_ u0_ u1_ => mrk_mo (h_.1 k_ u0_ u1_) e1_ e2_, fun k_ u0_ u1_ => mrk_mo (h_.2 k_ u0_ u1_) e1_ e2_⟩
theorem lgp_mo {k_ : Int} {S_ S'_ : sm_S} (h_ : lgp S_ k_) (a_ : S'_.2.2.1 199 0 k_.toNat = S_.2.2.1 199 0 k_.toNat) (b_ : S'_.2.2.1 200 0 k_.toNat = S_.2.2.1 200 0 k_.toNat) (e1_ : ∀ j_, S_.2.2.1 202 0 j_ = 1 → S'_.2.2.1 202 0 j_ = 1) : lgp S'_ k_ := by
  unfold lgp
  rw [a_, b_]
  exact ⟨⟨h_.1.1, h_.1.2.1, e1_ _ h_.1.2.2⟩, h_.2.1, h_.2.2.1, e1_ _ h_.2.2.2⟩
theorem mrk_nw {F_ x_ : Int} {S_ S'_ : sm_S} (e1_ : ∀ j_, S'_.2.2.1 202 0 j_ = if j_ = x_.toNat then 1 else S_.2.2.1 202 0 j_) (e2_ : ∀ j_, S'_.2.2.1 203 0 j_ = if j_ = x_.toNat then (if x_ < F_ then 0 else 1) else S_.2.2.1 203 0 j_) : mrk F_ S'_ x_ := by
  unfold mrk
  rw [e1_, e2_, if_pos rfl, if_pos rfl]
  refine ⟨rfl, ?_⟩
  by_cases y_ : x_ < F_
  · exact Or.inl y_
  · right
    rw [if_neg y_]
/-! M_.keptLiteral -/
def vw_392 : sx_Wl := ([], [], [])
def vq_392 (l_ : Int) (F_ : Int) (N_ : Int) (d_ : Int) (S0_ : sm_S) (u_ : Option sm_V) (S1_ : sm_S) : Prop := S0_ = S1_ ∧ ∃ v_ : Int, u_ = some (.inl v_) ∧ (v_ / 2 = nod d_ S0_ l_ ∧ 0 ≤ v_ ∧ v_ ≤ 2025 ∧ (v_ = i_xor (S0_.2.2.1 166 0 (2048 * d_ + l_ / 2).toNat) (l_ % 2)))
set_option maxHeartbeats 400000 in
set_option maxRecDepth 20000 in
theorem vc_392 {sc_ : Nat × (Nat → Int)} (l_ : Int) (F_ : Int) (N_ : Int) (d_ : Int) (S0_ : sm_S) (hI_ : gi S0_) (hd_ : dmp F_ N_ d_ S0_) (hl_ : 0 ≤ l_ ∧ l_ < 2 * N_) : sm_T (mt_P sc_) 0 392 (0, [some (.inr (.inr (some (13, 0)))), some (.inl l_)], [], S0_) (fun ro9_ => ∃ u_ S1_, ro9_ = (.inl u_, S1_, 0) ∧ vq_392 l_ F_ N_ d_ S0_ u_ S1_) := by
  have hF_ : ai_fr (sx_W vw_392) S0_ S0_ := ai_fr_rf
  have d1_ := hd_.1
  have bx1_ : 0 ≤ S0_.1 13 0 105 ∧ S0_.1 13 0 105 ≤ 5 := hI_.1 13 0 105 rfl
  refine sm_T_go 5 (c1 := (11, [some (.inr (.inr (some (13, 0)))), some (.inl l_)], [.inl (S0_.1 13 0 105), .inl 2048, .inr (.inr (some (166, 0)))], S0_)) rfl ?_
  refine sm_T_bin (w := 2048 * (S0_.1 13 0 105)) rfl (bi_mul (by omega) (by omega) (by omega)) ?_ -- pc_ 11
  refine sm_T_go 2 (c1 := (14, [some (.inr (.inr (some (13, 0)))), some (.inl l_)], [.inl 1, .inl l_, .inl (2048 * (S0_.1 13 0 105)), .inr (.inr (some (166, 0)))], S0_)) rfl ?_
  refine sm_T_bin (w := (l_ / 2)) rfl (bi_shr (k := 1) (by decide) (by omega) (by omega)) ?_ -- pc_ 14
  refine sm_T_bin (w := 2048 * (S0_.1 13 0 105) + (l_ / 2)) rfl (bi_add (by omega) (by omega) (by omega)) ?_ -- pc_ 15
  refine sm_T_iald (n := 12288) rfl rfl (by omega) (by omega) ?_
  have bx2_ : 0 ≤ S0_.2.2.1 166 0 (2048 * (S0_.1 13 0 105) + (l_ / 2)).toNat ∧ S0_.2.2.1 166 0 (2048 * (S0_.1 13 0 105) + (l_ / 2)).toNat ≤ 2025 := hI_.2 166 0 _
  refine sm_T_go 2 (c1 := (19, [some (.inr (.inr (some (13, 0)))), some (.inl l_)], [.inl 1, .inl l_, .inl (S0_.2.2.1 166 0 (2048 * (S0_.1 13 0 105) + (l_ / 2)).toNat)], S0_)) rfl ?_
  refine sm_T_bin (w := (l_ % 2)) rfl (bi_msk (k := 1) (by decide)) ?_ -- pc_ 19
  refine sm_T_bin (w := (i_xor (S0_.2.2.1 166 0 (2048 * (S0_.1 13 0 105) + (l_ / 2)).toNat) (l_ % 2))) rfl rfl ?_ -- pc_ 20
  have bx3_ := swx (x_ := (S0_.2.2.1 166 0 (2048 * (S0_.1 13 0 105) + (l_ / 2)).toNat)) (b_ := (l_ % 2)) (by omega) (by omega)
  refine sm_T_ri rfl ⟨_, _, rfl, rfl, _, rfl, ?_⟩
  have q9_ := (nod_b hd_ hl_.1 hl_.2).2.2.2 (l_ % 2) (by omega)
  have e9_ : (2048 * S0_.1 13 0 105 + l_ / 2).toNat = (2048 * d_ + l_ / 2).toNat := by (rw [hd_.1.2.2.1])
  rw [← e9_] at q9_ ⊢
  exact ⟨q9_, by omega, by omega, rfl⟩
/-! M_.want -/
/-! M_.layGraph -/
end
/-! 99.zs6 -/
section
/-! the reference: cuts; written by wip/p55/gen/vg -/

/-! the_ reference: cuts -/
def ctp (P_ : Int → Prop) (S_ : sm_S) : Prop := ∀ c_ : Int, 0 ≤ c_ → c_ < S_.1 13 0 114 → 1 ≤ S_.2.2.1 204 0 c_.toNat ∧ ∀ k_ : Int, 0 ≤ k_ → k_ < S_.2.2.1 204 0 c_.toNat → P_ (S_.2.2.1 205 0 (3 * c_ + k_).toNat)
def trp (P_ : Int → Prop) (S_ : sm_S) : Prop := ∀ k_ : Int, 0 ≤ k_ → k_ < S_.1 13 0 123 → P_ (S_.2.2.1 212 0 k_.toNat)
theorem ctp_fr {w_ : sx_Wl} {P_ : Int → Prop} {S_ S'_ : sm_S} (h_ : ctp P_ S_) (g_ : ai_fr (sx_W w_) S_ S'_) (h1_ : (sx_W w_).1 13 114 = false := by rfl) (h2_ : (sx_W w_).2.1 204 = false := by rfl) (h3_ : (sx_W w_).2.1 205 = false := by rfl) : ctp P_ S'_ := by
  unfold ctp
  rw [g_.1 13 0 114 h1_, fr_arr g_ h2_, fr_arr g_ h3_]
  exact h_
theorem trp_fr {w_ : sx_Wl} {P_ : Int → Prop} {S_ S'_ : sm_S} (h_ : trp P_ S_) (g_ : ai_fr (sx_W w_) S_ S'_) (h1_ : (sx_W w_).1 13 123 = false := by rfl) (h2_ : (sx_W w_).2.1 212 = false := by rfl) : trp P_ S'_ := by
  unfold trp
  rw [g_.1 13 0 123 h1_, fr_arr g_ h2_]
  exact h_
/-- a_ leaf that may_ stand in a_ cut_ of_ n_ -/
def cnd9 (n_ : Int) (u_ : Nat → Int) (x_ : Int) : Prop := 1 ≤ x_ ∧ x_ < n_ ∧ u_ x_.toNat = 1
def iat (sz_ o_ k_ : Int) : Int := if sz_ < 3 then (if o_ = 0 then k_ else sz_ - 1 - k_) else if k_ = 0 then o_ / 2 else if (k_ = 1 ∧ o_ % 2 = 0) ∨ (k_ ≠ 1 ∧ o_ % 2 ≠ 0) then (if o_ / 2 = 0 then 1 else 0) else (if o_ / 2 = 2 then 1 else 2)
def cst (F_ : Int) (S_ : sm_S) (x_ t_ : Int) : Int := if F_ ≤ x_ ∧ S_.2.2.1 203 0 x_.toNat = 0 then S_.2.2.1 210 0 (2 * x_ + t_).toNat else if t_ = 0 then 0 else S_.1 13 0 108
/-! M_.isInner -/
def vw_395 : sx_Wl := ([], [], [])
def vq_395 (n_ : Int) (F_ : Int) (S0_ : sm_S) (u_ : Option sm_V) (S1_ : sm_S) : Prop := S0_ = S1_ ∧ ∃ v_ : Int, u_ = some (.inl v_) ∧ ((v_ = 1 ∧ F_ ≤ n_ ∧ S0_.2.2.1 203 0 n_.toNat = 0) ∨ (v_ = 0 ∧ (n_ < F_ ∨ S0_.2.2.1 203 0 n_.toNat = 1)))
set_option maxHeartbeats 400000 in
set_option maxRecDepth 20000 in
theorem vc_395 {sc_ : Nat × (Nat → Int)} (n_ : Int) (F_ : Int) (S0_ : sm_S) (hI_ : gi S0_) (hf_ : S0_.2.2.1 160 0 (S0_.1 13 0 105).toNat = F_) (hn_ : 0 ≤ n_ ∧ n_ ≤ 2047) : sm_T (mt_P sc_) 0 395 (0, [some (.inr (.inr (some (13, 0)))), some (.inl n_)], [], S0_) (fun ro9_ => ∃ u_ S1_, ro9_ = (.inl u_, S1_, 0) ∧ vq_395 n_ F_ S0_ u_ S1_) := by
  have hF_ : ai_fr (sx_W vw_395) S0_ S0_ := ai_fr_rf
  have bx1_ : 0 ≤ S0_.1 13 0 105 ∧ S0_.1 13 0 105 ≤ 5 := hI_.1 13 0 105 rfl
  refine sm_T_go 5 (c1 := (9, [some (.inr (.inr (some (13, 0)))), some (.inl n_)], [.inl (S0_.1 13 0 105), .inr (.inr (some (160, 0))), .inl n_], S0_)) rfl ?_
  refine sm_T_iald (n := 6) rfl rfl (by omega) (by omega) ?_
  have bx2_ : 0 ≤ S0_.2.2.1 160 0 (S0_.1 13 0 105).toNat ∧ S0_.2.2.1 160 0 (S0_.1 13 0 105).toNat ≤ 19 := hI_.2 160 0 _
  refine sm_T_br (a := 2) (z := 16) rfl (fun cx3_ => ?_) (fun cx3_ => ?_)
  · have cx3_ : n_ < (S0_.2.2.1 160 0 (S0_.1 13 0 105).toNat) := of_decide_eq_true cx3_
    refine sm_T_go 1 (c1 := (27, [some (.inr (.inr (some (13, 0)))), some (.inl n_)], [.inl 0], S0_)) rfl ?_
    refine sm_T_rz rfl (by omega) ⟨_, _, rfl, rfl, _, rfl, ?_⟩
    omega
  · have cx3_ : ¬ (n_ < (S0_.2.2.1 160 0 (S0_.1 13 0 105).toNat)) := of_decide_eq_false cx3_
    refine sm_T_go 3 (c1 := (18, [some (.inr (.inr (some (13, 0)))), some (.inl n_)], [.inl n_, .inr (.inr (some (203, 0)))], S0_)) rfl ?_
    refine sm_T_zald (n := 2048) rfl rfl (by omega) (by omega) ?_
    have bx4_ : 0 ≤ S0_.2.2.1 203 0 n_.toNat ∧ S0_.2.2.1 203 0 n_.toNat ≤ 1 := hI_.2 203 0 _
    refine sm_T_b0 (a := 1) (z := 7) rfl (fun cx5_ => ?_) (fun cx5_ => ?_)
    · have cx5_ : (S0_.2.2.1 203 0 n_.toNat) ≠ 0 := of_decide_eq_true cx5_
      refine sm_T_go 1 (c1 := (27, [some (.inr (.inr (some (13, 0)))), some (.inl n_)], [.inl 0], S0_)) rfl ?_
      refine sm_T_rz rfl (by omega) ⟨_, _, rfl, rfl, _, rfl, ?_⟩
      omega
    · have cx5_ : ¬ ((S0_.2.2.1 203 0 n_.toNat) ≠ 0) := of_decide_eq_false cx5_
      refine sm_T_go 2 (c1 := (27, [some (.inr (.inr (some (13, 0)))), some (.inl n_)], [.inl 1], S0_)) rfl ?_
      refine sm_T_rz rfl (by omega) ⟨_, _, rfl, rfl, _, rfl, ?_⟩
      omega
/-! M_.put -/
/-! M_.keepCut -/
/-! M_.isCutBefore -/
/-! M_.swapCuts -/
/-! M_.findCuts -/
/-! M_.tableOf -/
/-! M_.functionOver -/
/-! M_.inputAt -/
def vw_403 : sx_Wl := ([], [], [])
def vq_403 (sz_ : Int) (or9_ : Int) (k_ : Int) (S0_ : sm_S) (u_ : Option sm_V) (S1_ : sm_S) : Prop := S0_ = S1_ ∧ ∃ v_ : Int, u_ = some (.inl v_) ∧ (v_ = iat sz_ or9_ k_ ∧ 0 ≤ v_ ∧ v_ < sz_)
set_option maxHeartbeats 400000 in
set_option maxRecDepth 20000 in
theorem vc_403 {sc_ : Nat × (Nat → Int)} (sz_ : Int) (or9_ : Int) (k_ : Int) (S0_ : sm_S) (hI_ : gi S0_) (hs_ : 1 ≤ sz_ ∧ sz_ ≤ 3 ∧ 0 ≤ or9_ ∧ or9_ ≤ 5 ∧ 0 ≤ k_ ∧ k_ < sz_) : sm_T (mt_P sc_) 0 403 (0, [some (.inl sz_), some (.inl or9_), some (.inl k_), none, none, none], [], S0_) (fun ro9_ => ∃ u_ S1_, ro9_ = (.inl u_, S1_, 0) ∧ vq_403 sz_ or9_ k_ S0_ u_ S1_) := by
  have hF_ : ai_fr (sx_W vw_403) S0_ S0_ := ai_fr_rf
  refine sm_T_go 2 (c1 := (2, [some (.inl sz_), some (.inl or9_), some (.inl k_), none, none, none], [.inl 3, .inl sz_], S0_)) rfl ?_
  refine sm_T_br (a := 3) (z := 17) rfl (fun cx1_ => ?_) (fun cx1_ => ?_)
  · have cx1_ : 3 ≤ sz_ := of_decide_eq_true cx1_
    refine sm_T_go 2 (c1 := (21, [some (.inl sz_), some (.inl or9_), some (.inl k_), none, none, none], [.inl 2, .inl or9_], S0_)) rfl ?_
    refine sm_T_bin (w := (or9_ / 2)) rfl (bi_div (by omega) (by omega) (by omega) (by omega)) ?_ -- pc_ 21
    refine sm_T_go 2 (c1 := (24, [some (.inl sz_), some (.inl or9_), some (.inl k_), some (.inl (or9_ / 2)), none, none], [.inl (or9_ / 2)], S0_)) rfl ?_
    refine sm_T_b0 (a := 1) (z := 7) rfl (fun cx2_ => ?_) (fun cx2_ => ?_)
    · have cx2_ : (or9_ / 2) ≠ 0 := of_decide_eq_true cx2_
      refine sm_T_go 4 (c1 := (36, [some (.inl sz_), some (.inl or9_), some (.inl k_), some (.inl (or9_ / 2)), some (.inl 0), none], [.inl 2, .inl (or9_ / 2)], S0_)) rfl ?_
      refine sm_T_br (a := 1) (z := 7) rfl (fun cx3_ => ?_) (fun cx3_ => ?_)
      · have cx3_ : (or9_ / 2) ≠ 2 := of_decide_eq_true cx3_
        refine sm_T_go 3 (c1 := (47, [some (.inl sz_), some (.inl or9_), some (.inl k_), some (.inl (or9_ / 2)), some (.inl 0), some (.inl 2)], [.inl k_], S0_)) rfl ?_
        refine sm_T_b0 (a := 1) (z := 7) rfl (fun cx4_ => ?_) (fun cx4_ => ?_)
        · have cx4_ : k_ ≠ 0 := of_decide_eq_true cx4_
          refine sm_T_go 2 (c1 := (56, [some (.inl sz_), some (.inl or9_), some (.inl k_), some (.inl (or9_ / 2)), some (.inl 0), some (.inl 2)], [.inl 1, .inl k_], S0_)) rfl ?_
          refine sm_T_br (a := 1) (z := 7) rfl (fun cx5_ => ?_) (fun cx5_ => ?_)
          · have cx5_ : k_ ≠ 1 := of_decide_eq_true cx5_
            refine sm_T_go 3 (c1 := (66, [some (.inl sz_), some (.inl or9_), some (.inl k_), some (.inl (or9_ / 2)), some (.inl 0), some (.inl 2)], [.inl 2, .inl or9_, .inl 0], S0_)) rfl ?_
            refine sm_T_bin (w := (or9_ % 2)) rfl (bi_rem (by omega) (by omega) (by omega) (by omega)) ?_ -- pc_ 66
            refine sm_T_b0 (a := 1) (z := 7) rfl (fun cx6_ => ?_) (fun cx6_ => ?_)
            · have cx6_ : (or9_ % 2) ≠ 0 := of_decide_eq_true cx6_
              refine sm_T_go 4 (c1 := (85, [some (.inl sz_), some (.inl or9_), some (.inl k_), some (.inl (or9_ / 2)), some (.inl 0), some (.inl 2)], [.inl 0], S0_)) rfl ?_
              refine sm_T_ri rfl ⟨_, _, rfl, rfl, _, rfl, ?_⟩
              refine ⟨?_, by omega, by omega⟩
              unfold iat
              first | (rw [if_pos (by omega)]; first | rw [if_pos (by omega)] | (rw [if_neg (by omega)]; omega)) | (rw [if_neg (by omega)]; first | rw [if_pos (by omega)] | (rw [if_neg (by omega)]; first | (rw [if_pos (by omega)]; first | rw [if_pos (by omega)] | rw [if_neg (by omega)]) | (rw [if_neg (by omega)]; first | rw [if_pos (by omega)] | rw [if_neg (by omega)])))
            · have cx6_ : ¬ ((or9_ % 2) ≠ 0) := of_decide_eq_false cx6_
              refine sm_T_go 4 (c1 := (85, [some (.inl sz_), some (.inl or9_), some (.inl k_), some (.inl (or9_ / 2)), some (.inl 0), some (.inl 2)], [.inl 2], S0_)) rfl ?_
              refine sm_T_ri rfl ⟨_, _, rfl, rfl, _, rfl, ?_⟩
              refine ⟨?_, by omega, by omega⟩
              unfold iat
              first | (rw [if_pos (by omega)]; first | rw [if_pos (by omega)] | (rw [if_neg (by omega)]; omega)) | (rw [if_neg (by omega)]; first | rw [if_pos (by omega)] | (rw [if_neg (by omega)]; first | (rw [if_pos (by omega)]; first | rw [if_pos (by omega)] | rw [if_neg (by omega)]) | (rw [if_neg (by omega)]; first | rw [if_pos (by omega)] | rw [if_neg (by omega)])))
          · have cx5_ : ¬ (k_ ≠ 1) := of_decide_eq_false cx5_
            refine sm_T_go 4 (c1 := (66, [some (.inl sz_), some (.inl or9_), some (.inl k_), some (.inl (or9_ / 2)), some (.inl 0), some (.inl 2)], [.inl 2, .inl or9_, .inl 1], S0_)) rfl ?_
            refine sm_T_bin (w := (or9_ % 2)) rfl (bi_rem (by omega) (by omega) (by omega) (by omega)) ?_ -- pc_ 66
            refine sm_T_b0 (a := 1) (z := 7) rfl (fun cx7_ => ?_) (fun cx7_ => ?_)
            · have cx7_ : (or9_ % 2) ≠ 0 := of_decide_eq_true cx7_
              refine sm_T_go 3 (c1 := (85, [some (.inl sz_), some (.inl or9_), some (.inl k_), some (.inl (or9_ / 2)), some (.inl 0), some (.inl 2)], [.inl 2], S0_)) rfl ?_
              refine sm_T_ri rfl ⟨_, _, rfl, rfl, _, rfl, ?_⟩
              refine ⟨?_, by omega, by omega⟩
              unfold iat
              first | (rw [if_pos (by omega)]; first | rw [if_pos (by omega)] | (rw [if_neg (by omega)]; omega)) | (rw [if_neg (by omega)]; first | rw [if_pos (by omega)] | (rw [if_neg (by omega)]; first | (rw [if_pos (by omega)]; first | rw [if_pos (by omega)] | rw [if_neg (by omega)]) | (rw [if_neg (by omega)]; first | rw [if_pos (by omega)] | rw [if_neg (by omega)])))
            · have cx7_ : ¬ ((or9_ % 2) ≠ 0) := of_decide_eq_false cx7_
              refine sm_T_go 5 (c1 := (85, [some (.inl sz_), some (.inl or9_), some (.inl k_), some (.inl (or9_ / 2)), some (.inl 0), some (.inl 2)], [.inl 0], S0_)) rfl ?_
              refine sm_T_ri rfl ⟨_, _, rfl, rfl, _, rfl, ?_⟩
              refine ⟨?_, by omega, by omega⟩
              unfold iat
              first | (rw [if_pos (by omega)]; first | rw [if_pos (by omega)] | (rw [if_neg (by omega)]; omega)) | (rw [if_neg (by omega)]; first | rw [if_pos (by omega)] | (rw [if_neg (by omega)]; first | (rw [if_pos (by omega)]; first | rw [if_pos (by omega)] | rw [if_neg (by omega)]) | (rw [if_neg (by omega)]; first | rw [if_pos (by omega)] | rw [if_neg (by omega)])))
        · have cx4_ : ¬ (k_ ≠ 0) := of_decide_eq_false cx4_
          refine sm_T_go 2 (c1 := (85, [some (.inl sz_), some (.inl or9_), some (.inl k_), some (.inl (or9_ / 2)), some (.inl 0), some (.inl 2)], [.inl (or9_ / 2)], S0_)) rfl ?_
          refine sm_T_ri rfl ⟨_, _, rfl, rfl, _, rfl, ?_⟩
          refine ⟨?_, by omega, by omega⟩
          unfold iat
          first | (rw [if_pos (by omega)]; first | rw [if_pos (by omega)] | (rw [if_neg (by omega)]; omega)) | (rw [if_neg (by omega)]; first | rw [if_pos (by omega)] | (rw [if_neg (by omega)]; first | (rw [if_pos (by omega)]; first | rw [if_pos (by omega)] | rw [if_neg (by omega)]) | (rw [if_neg (by omega)]; first | rw [if_pos (by omega)] | rw [if_neg (by omega)])))
      · have cx3_ : ¬ ((or9_ / 2) ≠ 2) := of_decide_eq_false cx3_
        refine sm_T_go 4 (c1 := (47, [some (.inl sz_), some (.inl or9_), some (.inl k_), some (.inl (or9_ / 2)), some (.inl 0), some (.inl 1)], [.inl k_], S0_)) rfl ?_
        refine sm_T_b0 (a := 1) (z := 7) rfl (fun cx8_ => ?_) (fun cx8_ => ?_)
        · have cx8_ : k_ ≠ 0 := of_decide_eq_true cx8_
          refine sm_T_go 2 (c1 := (56, [some (.inl sz_), some (.inl or9_), some (.inl k_), some (.inl (or9_ / 2)), some (.inl 0), some (.inl 1)], [.inl 1, .inl k_], S0_)) rfl ?_
          refine sm_T_br (a := 1) (z := 7) rfl (fun cx9_ => ?_) (fun cx9_ => ?_)
          · have cx9_ : k_ ≠ 1 := of_decide_eq_true cx9_
            refine sm_T_go 3 (c1 := (66, [some (.inl sz_), some (.inl or9_), some (.inl k_), some (.inl (or9_ / 2)), some (.inl 0), some (.inl 1)], [.inl 2, .inl or9_, .inl 0], S0_)) rfl ?_
            refine sm_T_bin (w := (or9_ % 2)) rfl (bi_rem (by omega) (by omega) (by omega) (by omega)) ?_ -- pc_ 66
            refine sm_T_b0 (a := 1) (z := 7) rfl (fun cx10_ => ?_) (fun cx10_ => ?_)
            · have cx10_ : (or9_ % 2) ≠ 0 := of_decide_eq_true cx10_
              refine sm_T_go 4 (c1 := (85, [some (.inl sz_), some (.inl or9_), some (.inl k_), some (.inl (or9_ / 2)), some (.inl 0), some (.inl 1)], [.inl 0], S0_)) rfl ?_
              refine sm_T_ri rfl ⟨_, _, rfl, rfl, _, rfl, ?_⟩
              refine ⟨?_, by omega, by omega⟩
              unfold iat
              first | (rw [if_pos (by omega)]; first | rw [if_pos (by omega)] | (rw [if_neg (by omega)]; omega)) | (rw [if_neg (by omega)]; first | rw [if_pos (by omega)] | (rw [if_neg (by omega)]; first | (rw [if_pos (by omega)]; first | rw [if_pos (by omega)] | rw [if_neg (by omega)]) | (rw [if_neg (by omega)]; first | rw [if_pos (by omega)] | rw [if_neg (by omega)])))
            · have cx10_ : ¬ ((or9_ % 2) ≠ 0) := of_decide_eq_false cx10_
              refine sm_T_go 4 (c1 := (85, [some (.inl sz_), some (.inl or9_), some (.inl k_), some (.inl (or9_ / 2)), some (.inl 0), some (.inl 1)], [.inl 1], S0_)) rfl ?_
              refine sm_T_ri rfl ⟨_, _, rfl, rfl, _, rfl, ?_⟩
              refine ⟨?_, by omega, by omega⟩
              unfold iat
              first | (rw [if_pos (by omega)]; first | rw [if_pos (by omega)] | (rw [if_neg (by omega)]; omega)) | (rw [if_neg (by omega)]; first | rw [if_pos (by omega)] | (rw [if_neg (by omega)]; first | (rw [if_pos (by omega)]; first | rw [if_pos (by omega)] | rw [if_neg (by omega)]) | (rw [if_neg (by omega)]; first | rw [if_pos (by omega)] | rw [if_neg (by omega)])))
          · have cx9_ : ¬ (k_ ≠ 1) := of_decide_eq_false cx9_
            refine sm_T_go 4 (c1 := (66, [some (.inl sz_), some (.inl or9_), some (.inl k_), some (.inl (or9_ / 2)), some (.inl 0), some (.inl 1)], [.inl 2, .inl or9_, .inl 1], S0_)) rfl ?_
            refine sm_T_bin (w := (or9_ % 2)) rfl (bi_rem (by omega) (by omega) (by omega) (by omega)) ?_ -- pc_ 66
            refine sm_T_b0 (a := 1) (z := 7) rfl (fun cx11_ => ?_) (fun cx11_ => ?_)
            · have cx11_ : (or9_ % 2) ≠ 0 := of_decide_eq_true cx11_
              refine sm_T_go 3 (c1 := (85, [some (.inl sz_), some (.inl or9_), some (.inl k_), some (.inl (or9_ / 2)), some (.inl 0), some (.inl 1)], [.inl 1], S0_)) rfl ?_
              refine sm_T_ri rfl ⟨_, _, rfl, rfl, _, rfl, ?_⟩
              refine ⟨?_, by omega, by omega⟩
              unfold iat
              first | (rw [if_pos (by omega)]; first | rw [if_pos (by omega)] | (rw [if_neg (by omega)]; omega)) | (rw [if_neg (by omega)]; first | rw [if_pos (by omega)] | (rw [if_neg (by omega)]; first | (rw [if_pos (by omega)]; first | rw [if_pos (by omega)] | rw [if_neg (by omega)]) | (rw [if_neg (by omega)]; first | rw [if_pos (by omega)] | rw [if_neg (by omega)])))
            · have cx11_ : ¬ ((or9_ % 2) ≠ 0) := of_decide_eq_false cx11_
              refine sm_T_go 5 (c1 := (85, [some (.inl sz_), some (.inl or9_), some (.inl k_), some (.inl (or9_ / 2)), some (.inl 0), some (.inl 1)], [.inl 0], S0_)) rfl ?_
              refine sm_T_ri rfl ⟨_, _, rfl, rfl, _, rfl, ?_⟩
              refine ⟨?_, by omega, by omega⟩
              unfold iat
              first | (rw [if_pos (by omega)]; first | rw [if_pos (by omega)] | (rw [if_neg (by omega)]; omega)) | (rw [if_neg (by omega)]; first | rw [if_pos (by omega)] | (rw [if_neg (by omega)]; first | (rw [if_pos (by omega)]; first | rw [if_pos (by omega)] | rw [if_neg (by omega)]) | (rw [if_neg (by omega)]; first | rw [if_pos (by omega)] | rw [if_neg (by omega)])))
        · have cx8_ : ¬ (k_ ≠ 0) := of_decide_eq_false cx8_
          refine sm_T_go 2 (c1 := (85, [some (.inl sz_), some (.inl or9_), some (.inl k_), some (.inl (or9_ / 2)), some (.inl 0), some (.inl 1)], [.inl (or9_ / 2)], S0_)) rfl ?_
          refine sm_T_ri rfl ⟨_, _, rfl, rfl, _, rfl, ?_⟩
          refine ⟨?_, by omega, by omega⟩
          unfold iat
          first | (rw [if_pos (by omega)]; first | rw [if_pos (by omega)] | (rw [if_neg (by omega)]; omega)) | (rw [if_neg (by omega)]; first | rw [if_pos (by omega)] | (rw [if_neg (by omega)]; first | (rw [if_pos (by omega)]; first | rw [if_pos (by omega)] | rw [if_neg (by omega)]) | (rw [if_neg (by omega)]; first | rw [if_pos (by omega)] | rw [if_neg (by omega)])))
    · have cx2_ : ¬ ((or9_ / 2) ≠ 0) := of_decide_eq_false cx2_
      refine sm_T_go 5 (c1 := (36, [some (.inl sz_), some (.inl or9_), some (.inl k_), some (.inl (or9_ / 2)), some (.inl 1), none], [.inl 2, .inl (or9_ / 2)], S0_)) rfl ?_
      refine sm_T_br (a := 1) (z := 7) rfl (fun cx12_ => ?_) (fun cx12_ => ?_)
      · have cx12_ : (or9_ / 2) ≠ 2 := of_decide_eq_true cx12_
        refine sm_T_go 3 (c1 := (47, [some (.inl sz_), some (.inl or9_), some (.inl k_), some (.inl (or9_ / 2)), some (.inl 1), some (.inl 2)], [.inl k_], S0_)) rfl ?_
        refine sm_T_b0 (a := 1) (z := 7) rfl (fun cx13_ => ?_) (fun cx13_ => ?_)
        · have cx13_ : k_ ≠ 0 := of_decide_eq_true cx13_
          refine sm_T_go 2 (c1 := (56, [some (.inl sz_), some (.inl or9_), some (.inl k_), some (.inl (or9_ / 2)), some (.inl 1), some (.inl 2)], [.inl 1, .inl k_], S0_)) rfl ?_
          refine sm_T_br (a := 1) (z := 7) rfl (fun cx14_ => ?_) (fun cx14_ => ?_)
          · have cx14_ : k_ ≠ 1 := of_decide_eq_true cx14_
            refine sm_T_go 3 (c1 := (66, [some (.inl sz_), some (.inl or9_), some (.inl k_), some (.inl (or9_ / 2)), some (.inl 1), some (.inl 2)], [.inl 2, .inl or9_, .inl 0], S0_)) rfl ?_
            refine sm_T_bin (w := (or9_ % 2)) rfl (bi_rem (by omega) (by omega) (by omega) (by omega)) ?_ -- pc_ 66
            refine sm_T_b0 (a := 1) (z := 7) rfl (fun cx15_ => ?_) (fun cx15_ => ?_)
            · have cx15_ : (or9_ % 2) ≠ 0 := of_decide_eq_true cx15_
              refine sm_T_go 4 (c1 := (85, [some (.inl sz_), some (.inl or9_), some (.inl k_), some (.inl (or9_ / 2)), some (.inl 1), some (.inl 2)], [.inl 1], S0_)) rfl ?_
              refine sm_T_ri rfl ⟨_, _, rfl, rfl, _, rfl, ?_⟩
              refine ⟨?_, by omega, by omega⟩
              unfold iat
              first | (rw [if_pos (by omega)]; first | rw [if_pos (by omega)] | (rw [if_neg (by omega)]; omega)) | (rw [if_neg (by omega)]; first | rw [if_pos (by omega)] | (rw [if_neg (by omega)]; first | (rw [if_pos (by omega)]; first | rw [if_pos (by omega)] | rw [if_neg (by omega)]) | (rw [if_neg (by omega)]; first | rw [if_pos (by omega)] | rw [if_neg (by omega)])))
            · have cx15_ : ¬ ((or9_ % 2) ≠ 0) := of_decide_eq_false cx15_
              refine sm_T_go 4 (c1 := (85, [some (.inl sz_), some (.inl or9_), some (.inl k_), some (.inl (or9_ / 2)), some (.inl 1), some (.inl 2)], [.inl 2], S0_)) rfl ?_
              refine sm_T_ri rfl ⟨_, _, rfl, rfl, _, rfl, ?_⟩
              refine ⟨?_, by omega, by omega⟩
              unfold iat
              first | (rw [if_pos (by omega)]; first | rw [if_pos (by omega)] | (rw [if_neg (by omega)]; omega)) | (rw [if_neg (by omega)]; first | rw [if_pos (by omega)] | (rw [if_neg (by omega)]; first | (rw [if_pos (by omega)]; first | rw [if_pos (by omega)] | rw [if_neg (by omega)]) | (rw [if_neg (by omega)]; first | rw [if_pos (by omega)] | rw [if_neg (by omega)])))
          · have cx14_ : ¬ (k_ ≠ 1) := of_decide_eq_false cx14_
            refine sm_T_go 4 (c1 := (66, [some (.inl sz_), some (.inl or9_), some (.inl k_), some (.inl (or9_ / 2)), some (.inl 1), some (.inl 2)], [.inl 2, .inl or9_, .inl 1], S0_)) rfl ?_
            refine sm_T_bin (w := (or9_ % 2)) rfl (bi_rem (by omega) (by omega) (by omega) (by omega)) ?_ -- pc_ 66
            refine sm_T_b0 (a := 1) (z := 7) rfl (fun cx16_ => ?_) (fun cx16_ => ?_)
            · have cx16_ : (or9_ % 2) ≠ 0 := of_decide_eq_true cx16_
              refine sm_T_go 3 (c1 := (85, [some (.inl sz_), some (.inl or9_), some (.inl k_), some (.inl (or9_ / 2)), some (.inl 1), some (.inl 2)], [.inl 2], S0_)) rfl ?_
              refine sm_T_ri rfl ⟨_, _, rfl, rfl, _, rfl, ?_⟩
              refine ⟨?_, by omega, by omega⟩
              unfold iat
              first | (rw [if_pos (by omega)]; first | rw [if_pos (by omega)] | (rw [if_neg (by omega)]; omega)) | (rw [if_neg (by omega)]; first | rw [if_pos (by omega)] | (rw [if_neg (by omega)]; first | (rw [if_pos (by omega)]; first | rw [if_pos (by omega)] | rw [if_neg (by omega)]) | (rw [if_neg (by omega)]; first | rw [if_pos (by omega)] | rw [if_neg (by omega)])))
            · have cx16_ : ¬ ((or9_ % 2) ≠ 0) := of_decide_eq_false cx16_
              refine sm_T_go 5 (c1 := (85, [some (.inl sz_), some (.inl or9_), some (.inl k_), some (.inl (or9_ / 2)), some (.inl 1), some (.inl 2)], [.inl 1], S0_)) rfl ?_
              refine sm_T_ri rfl ⟨_, _, rfl, rfl, _, rfl, ?_⟩
              refine ⟨?_, by omega, by omega⟩
              unfold iat
              first | (rw [if_pos (by omega)]; first | rw [if_pos (by omega)] | (rw [if_neg (by omega)]; omega)) | (rw [if_neg (by omega)]; first | rw [if_pos (by omega)] | (rw [if_neg (by omega)]; first | (rw [if_pos (by omega)]; first | rw [if_pos (by omega)] | rw [if_neg (by omega)]) | (rw [if_neg (by omega)]; first | rw [if_pos (by omega)] | rw [if_neg (by omega)])))
        · have cx13_ : ¬ (k_ ≠ 0) := of_decide_eq_false cx13_
          refine sm_T_go 2 (c1 := (85, [some (.inl sz_), some (.inl or9_), some (.inl k_), some (.inl (or9_ / 2)), some (.inl 1), some (.inl 2)], [.inl (or9_ / 2)], S0_)) rfl ?_
          refine sm_T_ri rfl ⟨_, _, rfl, rfl, _, rfl, ?_⟩
          refine ⟨?_, by omega, by omega⟩
          unfold iat
          first | (rw [if_pos (by omega)]; first | rw [if_pos (by omega)] | (rw [if_neg (by omega)]; omega)) | (rw [if_neg (by omega)]; first | rw [if_pos (by omega)] | (rw [if_neg (by omega)]; first | (rw [if_pos (by omega)]; first | rw [if_pos (by omega)] | rw [if_neg (by omega)]) | (rw [if_neg (by omega)]; first | rw [if_pos (by omega)] | rw [if_neg (by omega)])))
      · have cx12_ : ¬ ((or9_ / 2) ≠ 2) := of_decide_eq_false cx12_
        exfalso; omega
  · have cx1_ : ¬ (3 ≤ sz_) := of_decide_eq_false cx1_
    refine sm_T_go 1 (c1 := (6, [some (.inl sz_), some (.inl or9_), some (.inl k_), none, none, none], [.inl or9_], S0_)) rfl ?_
    refine sm_T_b0 (a := 1) (z := 7) rfl (fun cx17_ => ?_) (fun cx17_ => ?_)
    · have cx17_ : or9_ ≠ 0 := of_decide_eq_true cx17_
      refine sm_T_go 2 (c1 := (15, [some (.inl sz_), some (.inl or9_), some (.inl k_), none, none, none], [.inl 1, .inl sz_], S0_)) rfl ?_
      refine sm_T_bin (w := sz_ - 1) rfl (bi_sub (by omega) (by omega) (by omega)) ?_ -- pc_ 15
      refine sm_T_go 1 (c1 := (17, [some (.inl sz_), some (.inl or9_), some (.inl k_), none, none, none], [.inl k_, .inl (sz_ - 1)], S0_)) rfl ?_
      refine sm_T_bin (w := sz_ - k_ - 1) rfl (bi_sub (by omega) (by omega) (by omega)) ?_ -- pc_ 17
      refine sm_T_ri rfl ⟨_, _, rfl, rfl, _, rfl, ?_⟩
      refine ⟨?_, by omega, by omega⟩
      unfold iat
      first | (rw [if_pos (by omega)]; first | rw [if_pos (by omega)] | (rw [if_neg (by omega)]; omega)) | (rw [if_neg (by omega)]; first | rw [if_pos (by omega)] | (rw [if_neg (by omega)]; first | (rw [if_pos (by omega)]; first | rw [if_pos (by omega)] | rw [if_neg (by omega)]) | (rw [if_neg (by omega)]; first | rw [if_pos (by omega)] | rw [if_neg (by omega)])))
    · have cx17_ : ¬ (or9_ ≠ 0) := of_decide_eq_false cx17_
      refine sm_T_go 2 (c1 := (18, [some (.inl sz_), some (.inl or9_), some (.inl k_), none, none, none], [.inl k_], S0_)) rfl ?_
      refine sm_T_ri rfl ⟨_, _, rfl, rfl, _, rfl, ?_⟩
      refine ⟨?_, by omega, by omega⟩
      unfold iat
      first | (rw [if_pos (by omega)]; first | rw [if_pos (by omega)] | (rw [if_neg (by omega)]; omega)) | (rw [if_neg (by omega)]; first | rw [if_pos (by omega)] | (rw [if_neg (by omega)]; first | (rw [if_pos (by omega)]; first | rw [if_pos (by omega)] | rw [if_neg (by omega)]) | (rw [if_neg (by omega)]; first | rw [if_pos (by omega)] | rw [if_neg (by omega)])))
end
/-! 99.zs7 -/
section
/-! the reference: ways; written by wip/p55/gen/vg -/

/-! the_ reference: ways of_ making a_ literal -/
theorem l_0_s {x_ y_ : Int} (hx_ : -1000000000000 ≤ x_ ∧ x_ ≤ 1000000000000) (hy_ : -2147483648 ≤ y_ ∧ y_ ≤ 2147483647) : l_0 x_ (l_i2l y_) = x_ + y_ := by
  rw [l_i2l_s hy_.1 hy_.2]
  unfold l_0
  rw [Int64.toInt_add, Int64.toInt_ofInt_of_le (by omega) (by omega), Int64.toInt_ofInt_of_le (by omega) (by omega)]
  exact Int.bmod_eq_of_le (by omega) (by omega)
theorem l2i_s {x_ : Int} (h_ : -2147483648 ≤ x_ ∧ x_ ≤ 2147483647) : l_l2i x_ = x_ := by
  unfold l_l2i
  rw [Int64.toInt_toInt32, Int64.toInt_ofInt_of_le (by omega) (by omega)]
  exact Int.bmod_eq_of_le (by omega) (by omega)
theorem lcmp_lt {x_ y_ : Int} : sm_lcmp x_ y_ < 0 ↔ x_ < y_ := by
  unfold sm_lcmp
  split
  · rename_i h_
    exact ⟨fun z_ => absurd z_ (by decide), fun z_ => by omega⟩
  · split
    · rename_i h_
      exact ⟨fun z_ => absurd z_ (by decide), fun z_ => by omega⟩
    · exact ⟨fun _ => by omega, fun _ => by decide⟩
theorem iat_b {sz_ o_ k_ : Int} (hs_ : 1 ≤ sz_ ∧ sz_ ≤ 3) (ho_ : 0 ≤ o_ ∧ o_ ≤ 5) (hk_ : 0 ≤ k_ ∧ k_ < sz_) : 0 ≤ iat sz_ o_ k_ ∧ iat sz_ o_ k_ < sz_ := by
  unfold iat
  split
  · split <;> omega
  · split
    · omega
    · split
      · split <;> omega
      · split <;> omega
def inp (F_ n_ : Int) (S_ : sm_S) (x_ t_ : Int) : Prop := cnd9 n_ (S_.2.2.1 202 0) x_ ∧ cst F_ S_ x_ t_ < 1000000000
/-- the_ way_ of_ a_ literal can_ be_ gone -/
def wyc (F_ n_ : Int) (S_ : sm_S) (w_ : Int) : Prop := imq (S_.2.2.1 206 0 w_.toNat < 1000000000) (0 ≤ S_.2.2.1 207 0 w_.toNat ∧ 1 ≤ S_.2.2.1 185 0 (12 * S_.1 13 0 106 + S_.2.2.1 207 0 w_.toNat).toNat ∧ ∀ k_ : Int, 0 ≤ k_ → k_ < S_.2.2.1 185 0 (12 * S_.1 13 0 106 + S_.2.2.1 207 0 w_.toNat).toNat → inp F_ n_ S_ (S_.2.2.1 208 0 (3 * w_ + k_).toNat) (i_shr (S_.2.2.1 209 0 w_.toNat) k_ % 2))
/-- only the_ way_ of_ one_ literal changes -/
def wfr (w_ : Int) (S_ S'_ : sm_S) : Prop := (∀ j_, j_ ≠ w_.toNat → S'_.2.2.1 206 0 j_ = S_.2.2.1 206 0 j_ ∧ S'_.2.2.1 207 0 j_ = S_.2.2.1 207 0 j_ ∧ S'_.2.2.1 209 0 j_ = S_.2.2.1 209 0 j_) ∧ ∀ j_, (j_ < 3 * w_.toNat ∨ 3 * w_.toNat + 3 ≤ j_) → S'_.2.2.1 208 0 j_ = S_.2.2.1 208 0 j_
def wf2 (n_ : Int) (S_ S'_ : sm_S) : Prop := (∀ j_, (j_ < 2 * n_.toNat ∨ 2 * n_.toNat + 2 ≤ j_) → S'_.2.2.1 206 0 j_ = S_.2.2.1 206 0 j_ ∧ S'_.2.2.1 207 0 j_ = S_.2.2.1 207 0 j_ ∧ S'_.2.2.1 209 0 j_ = S_.2.2.1 209 0 j_) ∧ ∀ j_, (j_ < 6 * n_.toNat ∨ 6 * n_.toNat + 6 ≤ j_) → S'_.2.2.1 208 0 j_ = S_.2.2.1 208 0 j_
theorem wf2_rf {n_ : Int} {S_ : sm_S} : wf2 n_ S_ S_ := ⟨fun _ _ => ⟨rfl, rfl, rfl⟩, fun _ _ => rfl⟩
theorem wf2_tr {n_ : Int} {S_ S'_ S2_ : sm_S} (h_ : wf2 n_ S_ S'_) (g_ : wf2 n_ S'_ S2_) : wf2 n_ S_ S2_ := ⟨fun j_ hj_ => ⟨(g_.1 j_ hj_).1.trans (h_.1 j_ hj_).1, (g_.1 j_ hj_).2.1.trans (h_.1 j_ hj_).2.1, (g_.1 j_ hj_).2.2.trans (h_.1 j_ hj_).2.2⟩, fun j_ hj_ => (g_.2 j_ hj_).trans (h_.2 j_ hj_)⟩
theorem wf2_fr {w_ : sx_Wl} {n_ : Int} {S_ S'_ : sm_S} (g_ : ai_fr (sx_W w_) S_ S'_) (h1_ : (sx_W w_).2.1 206 = false := by rfl) (h2_ : (sx_W w_).2.1 207 = false := by rfl) (h3_ : (sx_W w_).2.1 208 = false := by rfl) (h4_ : (sx_W w_).2.1 209 = false := by rfl) : wf2 n_ S_ S'_ := ⟨fun j_ _ => ⟨congrFun (fr_arr g_ h1_) j_, congrFun (fr_arr g_ h2_) j_, congrFun (fr_arr g_ h4_) j_⟩, fun j_ _ => congrFun (fr_arr g_ h3_) j_⟩
theorem wf2_w {n_ w_ : Int} {S_ S'_ : sm_S} (h_ : wfr w_ S_ S'_) (hn_ : 0 ≤ n_) (hw_ : w_ = 2 * n_ ∨ w_ = 2 * n_ + 1) : wf2 n_ S_ S'_ := ⟨fun j_ hj_ => h_.1 j_ (by omega), fun j_ hj_ => h_.2 j_ (by omega)⟩
/-- a_ way_ stays, where its_ rows and what it_ stands on_ stay -/
theorem wyc_cg {F_ n_ w_ : Int} {S_ S'_ : sm_S} (hI_ : gi S'_) (h_ : wyc F_ n_ S_ w_) (hw_ : 0 ≤ w_) (e6_ : S'_.2.2.1 206 0 w_.toNat = S_.2.2.1 206 0 w_.toNat) (e7_ : S'_.2.2.1 207 0 w_.toNat = S_.2.2.1 207 0 w_.toNat) (e9_ : S'_.2.2.1 209 0 w_.toNat = S_.2.2.1 209 0 w_.toNat) (e8_ : ∀ k_ : Int, 0 ≤ k_ → k_ < 3 → S'_.2.2.1 208 0 (3 * w_ + k_).toNat = S_.2.2.1 208 0 (3 * w_ + k_).toNat) (e5_ : S'_.2.2.1 185 0 = S_.2.2.1 185 0) (e106_ : S'_.1 13 0 106 = S_.1 13 0 106) (e2_ : S'_.2.2.1 202 0 = S_.2.2.1 202 0) (ec : ∀ x_ t_ : Int, 1 ≤ x_ → x_ < n_ → 0 ≤ t_ → t_ ≤ 1 → cst F_ S'_ x_ t_ = cst F_ S_ x_ t_) : wyc F_ n_ S'_ w_ := by
  unfold wyc
  rw [e6_, e7_, e9_, e5_, e106_]
  intro p_
  have q_ := h_ p_
  refine ⟨q_.1, q_.2.1, fun k_ k0_ k1_ => ?_⟩
  have b_ : S'_.2.2.1 185 0 (12 * S_.1 13 0 106 + S_.2.2.1 207 0 w_.toNat).toNat ≤ 3 := (hI_.2 185 0 _).2
  rw [e5_] at b_
  have z_ := q_.2.2 k_ k0_ k1_
  rw [e8_ k_ k0_ (by omega)]
  refine ⟨by rw [e2_]; exact z_.1, ?_⟩
  rw [ec _ _ z_.1.1 z_.1.2.1 (by omega) (by omega)]
  exact z_.2
theorem cst_fr {w_ : sx_Wl} {F_ : Int} {S_ S'_ : sm_S} (g_ : ai_fr (sx_W w_) S_ S'_) (h1_ : (sx_W w_).2.1 203 = false := by rfl) (h2_ : (sx_W w_).2.1 210 = false := by rfl) (h3_ : (sx_W w_).1 13 108 = false := by rfl) : cst F_ S'_ = cst F_ S_ := by
  funext x_ t_
  unfold cst
  rw [fr_arr g_ h1_, fr_arr g_ h2_, g_.1 13 0 108 h3_]
theorem wyc_fr {w_ : sx_Wl} {F_ n_ l_ : Int} {S_ S'_ : sm_S} (hI_ : gi S'_) (h_ : wyc F_ n_ S_ l_) (hl_ : 0 ≤ l_) (g_ : ai_fr (sx_W w_) S_ S'_) (f_ : (sx_W w_).2.1 206 = false := by rfl) (f7_ : (sx_W w_).2.1 207 = false := by rfl) (f8 : (sx_W w_).2.1 208 = false := by rfl) (f9_ : (sx_W w_).2.1 209 = false := by rfl) (f5_ : (sx_W w_).2.1 185 = false := by rfl) (f1_ : (sx_W w_).1 13 106 = false := by rfl) (f2_ : (sx_W w_).2.1 202 = false := by rfl) (h1_ : (sx_W w_).2.1 203 = false := by rfl) (h2_ : (sx_W w_).2.1 210 = false := by rfl) (h3_ : (sx_W w_).1 13 108 = false := by rfl) : wyc F_ n_ S'_ l_ :=
  wyc_cg hI_ h_ hl_ (congrFun (fr_arr g_ f_) _) (congrFun (fr_arr g_ f7_) _) (congrFun (fr_arr g_ f9_) _) (fun k_ _ _ => congrFun (fr_arr g_ f8) _) (fr_arr g_ f5_) (g_.1 13 0 106 f1_) (fr_arr g_ f2_) (fun x_ t_ _ _ _ _ => by rw [cst_fr g_ h1_ h2_ h3_])
/-! M_.cellOver -/
/-! M_.costOf -/
def vw_404 : sx_Wl := ([], [], [])
def vq_404 (x_ : Int) (t_ : Int) (F_ : Int) (S0_ : sm_S) (u_ : Option sm_V) (S1_ : sm_S) : Prop := S0_ = S1_ ∧ ∃ v_ : Int, u_ = some (.inl v_) ∧ (v_ = cst F_ S0_ x_ t_ ∧ 0 ≤ v_ ∧ v_ ≤ 1000000000)
set_option maxHeartbeats 400000 in
set_option maxRecDepth 20000 in
theorem vc_404 {sc_ : Nat × (Nat → Int)} (x_ : Int) (t_ : Int) (F_ : Int) (S0_ : sm_S) (hI_ : gi S0_) (hf_ : S0_.2.2.1 160 0 (S0_.1 13 0 105).toNat = F_) (hx_ : 0 ≤ x_ ∧ x_ ≤ 1012 ∧ 0 ≤ t_ ∧ t_ ≤ 1) : sm_T (mt_P sc_) 1 404 (0, [some (.inr (.inr (some (13, 0)))), some (.inl x_), some (.inl t_)], [], S0_) (fun ro9_ => ∃ u_ S1_, ro9_ = (.inl u_, S1_, 0) ∧ vq_404 x_ t_ F_ S0_ u_ S1_) := by
  have hF_ : ai_fr (sx_W vw_404) S0_ S0_ := ai_fr_rf
  refine sm_T_go 2 (c1 := (2, [some (.inr (.inr (some (13, 0)))), some (.inl x_), some (.inl t_)], [.inl x_, .inr (.inr (some (13, 0)))], S0_)) rfl ?_
  refine sm_T_cal (d1 := 0) (Q1 := vq_395 x_ F_ S0_) rfl rfl (by decide) (vc_395 x_ F_ S0_ hI_ (by exact hf_) (by omega)) (fun u_ Sx1_ px4_ => ?_)
  obtain ⟨rfl, vx6_, rfl, px4_⟩ := px4_
  have e2_ := px4_
  refine sm_T_b0 (a := 0) (z := 16) rfl (fun cx7_ => ?_) (fun cx7_ => ?_)
  · have cx7_ : vx6_ = 0 := of_decide_eq_true cx7_
    refine sm_T_go 1 (c1 := (22, [some (.inr (.inr (some (13, 0)))), some (.inl x_), some (.inl t_)], [.inl t_], S0_)) rfl ?_
    refine sm_T_b0 (a := 1) (z := 7) rfl (fun cx8_ => ?_) (fun cx8_ => ?_)
    · have cx8_ : t_ ≠ 0 := of_decide_eq_true cx8_
      have bx9_ : 0 ≤ S0_.1 13 0 108 ∧ S0_.1 13 0 108 ≤ 1000000000 := hI_.1 13 0 108 rfl
      refine sm_T_go 2 (c1 := (33, [some (.inr (.inr (some (13, 0)))), some (.inl x_), some (.inl t_)], [.inl (S0_.1 13 0 108)], S0_)) rfl ?_
      refine sm_T_ri rfl ⟨_, _, rfl, rfl, _, rfl, ?_⟩
      refine ⟨?_, by omega, by omega⟩
      unfold cst
      first | rw [if_pos ⟨by omega, by omega⟩] | (rw [if_neg (by omega)]; first | rw [if_pos (by omega)] | rw [if_neg (by omega)])
    · have cx8_ : ¬ (t_ ≠ 0) := of_decide_eq_false cx8_
      refine sm_T_go 2 (c1 := (33, [some (.inr (.inr (some (13, 0)))), some (.inl x_), some (.inl t_)], [.inl 0], S0_)) rfl ?_
      refine sm_T_ri rfl ⟨_, _, rfl, rfl, _, rfl, ?_⟩
      refine ⟨?_, by omega, by omega⟩
      unfold cst
      first | rw [if_pos ⟨by omega, by omega⟩] | (rw [if_neg (by omega)]; first | rw [if_pos (by omega)] | rw [if_neg (by omega)])
  · have cx7_ : ¬ (vx6_ = 0) := of_decide_eq_false cx7_
    refine sm_T_go 4 (c1 := (14, [some (.inr (.inr (some (13, 0)))), some (.inl x_), some (.inl t_)], [.inl x_, .inl 2, .inr (.inr (some (210, 0)))], S0_)) rfl ?_
    refine sm_T_bin (w := 2 * x_) rfl (bi_mul (by omega) (by omega) (by omega)) ?_ -- pc_ 14
    refine sm_T_go 1 (c1 := (16, [some (.inr (.inr (some (13, 0)))), some (.inl x_), some (.inl t_)], [.inl t_, .inl (2 * x_), .inr (.inr (some (210, 0)))], S0_)) rfl ?_
    refine sm_T_bin (w := 2 * x_ + t_) rfl (bi_add (by omega) (by omega) (by omega)) ?_ -- pc_ 16
    refine sm_T_iald (n := 4096) rfl rfl (by omega) (by omega) ?_
    have bx10_ : 0 ≤ S0_.2.2.1 210 0 (2 * x_ + t_).toNat ∧ S0_.2.2.1 210 0 (2 * x_ + t_).toNat ≤ 1000000000 := hI_.2 210 0 _
    refine sm_T_go 1 (c1 := (33, [some (.inr (.inr (some (13, 0)))), some (.inl x_), some (.inl t_)], [.inl (S0_.2.2.1 210 0 (2 * x_ + t_).toNat)], S0_)) rfl ?_
    refine sm_T_ri rfl ⟨_, _, rfl, rfl, _, rfl, ?_⟩
    refine ⟨?_, by omega, by omega⟩
    unfold cst
    first | rw [if_pos ⟨by omega, by omega⟩] | (rw [if_neg (by omega)]; first | rw [if_pos (by omega)] | rw [if_neg (by omega)])
/-! M_.tryWay -/
/-! M_.tryCell -/
/-- what making a_ literal costs, and how_ -/
def ned (S_ : sm_S) (w_ o_ : Int) : Prop := (S_.2.2.1 211 0 w_.toNat = 1 ∧ S_.2.2.1 206 0 o_.toNat + S_.1 13 0 108 < S_.2.2.1 206 0 w_.toNat ∧ S_.2.2.1 210 0 w_.toNat = S_.2.2.1 206 0 o_.toNat + S_.1 13 0 108) ∨ (S_.2.2.1 211 0 w_.toNat = 0 ∧ S_.2.2.1 210 0 w_.toNat = S_.2.2.1 206 0 w_.toNat)
def wok2 (F_ n_ : Int) (S_ : sm_S) : Prop := wyc F_ n_ S_ (2 * n_) ∧ wyc F_ n_ S_ (2 * n_ + 1) ∧ ned S_ (2 * n_) (2 * n_ + 1) ∧ ned S_ (2 * n_ + 1) (2 * n_)
def wf3 (n_ : Int) (S_ S'_ : sm_S) : Prop := wf2 n_ S_ S'_ ∧ ∀ j_, (j_ < 2 * n_.toNat ∨ 2 * n_.toNat + 2 ≤ j_) → S'_.2.2.1 210 0 j_ = S_.2.2.1 210 0 j_ ∧ S'_.2.2.1 211 0 j_ = S_.2.2.1 211 0 j_
def wal9 (F_ N_ : Int) (S_ : sm_S) : Prop := ∀ n_ : Int, F_ ≤ n_ → n_ < N_ → S_.2.2.1 202 0 n_.toNat = 1 → wok2 F_ n_ S_
theorem wok2_cg {F_ n_ m_ : Int} {S_ S'_ : sm_S} (hI_ : gi S'_) (h_ : wok2 F_ m_ S_) (g_ : wf3 n_ S_ S'_) (hm_ : 0 ≤ m_) (hn_ : m_ < n_) (e5_ : S'_.2.2.1 185 0 = S_.2.2.1 185 0) (e106_ : S'_.1 13 0 106 = S_.1 13 0 106) (e108_ : S'_.1 13 0 108 = S_.1 13 0 108) (e2_ : S'_.2.2.1 202 0 = S_.2.2.1 202 0) (e3_ : S'_.2.2.1 203 0 = S_.2.2.1 203 0) : wok2 F_ m_ S'_ := by
  have ec : ∀ x_ t_ : Int, 1 ≤ x_ → x_ < m_ → 0 ≤ t_ → t_ ≤ 1 → cst F_ S'_ x_ t_ = cst F_ S_ x_ t_ := fun x_ t_ a_ b_ c_ d_ => by
    unfold cst
    rw [e3_, e108_, (g_.2 (2 * x_ + t_).toNat (by omega)).1]
  have q_ : ∀ l_ : Int, l_ = 2 * m_ ∨ l_ = 2 * m_ + 1 → wyc F_ m_ S_ l_ → wyc F_ m_ S'_ l_ := fun l_ hl_ k_ => by
    have w_ := g_.1.1 l_.toNat (by omega)
    exact wyc_cg hI_ k_ (by omega) w_.1 w_.2.1 w_.2.2 (fun k_ k0_ k1_ => g_.1.2 _ (by omega)) e5_ e106_ e2_ ec
  have r_ : ∀ l_ o_ : Int, (l_ = 2 * m_ ∨ l_ = 2 * m_ + 1) → (o_ = 2 * m_ ∨ o_ = 2 * m_ + 1) → ned S_ l_ o_ → ned S'_ l_ o_ := fun l_ o_ hl_ ho_ k_ => by
    unfold ned
    rw [(g_.2 l_.toNat (by omega)).1, (g_.2 l_.toNat (by omega)).2, (g_.1.1 l_.toNat (by omega)).1, (g_.1.1 o_.toNat (by omega)).1, e108_]
    exact k_
  exact ⟨q_ _ (Or.inl rfl) h_.1, q_ _ (Or.inr rfl) h_.2.1, r_ _ _ (Or.inl rfl) (Or.inr rfl) h_.2.2.1, r_ _ _ (Or.inr rfl) (Or.inl rfl) h_.2.2.2⟩
/-! M_.findWays -/
def vw_407 : sx_Wl := ([(13, 114), (13, 123), (13, 127)], [204, 205, 206, 207, 208, 209, 210, 211, 212, 213, 214, 215], [])
end
/-! 99.zs8 -/
section
/-! the reference: gates made; written by wip/p55/gen/vg -/

/-! the_ reference: gates made -/
def isn (f_ : Nat → Int) (k_ : Nat) : Int := if f_ k_ = -1 then 1 else 0
theorem isn_1 {f_ : Nat → Int} {k_ : Nat} : isn f_ k_ = 1 ↔ f_ k_ = -1 := by
  unfold isn
  split
  · rename_i h_
    exact ⟨fun _ => h_, fun _ => rfl⟩
  · rename_i h_
    exact ⟨fun z_ => absurd z_ (by decide), fun z_ => absurd z_ h_⟩
/-- how_ much is_ still to_ be_ made -/
def inc (N_ : Int) (S_ : sm_S) : Nat := cn1 (isn (S_.2.2.1 218 0)) (2 * N_).toNat + cn1 (isn (S_.2.2.1 219 0)) N_.toNat
/-- gates take nets from below -/
def mad (F_ : Int) (S_ : sm_S) : Prop := ∀ g_ : Int, 0 ≤ g_ → g_ < S_.1 13 0 129 → (0 ≤ S_.2.2.1 216 0 g_.toNat ∨ S_.1 13 0 134 = 1) ∧ ∀ k_ : Int, 0 ≤ k_ → k_ < 3 → (-1 ≤ S_.2.2.1 217 0 (3 * g_ + k_).toNat ∧ S_.2.2.1 217 0 (3 * g_ + k_).toNat < F_ - 1 + g_) ∧ ((k_ = 0 ∨ (0 ≤ S_.2.2.1 216 0 g_.toNat ∧ k_ < S_.2.2.1 185 0 (12 * S_.1 13 0 106 + S_.2.2.1 216 0 g_.toNat).toNat)) → 0 ≤ S_.2.2.1 217 0 (3 * g_ + k_).toNat)
def nok (F_ g_ v_ : Int) : Prop := v_ = -1 ∨ (0 ≤ v_ ∧ v_ < F_ - 1 + g_)
def gst (F_ N_ : Int) (S_ : sm_S) : Prop := (0 ≤ S_.1 13 0 129 ∧ S_.1 13 0 129 + (inc N_ S_ : Int) ≤ 3 * N_) ∧ (∀ w_ : Int, 2 * F_ ≤ w_ → w_ < 2 * N_ → nok F_ (S_.1 13 0 129) (S_.2.2.1 218 0 w_.toNat)) ∧ (∀ n_ : Int, 1 ≤ n_ → n_ < N_ → nok F_ (S_.1 13 0 129) (S_.2.2.1 219 0 n_.toNat)) ∧ mad F_ S_
def lnf (F_ : Int) (S_ : sm_S) (x_ : Int) : Int := if x_ < F_ then x_ - 1 else S_.2.2.1 218 0 (2 * x_).toNat
def noi (F_ : Int) (S_ : sm_S) (x_ t_ : Int) : Int := if F_ ≤ x_ ∧ S_.2.2.1 203 0 x_.toNat = 0 then S_.2.2.1 218 0 (2 * x_ + t_).toNat else if t_ = 0 then lnf F_ S_ x_ else S_.2.2.1 219 0 x_.toNat
theorem lnf_b {F_ N_ x_ : Int} {S_ : sm_S} (h_ : gst F_ N_ S_) (hx_ : 1 ≤ x_ ∧ x_ < N_) : nok F_ (S_.1 13 0 129) (lnf F_ S_ x_) := by
  unfold lnf
  have a_ := h_.1.1
  split
  · right
    omega
  · exact h_.2.1 (2 * x_) (by omega) (by omega)
theorem noi_b {F_ N_ x_ t_ : Int} {S_ : sm_S} (h_ : gst F_ N_ S_) (hx_ : 1 ≤ x_ ∧ x_ < N_) (ht_ : 0 ≤ t_ ∧ t_ ≤ 1) : nok F_ (S_.1 13 0 129) (noi F_ S_ x_ t_) := by
  unfold noi
  split
  · exact h_.2.1 (2 * x_ + t_) (by omega) (by omega)
  · split
    · exact lnf_b h_ hx_
    · exact h_.2.2.1 x_ hx_.1 hx_.2
/-- a_ task more -/
def jap (s_ w_ : Int) (S_ S'_ : sm_S) : Prop := S'_.1 13 0 137 = S_.1 13 0 137 + 1 ∧ (∀ j_, S'_.2.2.1 220 0 j_ = if j_ = (S_.1 13 0 137).toNat then w_ else S_.2.2.1 220 0 j_) ∧ ∀ j_, S'_.2.2.1 221 0 j_ = if j_ = (S_.1 13 0 137).toNat then s_ else S_.2.2.1 221 0 j_
def jgd (F_ N_ : Int) (S_ : sm_S) (s_ w_ : Int) : Prop := (s_ = 1 ∧ 1 ≤ w_ ∧ w_ < N_ ∧ S_.2.2.1 202 0 w_.toNat = 1 ∧ (w_ < F_ ∨ (S_.2.2.1 203 0 w_.toNat = 1 ∧ S_.2.2.1 210 0 (2 * w_).toNat < 1000000000))) ∨ (s_ = 0 ∧ 2 * F_ ≤ w_ ∧ w_ < 2 * N_ ∧ S_.2.2.1 202 0 (w_ / 2).toNat = 1 ∧ S_.2.2.1 210 0 w_.toNat < 1000000000)
def jrk (S_ : sm_S) (s_ w_ : Int) : Int := if s_ = 1 then 3 * w_ + 2 else 3 * (w_ / 2) + S_.2.2.1 211 0 w_.toNat
def jdn (S_ : sm_S) (s_ w_ : Int) : Prop := (s_ = 1 ∧ S_.2.2.1 219 0 w_.toNat ≠ -1) ∨ (s_ ≠ 1 ∧ S_.2.2.1 218 0 w_.toNat ≠ -1)
def jsk (F_ N_ : Int) (S_ : sm_S) : Prop := ∀ i_ : Int, 0 ≤ i_ → i_ < S_.1 13 0 137 → jgd F_ N_ S_ (S_.2.2.1 221 0 i_.toNat) (S_.2.2.1 220 0 i_.toNat) ∧ jrk S_ (S_.2.2.1 221 0 i_.toNat) (S_.2.2.1 220 0 i_.toNat) + i_ ≤ 3042
noncomputable def tpv_ (S_ : sm_S) : Int := if S_.1 13 0 137 = 0 then 0 else if (S_.2.2.1 221 0 (S_.1 13 0 137 - 1).toNat = 1 ∧ S_.2.2.1 219 0 (S_.2.2.1 220 0 (S_.1 13 0 137 - 1).toNat).toNat ≠ -1) ∨ (S_.2.2.1 221 0 (S_.1 13 0 137 - 1).toNat ≠ 1 ∧ S_.2.2.1 218 0 (S_.2.2.1 220 0 (S_.1 13 0 137 - 1).toNat).toNat ≠ -1) then 4000 + S_.1 13 0 137 else jrk S_ (S_.2.2.1 221 0 (S_.1 13 0 137 - 1).toNat) (S_.2.2.1 220 0 (S_.1 13 0 137 - 1).toNat)
noncomputable def mea_ (N_ : Int) (S_ : sm_S) : Nat := 20000 * inc N_ S_ + (tpv_ S_).toNat
theorem jrk_b {F_ N_ s_ w_ : Int} {S_ : sm_S} (hI_ : gi S_) (h_ : jgd F_ N_ S_ s_ w_) (hF_ : 1 ≤ F_) : 0 ≤ jrk S_ s_ w_ := by
  unfold jrk
  have c_ : 0 ≤ S_.2.2.1 211 0 w_.toNat := (hI_.2 211 0 _).1
  rcases h_ with h_ | h_
  · rw [if_pos h_.1]; omega
  · rw [if_neg (by omega)]; omega
theorem jsk_c {F_ N_ : Int} {S_ : sm_S} (hI_ : gi S_) (h_ : jsk F_ N_ S_) (hF_ : 1 ≤ F_) : S_.1 13 0 137 ≤ 3043 := by
  by_cases z_ : S_.1 13 0 137 ≤ 3043
  · exact z_
  · have q_ := h_ 3043 (by omega) (by omega)
    have r_ := jrk_b hI_ q_.1 hF_
    omega
theorem tpv_b {F_ N_ : Int} {S_ : sm_S} (hI_ : gi S_) (h_ : jsk F_ N_ S_) (hF_ : 1 ≤ F_) (hc_ : 0 ≤ S_.1 13 0 137) : 0 ≤ tpv_ S_ ∧ tpv_ S_ ≤ 7043 := by
  have c_ := jsk_c hI_ h_ hF_
  unfold tpv_
  split
  · omega
  · split
    · omega
    · have q_ := h_ (S_.1 13 0 137 - 1) (by omega) (by omega)
      have r_ := jrk_b hI_ q_.1 hF_
      omega
/-- the_ same rows for_ tasks: only the_ rows of_ gates change -/
theorem jgd_cg {F_ N_ s_ w_ : Int} {S_ S'_ : sm_S} (h_ : jgd F_ N_ S_ s_ w_) (e2_ : S'_.2.2.1 202 0 = S_.2.2.1 202 0) (e3_ : S'_.2.2.1 203 0 = S_.2.2.1 203 0) (e10 : S'_.2.2.1 210 0 = S_.2.2.1 210 0) : jgd F_ N_ S'_ s_ w_ := by
  unfold jgd
  rw [e2_, e3_, e10]
  exact h_
theorem jrk_cg {s_ w_ : Int} {S_ S'_ : sm_S} (e11 : S'_.2.2.1 211 0 = S_.2.2.1 211 0) : jrk S'_ s_ w_ = jrk S_ s_ w_ := by
  unfold jrk
  rw [e11]
theorem jsk_cg {F_ N_ : Int} {S_ S'_ : sm_S} (h_ : jsk F_ N_ S_) (ej_ : S'_.1 13 0 137 = S_.1 13 0 137) (e20_ : S'_.2.2.1 220 0 = S_.2.2.1 220 0) (e21_ : S'_.2.2.1 221 0 = S_.2.2.1 221 0) (e2_ : S'_.2.2.1 202 0 = S_.2.2.1 202 0) (e3_ : S'_.2.2.1 203 0 = S_.2.2.1 203 0) (e10 : S'_.2.2.1 210 0 = S_.2.2.1 210 0) (e11 : S'_.2.2.1 211 0 = S_.2.2.1 211 0) : jsk F_ N_ S'_ := fun i_ a_ b_ => by
  rw [ej_] at b_
  rw [e20_, e21_, jrk_cg e11]
  exact ⟨jgd_cg (h_ i_ a_ b_).1 e2_ e3_ e10, (h_ i_ a_ b_).2⟩
theorem jsk_ap {F_ N_ s_ w_ : Int} {S_ S'_ : sm_S} (h_ : jsk F_ N_ S_) (a_ : jap s_ w_ S_ S'_) (hc_ : 0 ≤ S_.1 13 0 137) (g_ : jgd F_ N_ S_ s_ w_) (r_ : jrk S_ s_ w_ + S_.1 13 0 137 ≤ 3042) (e2_ : S'_.2.2.1 202 0 = S_.2.2.1 202 0) (e3_ : S'_.2.2.1 203 0 = S_.2.2.1 203 0) (e10 : S'_.2.2.1 210 0 = S_.2.2.1 210 0) (e11 : S'_.2.2.1 211 0 = S_.2.2.1 211 0) : jsk F_ N_ S'_ := fun i_ i0_ i1_ => by
  rw [a_.1] at i1_
  rw [a_.2.1, a_.2.2, jrk_cg e11]
  by_cases z_ : i_.toNat = (S_.1 13 0 137).toNat
  · rw [if_pos z_, if_pos z_]
    exact ⟨jgd_cg g_ e2_ e3_ e10, by omega⟩
  · rw [if_neg z_, if_neg z_]
    exact ⟨jgd_cg (h_ i_ i0_ (by omega)).1 e2_ e3_ e10, (h_ i_ i0_ (by omega)).2⟩
theorem inc_cg {N_ : Int} {S_ S'_ : sm_S} (e1_ : S'_.2.2.1 218 0 = S_.2.2.1 218 0) (e2_ : S'_.2.2.1 219 0 = S_.2.2.1 219 0) : inc N_ S'_ = inc N_ S_ := by
  unfold inc
  rw [e1_, e2_]
theorem inc_g {N_ w_ v_ : Int} {S_ S'_ : sm_S} (hw_ : 0 ≤ w_ ∧ w_ < 2 * N_) (h0_ : S_.2.2.1 218 0 w_.toNat = -1) (hv_ : v_ ≠ -1) (e1_ : ∀ j_, S'_.2.2.1 218 0 j_ = if j_ = w_.toNat then v_ else S_.2.2.1 218 0 j_) (e2_ : S'_.2.2.1 219 0 = S_.2.2.1 219 0) : inc N_ S'_ + 1 = inc N_ S_ := by
  have u_ := cn1_up (f := isn (S'_.2.2.1 218 0)) (g := isn (S_.2.2.1 218 0)) (j := w_.toNat) (fun z_ => by have := isn_1.mp z_; rw [e1_, if_pos rfl] at this; exact hv_ this) (isn_1.mpr h0_) (fun k_ hk_ => by unfold isn; rw [e1_, if_neg hk_]) (n := (2 * N_).toNat) (by omega)
  unfold inc
  rw [e2_]
  omega
theorem inc_t {N_ w_ v_ : Int} {S_ S'_ : sm_S} (hw_ : 0 ≤ w_ ∧ w_ < N_) (h0_ : S_.2.2.1 219 0 w_.toNat = -1) (hv_ : v_ ≠ -1) (e1_ : ∀ j_, S'_.2.2.1 219 0 j_ = if j_ = w_.toNat then v_ else S_.2.2.1 219 0 j_) (e2_ : S'_.2.2.1 218 0 = S_.2.2.1 218 0) : inc N_ S'_ + 1 = inc N_ S_ := by
  have u_ := cn1_up (f := isn (S'_.2.2.1 219 0)) (g := isn (S_.2.2.1 219 0)) (j := w_.toNat) (fun z_ => by have := isn_1.mp z_; rw [e1_, if_pos rfl] at this; exact hv_ this) (isn_1.mpr h0_) (fun k_ hk_ => by unfold isn; rw [e1_, if_neg hk_]) (n := N_.toNat) (by omega)
  unfold inc
  rw [e2_]
  omega
theorem nok_up {F_ g_ g'_ v_ : Int} (h_ : nok F_ g_ v_) (hg_ : g_ ≤ g'_) : nok F_ g'_ v_ := by
  rcases h_ with h_ | h_
  · exact Or.inl h_
  · exact Or.inr ⟨h_.1, by omega⟩
/-- a_ gate is_ made: fewer things are_ left -/
theorem gst_g {F_ N_ w_ v_ : Int} {S_ S1_ S'_ : sm_S} (h_ : gst F_ N_ S_) (hw_ : 2 * F_ ≤ w_ ∧ w_ < 2 * N_) (hF_ : 0 ≤ F_) (h0_ : S_.2.2.1 218 0 w_.toNat = -1) (hv_ : v_ = F_ - 1 + S_.1 13 0 129 ∧ 0 ≤ v_) (eg_ : S'_.1 13 0 129 = S_.1 13 0 129 + 1) (e1_ : ∀ j_, S'_.2.2.1 218 0 j_ = if j_ = w_.toNat then v_ else S_.2.2.1 218 0 j_) (e2_ : S'_.2.2.1 219 0 = S_.2.2.1 219 0) (m_ : mad F_ S'_) : gst F_ N_ S'_ ∧ inc N_ S'_ + 1 = inc N_ S_ := by
  have u_ := inc_g (N_ := N_) ⟨by omega, hw_.2⟩ h0_ (by omega) e1_ e2_
  refine ⟨⟨by have := h_.1; omega, fun x_ x0_ x1_ => ?_, fun x_ x0_ x1_ => ?_, m_⟩, u_⟩
  · rw [e1_, eg_]
    split
    · right
      omega
    · exact nok_up (h_.2.1 x_ x0_ x1_) (by omega)
  · rw [e2_, eg_]
    exact nok_up (h_.2.2.1 x_ x0_ x1_) (by omega)
theorem gst_t {F_ N_ w_ v_ : Int} {S_ S1_ S'_ : sm_S} (h_ : gst F_ N_ S_) (hw_ : 1 ≤ w_ ∧ w_ < N_) (h0_ : S_.2.2.1 219 0 w_.toNat = -1) (hv_ : v_ = F_ - 1 + S_.1 13 0 129 ∧ 0 ≤ v_) (eg_ : S'_.1 13 0 129 = S_.1 13 0 129 + 1) (e1_ : ∀ j_, S'_.2.2.1 219 0 j_ = if j_ = w_.toNat then v_ else S_.2.2.1 219 0 j_) (e2_ : S'_.2.2.1 218 0 = S_.2.2.1 218 0) (m_ : mad F_ S'_) : gst F_ N_ S'_ ∧ inc N_ S'_ + 1 = inc N_ S_ := by
  have u_ := inc_t (N_ := N_) ⟨by omega, hw_.2⟩ h0_ (by omega) e1_ e2_
  refine ⟨⟨by have := h_.1; omega, fun x_ x0_ x1_ => ?_, fun x_ x0_ x1_ => ?_, m_⟩, u_⟩
  · rw [e2_, eg_]
    exact nok_up (h_.2.1 x_ x0_ x1_) (by omega)
  · rw [e1_, eg_]
    split
    · right
      omega
    · exact nok_up (h_.2.2.1 x_ x0_ x1_) (by omega)
theorem gst_cg {F_ N_ : Int} {S_ S'_ : sm_S} (h_ : gst F_ N_ S_) (e_ : S'_.1 13 0 129 = S_.1 13 0 129) (e1_ : S'_.2.2.1 218 0 = S_.2.2.1 218 0) (e2_ : S'_.2.2.1 219 0 = S_.2.2.1 219 0) (e6_ : S'_.2.2.1 216 0 = S_.2.2.1 216 0) (e7_ : S'_.2.2.1 217 0 = S_.2.2.1 217 0) (e5_ : S'_.2.2.1 185 0 = S_.2.2.1 185 0) (e106_ : S'_.1 13 0 106 = S_.1 13 0 106) (e134_ : S'_.1 13 0 134 = S_.1 13 0 134) : gst F_ N_ S'_ := by
  unfold gst mad
  rw [inc_cg e1_ e2_, e_, e1_, e2_, e6_, e7_, e5_, e106_, e134_]
  exact h_
theorem mea_c {F_ N_ : Int} {S_ S'_ : sm_S} (hI_ : gi S'_) (h_ : jsk F_ N_ S'_) (hF_ : 1 ≤ F_) (hc_ : 0 ≤ S'_.1 13 0 137) (u_ : inc N_ S'_ + 1 = inc N_ S_) : mea_ N_ S'_ < mea_ N_ S_ := by
  have q_ := tpv_b hI_ h_ hF_ hc_
  unfold mea_
  omega
/-! M_.sources -/
def vw_409 : sx_Wl := ([], [], [])
def vq_409 (F_ : Int) (N_ : Int) (d_ : Int) (S0_ : sm_S) (u_ : Option sm_V) (S1_ : sm_S) : Prop := S0_ = S1_ ∧ ∃ v_ : Int, u_ = some (.inl v_) ∧ (v_ = F_ - 1)
set_option maxHeartbeats 400000 in
set_option maxRecDepth 20000 in
theorem vc_409 {sc_ : Nat × (Nat → Int)} (F_ : Int) (N_ : Int) (d_ : Int) (S0_ : sm_S) (hI_ : gi S0_) (hd_ : dmp F_ N_ d_ S0_) : sm_T (mt_P sc_) 0 409 (0, [some (.inr (.inr (some (13, 0))))], [], S0_) (fun ro9_ => ∃ u_ S1_, ro9_ = (.inl u_, S1_, 0) ∧ vq_409 F_ N_ d_ S0_ u_ S1_) := by
  have hF_ : ai_fr (sx_W vw_409) S0_ S0_ := ai_fr_rf
  have d1_ := hd_.1
  have q9_ : S0_.2.2.1 154 0 d_.toNat + S0_.2.2.1 155 0 d_.toNat = F_ - 1 := by (obtain ⟨F1_, I9_, R9_, N1_, k1_, -⟩ := hd_.2; omega)
  have e1_ : S0_.2.2.1 154 0 (S0_.1 13 0 105).toNat = S0_.2.2.1 154 0 d_.toNat := by rw [d1_.2.2.1]
  have e2_ : S0_.2.2.1 155 0 (S0_.1 13 0 105).toNat = S0_.2.2.1 155 0 d_.toNat := by rw [d1_.2.2.1]
  have bx1_ : 0 ≤ S0_.1 13 0 105 ∧ S0_.1 13 0 105 ≤ 5 := hI_.1 13 0 105 rfl
  refine sm_T_go 4 (c1 := (8, [some (.inr (.inr (some (13, 0))))], [.inl (S0_.1 13 0 105), .inr (.inr (some (154, 0)))], S0_)) rfl ?_
  refine sm_T_iald (n := 6) rfl rfl (by omega) (by omega) ?_
  have bx2_ : 0 ≤ S0_.2.2.1 154 0 (S0_.1 13 0 105).toNat ∧ S0_.2.2.1 154 0 (S0_.1 13 0 105).toNat ≤ 12 := hI_.2 154 0 _
  refine sm_T_go 4 (c1 := (17, [some (.inr (.inr (some (13, 0))))], [.inl (S0_.1 13 0 105), .inr (.inr (some (155, 0))), .inl (S0_.2.2.1 154 0 (S0_.1 13 0 105).toNat)], S0_)) rfl ?_
  refine sm_T_iald (n := 6) rfl rfl (by omega) (by omega) ?_
  have bx3_ : 0 ≤ S0_.2.2.1 155 0 (S0_.1 13 0 105).toNat ∧ S0_.2.2.1 155 0 (S0_.1 13 0 105).toNat ≤ 6 := hI_.2 155 0 _
  refine sm_T_bin (w := (S0_.2.2.1 154 0 (S0_.1 13 0 105).toNat) + (S0_.2.2.1 155 0 (S0_.1 13 0 105).toNat)) rfl (bi_add (by omega) (by omega) (by omega)) ?_ -- pc_ 18
  refine sm_T_ri rfl ⟨_, _, rfl, rfl, _, rfl, ?_⟩
  omega
/-! M_.make -/
/-! M_.turned -/
/-! M_.job -/
def vw_412 : sx_Wl := ([(13, 137)], [220, 221], [])
def vq_412 (s_ : Int) (w_ : Int) (S0_ : sm_S) (u_ : Option sm_V) (S1_ : sm_S) : Prop := u_ = none ∧ gi S1_ ∧ ai_fr (sx_W vw_412) S0_ S1_ ∧ (jap s_ w_ S0_ S1_)
set_option maxHeartbeats 400000 in
set_option maxRecDepth 20000 in
theorem vc_412 {sc_ : Nat × (Nat → Int)} (s_ : Int) (w_ : Int) (S0_ : sm_S) (hI_ : gi S0_) (hj_ : (S0_.1 13 0 137) ≤ 8190) (hs_ : 0 ≤ s_ ∧ s_ ≤ 1 ∧ 0 ≤ w_ ∧ w_ ≤ 4095) : sm_T (mt_P sc_) 0 412 (0, [some (.inr (.inr (some (13, 0)))), some (.inl s_), some (.inl w_)], [], S0_) (fun ro9_ => ∃ u_ S1_, ro9_ = (.inl u_, S1_, 0) ∧ vq_412 s_ w_ S0_ u_ S1_) := by
  have hF_ : ai_fr (sx_W vw_412) S0_ S0_ := ai_fr_rf
  have bx1_ : 0 ≤ S0_.1 13 0 137 ∧ S0_.1 13 0 137 ≤ 8191 := hI_.1 13 0 137 rfl
  refine sm_T_go 5 (c1 := (9, [some (.inr (.inr (some (13, 0)))), some (.inl s_), some (.inl w_)], [.inl w_, .inl (S0_.1 13 0 137), .inr (.inr (some (220, 0)))], S0_)) rfl ?_
  refine sm_T_iast (n := 8192) rfl rfl (by omega) (by omega) ?_
  have hIx2_ : gi (sm_aI S0_ 220 0 (S0_.1 13 0 137).toNat w_) := gi_aI hI_ (show 0 ≤ w_ ∧ w_ ≤ 4095 from ⟨by omega, by omega⟩)
  have hFx3_ : ai_fr (sx_W vw_412) S0_ (sm_aI S0_ 220 0 (S0_.1 13 0 137).toNat w_) := ai_fr_tr hF_ (ai_fr_aI rfl)
  refine sm_T_go 5 (c1 := (19, [some (.inr (.inr (some (13, 0)))), some (.inl s_), some (.inl w_)], [.inl s_, .inl (S0_.1 13 0 137), .inr (.inr (some (221, 0)))], sm_aI S0_ 220 0 (S0_.1 13 0 137).toNat w_)) rfl ?_
  refine sm_T_iast (n := 8192) rfl rfl (by omega) (by omega) ?_
  have hIx4_ : gi (sm_aI (sm_aI S0_ 220 0 (S0_.1 13 0 137).toNat w_) 221 0 (S0_.1 13 0 137).toNat s_) := gi_aI hIx2_ (show 0 ≤ s_ ∧ s_ ≤ 1 from ⟨by omega, by omega⟩)
  have hFx5_ : ai_fr (sx_W vw_412) S0_ (sm_aI (sm_aI S0_ 220 0 (S0_.1 13 0 137).toNat w_) 221 0 (S0_.1 13 0 137).toNat s_) := ai_fr_tr hFx3_ (ai_fr_aI rfl)
  refine sm_T_go 4 (c1 := (26, [some (.inr (.inr (some (13, 0)))), some (.inl s_), some (.inl w_)], [.inl 1, .inl (S0_.1 13 0 137), .inr (.inr (some (13, 0)))], sm_aI (sm_aI S0_ 220 0 (S0_.1 13 0 137).toNat w_) 221 0 (S0_.1 13 0 137).toNat s_)) rfl ?_
  refine sm_T_bin (w := (S0_.1 13 0 137) + 1) rfl (bi_add (by omega) (by omega) (by omega)) ?_ -- pc_ 26
  have hIx6_ : gi (sm_pI (sm_aI (sm_aI S0_ 220 0 (S0_.1 13 0 137).toNat w_) 221 0 (S0_.1 13 0 137).toNat s_) 13 0 137 ((S0_.1 13 0 137) + 1)) := gi_pI hIx4_ (show 0 ≤ (S0_.1 13 0 137) + 1 ∧ (S0_.1 13 0 137) + 1 ≤ 8191 from ⟨by omega, by omega⟩)
  have hFx7_ : ai_fr (sx_W vw_412) S0_ (sm_pI (sm_aI (sm_aI S0_ 220 0 (S0_.1 13 0 137).toNat w_) 221 0 (S0_.1 13 0 137).toNat s_) 13 0 137 ((S0_.1 13 0 137) + 1)) := ai_fr_tr hFx5_ (ai_fr_pI rfl)
  refine sm_T_go 1 (c1 := (30, [some (.inr (.inr (some (13, 0)))), some (.inl s_), some (.inl w_)], [], sm_pI (sm_aI (sm_aI S0_ 220 0 (S0_.1 13 0 137).toNat w_) 221 0 (S0_.1 13 0 137).toNat s_) 13 0 137 ((S0_.1 13 0 137) + 1))) rfl ?_
  refine sm_T_rv rfl ⟨_, _, rfl, rfl, hIx6_, hFx7_, ?_⟩
  refine ⟨?_, fun j9_ => ?_, fun j9_ => ?_⟩ <;> (try simp only [rd_eq, rd_ne, rf_eq, rf_nk, rf_nt, rd_fa, rd_af, rd_fl, rd_al, rd_lf, rd_la, rd_leq, rd_lne, rd_fr, rd_ar, ne_eq, Nat.reduceEqDiff, not_false_eq_true])
/-! M_.isLeaf -/
def vw_413 : sx_Wl := ([], [], [])
def vq_413 (n_ : Int) (F_ : Int) (S0_ : sm_S) (u_ : Option sm_V) (S1_ : sm_S) : Prop := S0_ = S1_ ∧ ∃ v_ : Int, u_ = some (.inl v_) ∧ ((v_ = 0 ∧ F_ ≤ n_ ∧ S0_.2.2.1 203 0 n_.toNat = 0) ∨ (v_ = 1 ∧ (n_ < F_ ∨ S0_.2.2.1 203 0 n_.toNat = 1)))
set_option maxHeartbeats 400000 in
set_option maxRecDepth 20000 in
theorem vc_413 {sc_ : Nat × (Nat → Int)} (n_ : Int) (F_ : Int) (S0_ : sm_S) (hI_ : gi S0_) (hf_ : S0_.2.2.1 160 0 (S0_.1 13 0 105).toNat = F_) (hn_ : 0 ≤ n_ ∧ n_ ≤ 2047) : sm_T (mt_P sc_) 1 413 (0, [some (.inr (.inr (some (13, 0)))), some (.inl n_)], [], S0_) (fun ro9_ => ∃ u_ S1_, ro9_ = (.inl u_, S1_, 0) ∧ vq_413 n_ F_ S0_ u_ S1_) := by
  have hF_ : ai_fr (sx_W vw_413) S0_ S0_ := ai_fr_rf
  refine sm_T_go 2 (c1 := (2, [some (.inr (.inr (some (13, 0)))), some (.inl n_)], [.inl n_, .inr (.inr (some (13, 0)))], S0_)) rfl ?_
  refine sm_T_cal (d1 := 0) (Q1 := vq_395 n_ F_ S0_) rfl rfl (by decide) (vc_395 n_ F_ S0_ hI_ (by exact hf_) (by exact hn_)) (fun u_ Sx1_ px4_ => ?_)
  obtain ⟨rfl, vx6_, rfl, px4_⟩ := px4_
  have e2_ := px4_
  refine sm_T_b0 (a := 1) (z := 7) rfl (fun cx7_ => ?_) (fun cx7_ => ?_)
  · have cx7_ : vx6_ ≠ 0 := of_decide_eq_true cx7_
    refine sm_T_go 1 (c1 := (13, [some (.inr (.inr (some (13, 0)))), some (.inl n_)], [.inl 0], S0_)) rfl ?_
    refine sm_T_rz rfl (by omega) ⟨_, _, rfl, rfl, _, rfl, ?_⟩
    omega
  · have cx7_ : ¬ (vx6_ ≠ 0) := of_decide_eq_false cx7_
    refine sm_T_go 2 (c1 := (13, [some (.inr (.inr (some (13, 0)))), some (.inl n_)], [.inl 1], S0_)) rfl ?_
    refine sm_T_rz rfl (by omega) ⟨_, _, rfl, rfl, _, rfl, ?_⟩
    omega
/-! M_.leafNet -/
def vw_414 : sx_Wl := ([], [], [])
def vq_414 (n_ : Int) (F_ : Int) (S0_ : sm_S) (u_ : Option sm_V) (S1_ : sm_S) : Prop := S0_ = S1_ ∧ ∃ v_ : Int, u_ = some (.inl v_) ∧ (v_ = lnf F_ S0_ n_ ∧ -2 ≤ v_ ∧ v_ ≤ 9000)
set_option maxHeartbeats 400000 in
set_option maxRecDepth 20000 in
theorem vc_414 {sc_ : Nat × (Nat → Int)} (n_ : Int) (F_ : Int) (S0_ : sm_S) (hI_ : gi S0_) (hf_ : S0_.2.2.1 160 0 (S0_.1 13 0 105).toNat = F_) (hn_ : 0 ≤ n_ ∧ n_ ≤ 2047) : sm_T (mt_P sc_) 0 414 (0, [some (.inr (.inr (some (13, 0)))), some (.inl n_)], [], S0_) (fun ro9_ => ∃ u_ S1_, ro9_ = (.inl u_, S1_, 0) ∧ vq_414 n_ F_ S0_ u_ S1_) := by
  have hF_ : ai_fr (sx_W vw_414) S0_ S0_ := ai_fr_rf
  have bx1_ : 0 ≤ S0_.1 13 0 105 ∧ S0_.1 13 0 105 ≤ 5 := hI_.1 13 0 105 rfl
  refine sm_T_go 5 (c1 := (9, [some (.inr (.inr (some (13, 0)))), some (.inl n_)], [.inl (S0_.1 13 0 105), .inr (.inr (some (160, 0))), .inl n_], S0_)) rfl ?_
  refine sm_T_iald (n := 6) rfl rfl (by omega) (by omega) ?_
  have bx2_ : 0 ≤ S0_.2.2.1 160 0 (S0_.1 13 0 105).toNat ∧ S0_.2.2.1 160 0 (S0_.1 13 0 105).toNat ≤ 19 := hI_.2 160 0 _
  refine sm_T_br (a := 3) (z := 9) rfl (fun cx3_ => ?_) (fun cx3_ => ?_)
  · have cx3_ : (S0_.2.2.1 160 0 (S0_.1 13 0 105).toNat) ≤ n_ := of_decide_eq_true cx3_
    refine sm_T_go 4 (c1 := (25, [some (.inr (.inr (some (13, 0)))), some (.inl n_)], [.inl n_, .inl 2, .inr (.inr (some (218, 0)))], S0_)) rfl ?_
    refine sm_T_bin (w := 2 * n_) rfl (bi_mul (by omega) (by omega) (by omega)) ?_ -- pc_ 25
    refine sm_T_iald (n := 4096) rfl rfl (by omega) (by omega) ?_
    have bx4_ : (-2) ≤ S0_.2.2.1 218 0 (2 * n_).toNat ∧ S0_.2.2.1 218 0 (2 * n_).toNat ≤ 9000 := hI_.2 218 0 _
    refine sm_T_ri rfl ⟨_, _, rfl, rfl, _, rfl, ?_⟩
    refine ⟨?_, by omega, by omega⟩
    unfold lnf
    first | rw [if_pos (by omega)] | rw [if_neg (by omega)]
  · have cx3_ : ¬ ((S0_.2.2.1 160 0 (S0_.1 13 0 105).toNat) ≤ n_) := of_decide_eq_false cx3_
    refine sm_T_go 2 (c1 := (15, [some (.inr (.inr (some (13, 0)))), some (.inl n_)], [.inl 1, .inl n_], S0_)) rfl ?_
    refine sm_T_bin (w := n_ - 1) rfl (bi_sub (by omega) (by omega) (by omega)) ?_ -- pc_ 15
    refine sm_T_go 1 (c1 := (27, [some (.inr (.inr (some (13, 0)))), some (.inl n_)], [.inl (n_ - 1)], S0_)) rfl ?_
    refine sm_T_ri rfl ⟨_, _, rfl, rfl, _, rfl, ?_⟩
    refine ⟨?_, by omega, by omega⟩
    unfold lnf
    first | rw [if_pos (by omega)] | rw [if_neg (by omega)]
/-! M_.netOfInput -/
def vw_415 : sx_Wl := ([], [], [])
def vq_415 (x_ : Int) (t_ : Int) (F_ : Int) (S0_ : sm_S) (u_ : Option sm_V) (S1_ : sm_S) : Prop := S0_ = S1_ ∧ ∃ v_ : Int, u_ = some (.inl v_) ∧ (v_ = noi F_ S0_ x_ t_ ∧ -2 ≤ v_ ∧ v_ ≤ 9000)
set_option maxHeartbeats 400000 in
set_option maxRecDepth 20000 in
theorem vc_415 {sc_ : Nat × (Nat → Int)} (x_ : Int) (t_ : Int) (F_ : Int) (S0_ : sm_S) (hI_ : gi S0_) (hf_ : S0_.2.2.1 160 0 (S0_.1 13 0 105).toNat = F_) (hn_ : 0 ≤ x_ ∧ x_ ≤ 2046 ∧ 0 ≤ t_ ∧ t_ ≤ 1) : sm_T (mt_P sc_) 2 415 (0, [some (.inr (.inr (some (13, 0)))), some (.inl x_), some (.inl t_)], [], S0_) (fun ro9_ => ∃ u_ S1_, ro9_ = (.inl u_, S1_, 0) ∧ vq_415 x_ t_ F_ S0_ u_ S1_) := by
  have hF_ : ai_fr (sx_W vw_415) S0_ S0_ := ai_fr_rf
  refine sm_T_go 2 (c1 := (2, [some (.inr (.inr (some (13, 0)))), some (.inl x_), some (.inl t_)], [.inl x_, .inr (.inr (some (13, 0)))], S0_)) rfl ?_
  refine sm_T_cal (d1 := 1) (Q1 := vq_413 x_ F_ S0_) rfl rfl (by decide) (vc_413 x_ F_ S0_ hI_ (by exact hf_) (by omega)) (fun u_ Sx1_ px4_ => ?_)
  obtain ⟨rfl, vx6_, rfl, px4_⟩ := px4_
  have e2_ := px4_
  refine sm_T_b0 (a := 1) (z := 16) rfl (fun cx7_ => ?_) (fun cx7_ => ?_)
  · have cx7_ : vx6_ ≠ 0 := of_decide_eq_true cx7_
    refine sm_T_go 1 (c1 := (22, [some (.inr (.inr (some (13, 0)))), some (.inl x_), some (.inl t_)], [.inl t_], S0_)) rfl ?_
    refine sm_T_b0 (a := 1) (z := 11) rfl (fun cx8_ => ?_) (fun cx8_ => ?_)
    · have cx8_ : t_ ≠ 0 := of_decide_eq_true cx8_
      refine sm_T_go 3 (c1 := (38, [some (.inr (.inr (some (13, 0)))), some (.inl x_), some (.inl t_)], [.inl x_, .inr (.inr (some (219, 0)))], S0_)) rfl ?_
      refine sm_T_iald (n := 2048) rfl rfl (by omega) (by omega) ?_
      have bx9_ : (-2) ≤ S0_.2.2.1 219 0 x_.toNat ∧ S0_.2.2.1 219 0 x_.toNat ≤ 9000 := hI_.2 219 0 _
      refine sm_T_ri rfl ⟨_, _, rfl, rfl, _, rfl, ?_⟩
      refine ⟨?_, by omega, by omega⟩
      unfold noi
      first | rw [if_pos ⟨by omega, by omega⟩] | (rw [if_neg (by omega)]; first | (rw [if_pos (by omega)]; exact e27_.1) | rw [if_neg (by omega)])
    · have cx8_ : ¬ (t_ ≠ 0) := of_decide_eq_false cx8_
      refine sm_T_go 2 (c1 := (27, [some (.inr (.inr (some (13, 0)))), some (.inl x_), some (.inl t_)], [.inl x_, .inr (.inr (some (13, 0)))], S0_)) rfl ?_
      refine sm_T_cal (d1 := 0) (Q1 := vq_414 x_ F_ S0_) rfl rfl (by decide) (vc_414 x_ F_ S0_ hI_ (by exact hf_) (by omega)) (fun u_ Sx10_ px13_ => ?_)
      obtain ⟨rfl, vx15_, rfl, px13_⟩ := px13_
      have e27_ := px13_
      refine sm_T_go 1 (c1 := (39, [some (.inr (.inr (some (13, 0)))), some (.inl x_), some (.inl t_)], [.inl vx15_], S0_)) rfl ?_
      refine sm_T_ri rfl ⟨_, _, rfl, rfl, _, rfl, ?_⟩
      refine ⟨?_, by omega, by omega⟩
      unfold noi
      first | rw [if_pos ⟨by omega, by omega⟩] | (rw [if_neg (by omega)]; first | (rw [if_pos (by omega)]; exact e27_.1) | rw [if_neg (by omega)])
  · have cx7_ : ¬ (vx6_ ≠ 0) := of_decide_eq_false cx7_
    refine sm_T_go 4 (c1 := (14, [some (.inr (.inr (some (13, 0)))), some (.inl x_), some (.inl t_)], [.inl x_, .inl 2, .inr (.inr (some (218, 0)))], S0_)) rfl ?_
    refine sm_T_bin (w := 2 * x_) rfl (bi_mul (by omega) (by omega) (by omega)) ?_ -- pc_ 14
    refine sm_T_go 1 (c1 := (16, [some (.inr (.inr (some (13, 0)))), some (.inl x_), some (.inl t_)], [.inl t_, .inl (2 * x_), .inr (.inr (some (218, 0)))], S0_)) rfl ?_
    refine sm_T_bin (w := 2 * x_ + t_) rfl (bi_add (by omega) (by omega) (by omega)) ?_ -- pc_ 16
    refine sm_T_iald (n := 4096) rfl rfl (by omega) (by omega) ?_
    have bx16_ : (-2) ≤ S0_.2.2.1 218 0 (2 * x_ + t_).toNat ∧ S0_.2.2.1 218 0 (2 * x_ + t_).toNat ≤ 9000 := hI_.2 218 0 _
    refine sm_T_go 1 (c1 := (39, [some (.inr (.inr (some (13, 0)))), some (.inl x_), some (.inl t_)], [.inl (S0_.2.2.1 218 0 (2 * x_ + t_).toNat)], S0_)) rfl ?_
    refine sm_T_ri rfl ⟨_, _, rfl, rfl, _, rfl, ?_⟩
    refine ⟨?_, by omega, by omega⟩
    unfold noi
    first | rw [if_pos ⟨by omega, by omega⟩] | (rw [if_neg (by omega)]; first | (rw [if_pos (by omega)]; exact e27_.1) | rw [if_neg (by omega)])
/-! M_.askFor -/
def vw_416 : sx_Wl := ([(13, 137)], [220, 221], [])
def vq_416 (x_ : Int) (t_ : Int) (F_ : Int) (S0_ : sm_S) (u_ : Option sm_V) (S1_ : sm_S) : Prop := u_ = none ∧ gi S1_ ∧ ai_fr (sx_W vw_416) S0_ S1_ ∧ (((x_ < F_ ∨ S0_.2.2.1 203 0 x_.toNat = 1) ∧ t_ = 1 ∧ jap 1 x_ S0_ S1_) ∨ (((F_ ≤ x_ ∧ S0_.2.2.1 203 0 x_.toNat = 0) ∨ t_ = 0) ∧ jap 0 (2 * x_ + t_) S0_ S1_))
set_option maxHeartbeats 400000 in
set_option maxRecDepth 20000 in
theorem vc_416 {sc_ : Nat × (Nat → Int)} (x_ : Int) (t_ : Int) (F_ : Int) (S0_ : sm_S) (hI_ : gi S0_) (hf_ : S0_.2.2.1 160 0 (S0_.1 13 0 105).toNat = F_) (hn_ : 0 ≤ x_ ∧ x_ ≤ 2046 ∧ 0 ≤ t_ ∧ t_ ≤ 1) (hj_ : (S0_.1 13 0 137) ≤ 8190) : sm_T (mt_P sc_) 2 416 (0, [some (.inr (.inr (some (13, 0)))), some (.inl x_), some (.inl t_)], [], S0_) (fun ro9_ => ∃ u_ S1_, ro9_ = (.inl u_, S1_, 0) ∧ vq_416 x_ t_ F_ S0_ u_ S1_) := by
  have hF_ : ai_fr (sx_W vw_416) S0_ S0_ := ai_fr_rf
  refine sm_T_go 2 (c1 := (2, [some (.inr (.inr (some (13, 0)))), some (.inl x_), some (.inl t_)], [.inl x_, .inr (.inr (some (13, 0)))], S0_)) rfl ?_
  refine sm_T_cal (d1 := 1) (Q1 := vq_413 x_ F_ S0_) rfl rfl (by decide) (vc_413 x_ F_ S0_ hI_ (by exact hf_) (by omega)) (fun u_ Sx1_ px4_ => ?_)
  obtain ⟨rfl, vx6_, rfl, px4_⟩ := px4_
  have e2_ := px4_
  refine sm_T_b0 (a := 0) (z := 17) rfl (fun cx7_ => ?_) (fun cx7_ => ?_)
  · have cx7_ : vx6_ = 0 := of_decide_eq_true cx7_
    refine sm_T_go 4 (c1 := (26, [some (.inr (.inr (some (13, 0)))), some (.inl x_), some (.inl t_)], [.inl x_, .inl 2, .inl 0, .inr (.inr (some (13, 0)))], S0_)) rfl ?_
    refine sm_T_bin (w := 2 * x_) rfl (bi_mul (by omega) (by omega) (by omega)) ?_ -- pc_ 26
    refine sm_T_go 1 (c1 := (28, [some (.inr (.inr (some (13, 0)))), some (.inl x_), some (.inl t_)], [.inl t_, .inl (2 * x_), .inl 0, .inr (.inr (some (13, 0)))], S0_)) rfl ?_
    refine sm_T_bin (w := 2 * x_ + t_) rfl (bi_add (by omega) (by omega) (by omega)) ?_ -- pc_ 28
    refine sm_T_cal (d1 := 0) (Q1 := vq_412 0 (2 * x_ + t_) S0_) rfl rfl (by decide) (vc_412 0 (2 * x_ + t_) S0_ hI_ (by omega) (by omega)) (fun u_ Sx8_ px11_ => ?_)
    obtain ⟨rfl, hIx9_, hFx10_, px11_⟩ := px11_
    have hFx12_ : ai_fr (sx_W vw_416) S0_ Sx8_ := ai_fr_tr hF_ (fr_le hFx10_ rfl)
    have e29_ := px11_
    refine sm_T_rv rfl ⟨_, _, rfl, rfl, hIx9_, hFx12_, ?_⟩
    first | exact Or.inl ⟨by omega, by omega, e16_⟩ | exact Or.inr ⟨by omega, e29_⟩
  · have cx7_ : ¬ (vx6_ = 0) := of_decide_eq_false cx7_
    refine sm_T_go 2 (c1 := (10, [some (.inr (.inr (some (13, 0)))), some (.inl x_), some (.inl t_)], [.inl 1, .inl t_], S0_)) rfl ?_
    refine sm_T_br (a := 1) (z := 12) rfl (fun cx13_ => ?_) (fun cx13_ => ?_)
    · have cx13_ : t_ ≠ 1 := of_decide_eq_true cx13_
      refine sm_T_go 4 (c1 := (26, [some (.inr (.inr (some (13, 0)))), some (.inl x_), some (.inl t_)], [.inl x_, .inl 2, .inl 0, .inr (.inr (some (13, 0)))], S0_)) rfl ?_
      refine sm_T_bin (w := 2 * x_) rfl (bi_mul (by omega) (by omega) (by omega)) ?_ -- pc_ 26
      refine sm_T_go 1 (c1 := (28, [some (.inr (.inr (some (13, 0)))), some (.inl x_), some (.inl t_)], [.inl t_, .inl (2 * x_), .inl 0, .inr (.inr (some (13, 0)))], S0_)) rfl ?_
      refine sm_T_bin (w := 2 * x_ + t_) rfl (bi_add (by omega) (by omega) (by omega)) ?_ -- pc_ 28
      refine sm_T_cal (d1 := 0) (Q1 := vq_412 0 (2 * x_ + t_) S0_) rfl rfl (by decide) (vc_412 0 (2 * x_ + t_) S0_ hI_ (by omega) (by omega)) (fun u_ Sx14_ px17_ => ?_)
      obtain ⟨rfl, hIx15_, hFx16_, px17_⟩ := px17_
      have hFx18_ : ai_fr (sx_W vw_416) S0_ Sx14_ := ai_fr_tr hF_ (fr_le hFx16_ rfl)
      have e29_ := px17_
      refine sm_T_rv rfl ⟨_, _, rfl, rfl, hIx15_, hFx18_, ?_⟩
      first | exact Or.inl ⟨by omega, by omega, e16_⟩ | exact Or.inr ⟨by omega, e29_⟩
    · have cx13_ : ¬ (t_ ≠ 1) := of_decide_eq_false cx13_
      refine sm_T_go 3 (c1 := (16, [some (.inr (.inr (some (13, 0)))), some (.inl x_), some (.inl t_)], [.inl x_, .inl 1, .inr (.inr (some (13, 0)))], S0_)) rfl ?_
      refine sm_T_cal (d1 := 0) (Q1 := vq_412 1 x_ S0_) rfl rfl (by decide) (vc_412 1 x_ S0_ hI_ (by omega) (by omega)) (fun u_ Sx19_ px22_ => ?_)
      obtain ⟨rfl, hIx20_, hFx21_, px22_⟩ := px22_
      have hFx23_ : ai_fr (sx_W vw_416) S0_ Sx19_ := ai_fr_tr hF_ (fr_le hFx21_ rfl)
      have e16_ := px22_
      refine sm_T_go 1 (c1 := (32, [some (.inr (.inr (some (13, 0)))), some (.inl x_), some (.inl t_)], [], Sx19_)) rfl ?_
      refine sm_T_rv rfl ⟨_, _, rfl, rfl, hIx20_, hFx23_, ?_⟩
      first | exact Or.inl ⟨by omega, by omega, e16_⟩ | exact Or.inr ⟨by omega, e29_⟩
end
