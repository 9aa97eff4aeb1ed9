/-! the class: equal, never; written by wip/p55/gen/vg -/

theorem nx_z {a_ b_ : Nat} : a_ ^^^ b_ = 0 ↔ a_ = b_ := by
  constructor
  · intro h_
    have e_ : a_ = (a_ ^^^ b_) ^^^ b_ := by rw [Nat.xor_assoc, Nat.xor_self, Nat.xor_zero]
    rw [e_, h_, Nat.zero_xor]
  · intro h_
    rw [h_, Nat.xor_self]
theorem xm16 {x_ y_ : Int} (hx_ : 0 ≤ x_ ∧ x_ ≤ 2147483647) (hy_ : 0 ≤ y_ ∧ y_ ≤ 2147483647) : i_and (i_xor x_ y_) 65535 ≠ 0 ↔ x_ % 65536 ≠ y_ % 65536 := by
  have e1_ : i_and (i_xor x_ y_) 65535 = i_xor x_ y_ % 65536 := bt_mask (k := 16) (x := i_xor x_ y_) (by decide)
  have e2_ : i_xor x_ y_ = ((x_.toNat ^^^ y_.toNat : Nat) : Int) := bt_xor_nat hx_.1 hx_.2 hy_.1 hy_.2
  have e3_ : (x_.toNat ^^^ y_.toNat) % 65536 = x_.toNat % 65536 ^^^ y_.toNat % 65536 := Nat.xor_mod_two_pow (n := 16)
  have e4_ := nx_z (a_ := x_.toNat % 65536) (b_ := y_.toNat % 65536)
  rw [e1_, e2_]
  constructor
  · intro h_ z_
    apply h_
    have q_ : x_.toNat % 65536 = y_.toNat % 65536 := by omega
    have w_ := e4_.mpr q_
    omega
  · intro h_ z_
    apply h_
    have q_ : x_.toNat % 65536 ^^^ y_.toNat % 65536 = 0 := by omega
    have w_ := e4_.mp q_
    omega
theorem an_2 {n_ k_ : Nat} : n_ &&& 2 ^ k_ ≠ 0 ↔ n_.testBit k_ = true := by
  constructor
  · intro h_
    by_cases c_ : n_.testBit k_ = true
    · exact c_
    · exfalso
      apply h_
      apply Nat.eq_of_testBit_eq
      intro i_
      rw [Nat.testBit_and, Nat.testBit_two_pow, Nat.zero_testBit]
      by_cases d_ : k_ = i_
      · subst d_
        rw [Bool.not_eq_true] at c_
        rw [c_, Bool.false_and]
      · rw [decide_eq_false d_, Bool.and_false]
  · intro h_ z_
    have w_ := Nat.testBit_and n_ (2 ^ k_) k_
    rw [z_, Nat.zero_testBit, h_, Nat.testBit_two_pow, decide_eq_true rfl] at w_
    exact absurd w_ (by decide)
theorem nv16 {y_ k_ : Int} (hy_ : 0 ≤ y_ ∧ y_ ≤ 2147483647) (hk_ : 0 ≤ k_ ∧ k_ < 16) : i_and (i_xor 0 y_) (i_shl 1 k_) ≠ 0 ↔ i_and (i_shr (y_ % 65536) k_) 1 ≠ 0 := by
  have p_ := pw_le (n := k_.toNat) (m := 15) (by omega)
  have p_ : (2 : Int) ^ k_.toNat ≤ 32768 := p_
  have p0_ := pw_pos k_.toNat
  have pn_ : ((2 ^ k_.toNat : Nat) : Int) = (2 : Int) ^ k_.toNat := by push_cast; rfl
  have e1_ : i_xor 0 y_ = y_ := by
    have e_ : i_xor 0 y_ = (((0 : Int).toNat ^^^ y_.toNat : Nat) : Int) := bt_xor_nat (by decide) (by decide) hy_.1 hy_.2
    rw [e_, show (0 : Int).toNat = 0 from rfl, Nat.zero_xor]
    omega
  have e2_ : i_shl 1 k_ = 2 ^ k_.toNat := i_shl1 hk_.1 (by omega)
  have e3_ : i_and y_ (2 ^ k_.toNat) = ((y_.toNat &&& ((2 : Int) ^ k_.toNat).toNat : Nat) : Int) := bt_and_nat hy_.1 hy_.2 (by omega) (by omega)
  have e4_ : ((2 : Int) ^ k_.toNat).toNat = 2 ^ k_.toNat := by omega
  have e5_ : i_shr (y_ % 65536) k_ = y_ % 65536 / 2 ^ k_.toNat := i_shrv hk_.1 (by omega) (by omega)
  have e6_ : i_and (y_ % 65536 / 2 ^ k_.toNat) 1 = y_ % 65536 / 2 ^ k_.toNat % 2 := bt_mask (k := 1) (x := y_ % 65536 / 2 ^ k_.toNat) (by decide)
  have e7_ : (y_ % 65536 / 2 ^ k_.toNat) = ((y_.toNat % 65536 / 2 ^ k_.toNat : Nat) : Int) := by
    rw [Int.natCast_ediv, pn_, show ((y_.toNat % 65536 : Nat) : Int) = y_ % 65536 by omega]
  rw [e1_, e2_, e3_, e4_, e5_, e6_, e7_]
  have t1_ := an_2 (n_ := y_.toNat) (k_ := k_.toNat)
  have t2_ : (y_.toNat % 2 ^ 16).testBit k_.toNat = (decide (k_.toNat < 16) && y_.toNat.testBit k_.toNat) := Nat.testBit_mod_two_pow y_.toNat 16 k_.toNat
  rw [decide_eq_true (show k_.toNat < 16 by omega), Bool.true_and, Nat.testBit_eq_decide_div_mod_eq, show (2 : Nat) ^ 16 = 65536 from rfl] at t2_
  rw [← t2_, decide_eq_true_iff] at t1_
  constructor
  · intro h_ z_
    have q_ := t1_.mp (fun w_ => h_ (congrArg (fun t_ : Nat => (t_ : Int)) w_))
    omega
  · intro h_ z_
    have q_ := t1_.mpr (by omega)
    exact q_ (by first | exact Int.natCast_eq_zero.mp z_ | exact Int.ofNat_eq_zero.mp z_ | omega)

def oka_equal (aa_ bb_ : Int) (S_ : sm_S) : Prop := (0 ≤ aa_ ∧ aa_ < 6 ∧ S_.1 3 aa_.toNat 0 = 1) ∧ (0 ≤ bb_ ∧ bb_ < 6 ∧ S_.1 3 bb_.toNat 0 = 1)
def okc_equal (aa_ bb_ : Int) (S_ : sm_S) : Prop := oka_equal aa_ bb_ S_ ∧ (S_.1 3 aa_.toNat 1 = S_.1 3 bb_.toNat 1 ∧ S_.1 3 aa_.toNat 3 = S_.1 3 bb_.toNat 3)
def spc_equal (aa_ bb_ : Int) (S_ : sm_S) (v_ : Int) : Prop := bfsp (S_.1 3 bb_.toNat 1).toNat (cmD (S_.2.2.1 47 (0 + aa_.toNat)) (S_.2.2.1 47 (0 + bb_.toNat)) 65535) (nx6 (S_.2.2.1 47 (0 + aa_.toNat))) (nx6 (S_.2.2.1 47 (0 + bb_.toNat))) (S_.1 3 aa_.toNat 5).toNat (S_.1 3 bb_.toNat 5).toNat v_
theorem spc_eq {w_ : sx_Wl} {aa_ bb_ v_ : Int} {S_ S'_ : sm_S} (g_ : ai_fr (sx_W w_) S_ S'_) (h_ : okc_equal aa_ bb_ S_ ∧ spc_equal aa_ bb_ S_ v_) (h0_ : (sx_W w_).1 3 0 = false := by rfl) (h1_ : (sx_W w_).1 3 1 = false := by rfl) (h3_ : (sx_W w_).1 3 3 = false := by rfl) (h5_ : (sx_W w_).1 3 5 = false := by rfl) (h7_ : (sx_W w_).2.1 47 = false := by rfl) : okc_equal aa_ bb_ S'_ ∧ spc_equal aa_ bb_ S'_ v_ := by
  unfold okc_equal oka_equal spc_equal at *
  rw [g_.1 3 aa_.toNat 0 h0_, g_.1 3 bb_.toNat 0 h0_, g_.1 3 aa_.toNat 1 h1_, g_.1 3 bb_.toNat 1 h1_, g_.1 3 aa_.toNat 3 h3_, g_.1 3 bb_.toNat 3 h3_, g_.1 3 aa_.toNat 5 h5_, g_.1 3 bb_.toNat 5 h5_, fr_arr (t := 47) (i := 0 + aa_.toNat) g_ h7_, fr_arr (t := 47) (i := 0 + bb_.toNat) g_ h7_]
  exact h_
/-! ChipFlow.equal -/
def vw_227t : sx_Wl := ([(12, 16)], [113, 114, 115, 117], [])
def vq_227t (aa_ : Int) (bb_ : Int) (S0_ : sm_S) (u_ : Option sm_V) (S1_ : sm_S) : Prop := ∃ v_ : Int, u_ = some (.inl v_) ∧ gi S1_ ∧ ai_fr (sx_W vw_227t) S0_ S1_ ∧ (jC S1_ ∧ okc_equal aa_ bb_ S1_ ∧ spc_equal aa_ bb_ S1_ v_)
def vx_227t (aa_ : Int) (bb_ : Int) (S0_ : sm_S) (ex_ : Nat) (S1_ : sm_S) : Prop := gi S1_ ∧ ai_fr (sx_W vw_227t) S0_ S1_ ∧ (S1_ = S0_ ∧ ((ex_ = 0 ∧ ¬ oka_equal aa_ bb_ S0_) ∨ (ex_ = 1 ∧ oka_equal aa_ bb_ S0_ ∧ ¬ okc_equal aa_ bb_ S0_)))
set_option maxHeartbeats 400000 in
theorem vc_227t {sc_ : Nat × (Nat → Int)} (aa_ : Int) (bb_ : Int) (S0_ : sm_S) (hI_ : gi S0_) (hJ_ : jC S0_) : sm_T (mt_P sc_) 2 227 (0, [some (.inr (.inr (some (12, 0)))), some (.inl aa_), some (.inl bb_), none, none], [], S0_) (fun ro9_ => (∃ u_ S1_, ro9_ = (.inl u_, S1_, 0) ∧ vq_227t aa_ bb_ S0_ u_ S1_) ∨ ∃ ex_ S1_, ro9_ = (.inr ex_, S1_, 1) ∧ ex_ ∈ ([0, 1] : List Nat) ∧ vx_227t aa_ bb_ S0_ ex_ S1_) := by
  have hF_ : ai_fr (sx_W vw_227t) S0_ S0_ := ai_fr_rf
  refine sm_T_go 2 (c1 := (2, [some (.inr (.inr (some (12, 0)))), some (.inl aa_), some (.inl bb_), none, none], [.inl aa_, .inr (.inr (some (12, 0)))], S0_)) rfl ?_
  refine sm_T_cale (d1_ := 1) (Q1_ := vq_270t aa_ S0_) (Q2_ := (fun ex_ S1_ => ex_ ∈ ([0] : List Nat) ∧ vx_270t aa_ S0_ S1_)) rfl rfl (by decide) (vc_270t aa_ S0_ hI_ ) rfl (fun xx6_ Sx1_ px4_ => ?_) (fun u_ Sx1_ px4_ => ?_)
  · obtain ⟨px4m, hIx2_, hFx3_, px4_⟩ := px4_
    refine Or.inr ⟨_, _, rfl, by first | exact px4m | (simp only [List.mem_cons, List.not_mem_nil, or_false] at px4m ⊢; omega), hIx2_, ai_fr_tr hF_ (fr_le hFx3_ rfl), ?_⟩
    exact ⟨px4_.1, Or.inl ⟨List.mem_singleton.mp px4m, fun y9_ => px4_.2 y9_.1⟩⟩
  obtain ⟨rfl, -, -, rfl, px4_⟩ := px4_
  have d1_ := px4_
  have k1_ := hJ_.1 aa_.toNat (by omega) d1_.2
  have b1_ := dOk_b k1_
  have x1_ := b1_.1
  have y1_ := b1_.2.1
  refine sm_T_go 3 (c1 := (8, [some (.inr (.inr (some (12, 0)))), some (.inl aa_), some (.inl bb_), some (.inr (.inr (some (3, aa_.toNat)))), none], [.inl bb_, .inr (.inr (some (12, 0)))], S0_)) rfl ?_
  refine sm_T_cale (d1_ := 1) (Q1_ := vq_270t bb_ S0_) (Q2_ := (fun ex_ S1_ => ex_ ∈ ([0] : List Nat) ∧ vx_270t bb_ S0_ S1_)) rfl rfl (by decide) (vc_270t bb_ S0_ hI_ ) rfl (fun xx12_ Sx7_ px10_ => ?_) (fun u_ Sx7_ px10_ => ?_)
  · obtain ⟨px10m, hIx8_, hFx9_, px10_⟩ := px10_
    refine Or.inr ⟨_, _, rfl, by first | exact px10m | (simp only [List.mem_cons, List.not_mem_nil, or_false] at px10m ⊢; omega), hIx8_, ai_fr_tr hF_ (fr_le hFx9_ rfl), ?_⟩
    exact ⟨px10_.1, Or.inl ⟨List.mem_singleton.mp px10m, fun y9_ => px10_.2 y9_.2⟩⟩
  obtain ⟨rfl, -, -, rfl, px10_⟩ := px10_
  have d2_ := px10_
  have k2_ := hJ_.1 bb_.toNat (by omega) d2_.2
  have b2_ := dOk_b k2_
  have x2_ := b2_.1
  have y2_ := b2_.2.1
  have bx13_ : 0 ≤ S0_.1 3 aa_.toNat 1 ∧ S0_.1 3 aa_.toNat 1 ≤ 320 := hI_.1 3 aa_.toNat 1 rfl
  have bx14_ : 0 ≤ S0_.1 3 bb_.toNat 1 ∧ S0_.1 3 bb_.toNat 1 ≤ 320 := hI_.1 3 bb_.toNat 1 rfl
  refine sm_T_go 5 (c1 := (22, [some (.inr (.inr (some (12, 0)))), some (.inl aa_), some (.inl bb_), some (.inr (.inr (some (3, aa_.toNat)))), some (.inr (.inr (some (3, bb_.toNat))))], [.inl (S0_.1 3 bb_.toNat 1), .inl (S0_.1 3 aa_.toNat 1)], S0_)) rfl ?_
  refine sm_T_br (a := 1) (z := 19) rfl (fun cx15_ => ?_) (fun cx15_ => ?_)
  · have cx15_ : (S0_.1 3 aa_.toNat 1) ≠ (S0_.1 3 bb_.toNat 1) := of_decide_eq_true cx15_
    refine sm_T_go 1 (c1 := (42, [some (.inr (.inr (some (12, 0)))), some (.inl aa_), some (.inl bb_), some (.inr (.inr (some (3, aa_.toNat)))), some (.inr (.inr (some (3, bb_.toNat))))], [.inl 0], S0_)) rfl ?_
    refine sm_T_cale (d1_ := 0) (Q1_ := vq_266e 0 S0_) (Q2_ := (fun ex_ S1_ => ex_ ∈ ([1] : List Nat) ∧ vx_266e 0 S0_ S1_)) rfl rfl (by decide) (vc_266e 0 S0_ hI_ ) rfl (fun xx21_ Sx16_ px19_ => ?_) (fun u_ Sx16_ px19_ => ?_)
    · obtain ⟨px19m, hIx17_, hFx18_, px19_⟩ := px19_
      refine Or.inr ⟨_, _, rfl, by first | exact px19m | (simp only [List.mem_cons, List.not_mem_nil, or_false] at px19m ⊢; omega), hIx17_, ai_fr_tr hF_ (fr_le hFx18_ rfl), ?_⟩
      first | exact ⟨px19_.2, Or.inl ⟨List.mem_singleton.mp px19m, by (have y9_ := px19_.1; unfold oka_equal; omega)⟩⟩ | exact ⟨px19_.2, Or.inr ⟨List.mem_singleton.mp px19m, by (unfold oka_equal; omega), by (have y9_ := px19_.1; unfold okc_equal oka_equal; omega)⟩⟩
    · exact absurd rfl px19_.2.2.2.1
  · have cx15_ : ¬ ((S0_.1 3 aa_.toNat 1) ≠ (S0_.1 3 bb_.toNat 1)) := of_decide_eq_false cx15_
    have bx22_ : 0 ≤ S0_.1 3 aa_.toNat 3 ∧ S0_.1 3 aa_.toNat 3 ≤ 320 := hI_.1 3 aa_.toNat 3 rfl
    have bx23_ : 0 ≤ S0_.1 3 bb_.toNat 3 ∧ S0_.1 3 bb_.toNat 3 ≤ 320 := hI_.1 3 bb_.toNat 3 rfl
    refine sm_T_go 4 (c1 := (34, [some (.inr (.inr (some (12, 0)))), some (.inl aa_), some (.inl bb_), some (.inr (.inr (some (3, aa_.toNat)))), some (.inr (.inr (some (3, bb_.toNat))))], [.inl (S0_.1 3 bb_.toNat 3), .inl (S0_.1 3 aa_.toNat 3)], S0_)) rfl ?_
    refine sm_T_br (a := 1) (z := 7) rfl (fun cx24_ => ?_) (fun cx24_ => ?_)
    · have cx24_ : (S0_.1 3 aa_.toNat 3) ≠ (S0_.1 3 bb_.toNat 3) := of_decide_eq_true cx24_
      refine sm_T_go 1 (c1 := (42, [some (.inr (.inr (some (12, 0)))), some (.inl aa_), some (.inl bb_), some (.inr (.inr (some (3, aa_.toNat)))), some (.inr (.inr (some (3, bb_.toNat))))], [.inl 0], S0_)) rfl ?_
      refine sm_T_cale (d1_ := 0) (Q1_ := vq_266e 0 S0_) (Q2_ := (fun ex_ S1_ => ex_ ∈ ([1] : List Nat) ∧ vx_266e 0 S0_ S1_)) rfl rfl (by decide) (vc_266e 0 S0_ hI_ ) rfl (fun xx30_ Sx25_ px28_ => ?_) (fun u_ Sx25_ px28_ => ?_)
      · obtain ⟨px28m, hIx26_, hFx27_, px28_⟩ := px28_
        refine Or.inr ⟨_, _, rfl, by first | exact px28m | (simp only [List.mem_cons, List.not_mem_nil, or_false] at px28m ⊢; omega), hIx26_, ai_fr_tr hF_ (fr_le hFx27_ rfl), ?_⟩
        first | exact ⟨px28_.2, Or.inl ⟨List.mem_singleton.mp px28m, by (have y9_ := px28_.1; unfold oka_equal; omega)⟩⟩ | exact ⟨px28_.2, Or.inr ⟨List.mem_singleton.mp px28m, by (unfold oka_equal; omega), by (have y9_ := px28_.1; unfold okc_equal oka_equal; omega)⟩⟩
      · exact absurd rfl px28_.2.2.2.1
    · have cx24_ : ¬ ((S0_.1 3 aa_.toNat 3) ≠ (S0_.1 3 bb_.toNat 3)) := of_decide_eq_false cx24_
      refine sm_T_go 2 (c1 := (42, [some (.inr (.inr (some (12, 0)))), some (.inl aa_), some (.inl bb_), some (.inr (.inr (some (3, aa_.toNat)))), some (.inr (.inr (some (3, bb_.toNat))))], [.inl 1], S0_)) rfl ?_
      refine sm_T_cale (d1_ := 0) (Q1_ := vq_266e 1 S0_) (Q2_ := (fun ex_ S1_ => ex_ ∈ ([1] : List Nat) ∧ vx_266e 1 S0_ S1_)) rfl rfl (by decide) (vc_266e 1 S0_ hI_ ) rfl (fun xx36_ Sx31_ px34_ => ?_) (fun u_ Sx31_ px34_ => ?_)
      · exact absurd px34_.2.2.2.1 (by decide)
      obtain ⟨rfl, -, -, px34_, rfl⟩ := px34_
      have bx37_ : 0 ≤ S0_.1 3 aa_.toNat 5 ∧ S0_.1 3 aa_.toNat 5 ≤ 63 := hI_.1 3 aa_.toNat 5 rfl
      refine sm_T_go 6 (c1 := (56, [some (.inr (.inr (some (12, 0)))), some (.inl aa_), some (.inl bb_), some (.inr (.inr (some (3, aa_.toNat)))), some (.inr (.inr (some (3, bb_.toNat))))], [.inr (.inr (some (3, bb_.toNat))), .inl (S0_.1 3 aa_.toNat 5), .inr (.inr (some (47, (0 + aa_.toNat)))), .inr (.inr (some (12, 0)))], S0_)) rfl ?_
      refine sm_T_nt (u := some (.inl 65535)) (S1 := S0_) rfl rfl rfl ?_
      refine sm_T_cal (d1 := 1) (Q1 := vq_276dw (S0_.1 3 aa_.toNat 5) 65535 aa_.toNat bb_.toNat (S0_.1 3 aa_.toNat 2).toNat S0_) rfl rfl (by decide) (vc_276dw (S0_.1 3 aa_.toNat 5) 65535 aa_.toNat bb_.toNat (S0_.1 3 aa_.toNat 2).toNat S0_ hI_ (by exact k2_) (by exact b1_.2.2.1) (by omega) (by exact b1_.2.2.2.2)) (fun u_ Sx38_ px41_ => ?_)
      obtain ⟨vx43_, rfl, hIx39_, hFx40_, px41_⟩ := px41_
      have hFx42_ : ai_fr (sx_W vw_227t) S0_ Sx38_ := ai_fr_tr hF_ (fr_le hFx40_ rfl)
      have ex44_ : Sx38_.1 3 bb_.toNat 1 = S0_.1 3 bb_.toNat 1 := hFx40_.1 3 bb_.toNat 1 rfl
      have ex45_ : Sx38_.1 3 aa_.toNat 1 = S0_.1 3 aa_.toNat 1 := hFx40_.1 3 aa_.toNat 1 rfl
      have ex46_ : Sx38_.1 3 bb_.toNat 3 = S0_.1 3 bb_.toNat 3 := hFx40_.1 3 bb_.toNat 3 rfl
      have ex47_ : Sx38_.1 3 aa_.toNat 5 = S0_.1 3 aa_.toNat 5 := hFx40_.1 3 aa_.toNat 5 rfl
      have ex48_ : Sx38_.1 3 aa_.toNat 3 = S0_.1 3 aa_.toNat 3 := hFx40_.1 3 aa_.toNat 3 rfl
      have e58_ := px41_
      refine sm_T_ri rfl (Or.inl ⟨_, _, rfl, _, rfl, hIx39_, hFx42_, ?_⟩)
      exact ⟨jC_fr hJ_ hFx42_ (by decide) (by decide) (by decide) (by decide) (by decide) rfl rfl rfl rfl rfl rfl, spc_eq hFx42_ ⟨by (unfold okc_equal oka_equal; omega), e58_⟩⟩
def okc_never (bb_ k_ : Int) (S_ : sm_S) : Prop := (0 ≤ bb_ ∧ bb_ < 6 ∧ S_.1 3 bb_.toNat 0 = 1) ∧ (0 ≤ k_ ∧ k_ < S_.1 3 bb_.toNat 3)
def spc_never (bb_ k_ : Int) (S_ : sm_S) (v_ : Int) : Prop := bfsp (S_.1 3 bb_.toNat 1).toNat (cmD (S_.2.2.1 116 0) (S_.2.2.1 47 (0 + bb_.toNat)) (i_shl 1 k_)) (nx6 (S_.2.2.1 116 0)) (nx6 (S_.2.2.1 47 (0 + bb_.toNat))) 0 (S_.1 3 bb_.toNat 5).toNat v_
theorem spc_nv {w_ : sx_Wl} {bb_ k_ v_ : Int} {S_ S'_ : sm_S} (g_ : ai_fr (sx_W w_) S_ S'_) (h_ : okc_never bb_ k_ S_ ∧ spc_never bb_ k_ S_ v_) (h0_ : (sx_W w_).1 3 0 = false := by rfl) (h1_ : (sx_W w_).1 3 1 = false := by rfl) (h3_ : (sx_W w_).1 3 3 = false := by rfl) (h5_ : (sx_W w_).1 3 5 = false := by rfl) (h7_ : (sx_W w_).2.1 47 = false := by rfl) (h8_ : (sx_W w_).2.1 116 = false := by rfl) : okc_never bb_ k_ S'_ ∧ spc_never bb_ k_ S'_ v_ := by
  unfold okc_never spc_never at *
  rw [g_.1 3 bb_.toNat 0 h0_, g_.1 3 bb_.toNat 1 h1_, g_.1 3 bb_.toNat 3 h3_, g_.1 3 bb_.toNat 5 h5_, fr_arr (t := 47) (i := 0 + bb_.toNat) g_ h7_, fr_arr (t := 116) (i := 0) g_ h8_]
  exact h_
/-! ChipFlow.never -/
def vw_228t : sx_Wl := ([(12, 16)], [113, 114, 115, 117], [])
def vq_228t (bb_ : Int) (k_ : Int) (S0_ : sm_S) (u_ : Option sm_V) (S1_ : sm_S) : Prop := ∃ v_ : Int, u_ = some (.inl v_) ∧ gi S1_ ∧ ai_fr (sx_W vw_228t) S0_ S1_ ∧ (jC S1_ ∧ okc_never bb_ k_ S1_ ∧ spc_never bb_ k_ S1_ v_)
def vx_228t (bb_ : Int) (k_ : Int) (S0_ : sm_S) (S1_ : sm_S) : Prop := gi S1_ ∧ ai_fr (sx_W vw_228t) S0_ S1_ ∧ (S1_ = S0_ ∧ ¬ okc_never bb_ k_ S0_)
set_option maxHeartbeats 400000 in
theorem vc_228t {sc_ : Nat × (Nat → Int)} (bb_ : Int) (k_ : Int) (S0_ : sm_S) (hI_ : gi S0_) (hJ_ : jC S0_) : sm_T (mt_P sc_) 2 228 (0, [some (.inr (.inr (some (12, 0)))), some (.inl bb_), some (.inl k_), none], [], S0_) (fun ro9_ => (∃ u_ S1_, ro9_ = (.inl u_, S1_, 0) ∧ vq_228t bb_ k_ S0_ u_ S1_) ∨ ∃ ex_ S1_, ro9_ = (.inr ex_, S1_, 1) ∧ ex_ ∈ ([0] : List Nat) ∧ vx_228t bb_ k_ S0_ S1_) := by
  have hF_ : ai_fr (sx_W vw_228t) S0_ S0_ := ai_fr_rf
  refine sm_T_go 2 (c1 := (2, [some (.inr (.inr (some (12, 0)))), some (.inl bb_), some (.inl k_), none], [.inl bb_, .inr (.inr (some (12, 0)))], S0_)) rfl ?_
  refine sm_T_cale (d1_ := 1) (Q1_ := vq_270t bb_ S0_) (Q2_ := (fun ex_ S1_ => ex_ ∈ ([0] : List Nat) ∧ vx_270t bb_ S0_ S1_)) rfl rfl (by decide) (vc_270t bb_ S0_ hI_ ) rfl (fun xx6_ Sx1_ px4_ => ?_) (fun u_ Sx1_ px4_ => ?_)
  · obtain ⟨px4m, hIx2_, hFx3_, px4_⟩ := px4_
    refine Or.inr ⟨_, _, rfl, by first | exact px4m | (simp only [List.mem_cons, List.not_mem_nil, or_false] at px4m ⊢; omega), hIx2_, ai_fr_tr hF_ (fr_le hFx3_ rfl), ?_⟩
    exact ⟨px4_.1, fun y9_ => px4_.2 y9_.1⟩
  obtain ⟨rfl, -, -, rfl, px4_⟩ := px4_
  have d2_ := px4_
  have k2_ := hJ_.1 bb_.toNat (by omega) d2_.2
  have b2_ := dOk_b k2_
  have x2_ := b2_.1
  have y2_ := b2_.2.1
  refine sm_T_go 2 (c1 := (7, [some (.inr (.inr (some (12, 0)))), some (.inl bb_), some (.inl k_), some (.inr (.inr (some (3, bb_.toNat))))], [.inl k_], S0_)) rfl ?_
  refine sm_T_b0 (a := 2) (z := 15) rfl (fun cx7_ => ?_) (fun cx7_ => ?_)
  · have cx7_ : k_ < 0 := of_decide_eq_true cx7_
    refine sm_T_go 1 (c1 := (23, [some (.inr (.inr (some (12, 0)))), some (.inl bb_), some (.inl k_), some (.inr (.inr (some (3, bb_.toNat))))], [.inl 0], S0_)) rfl ?_
    refine sm_T_cale (d1_ := 0) (Q1_ := vq_265e 0 S0_) (Q2_ := (fun ex_ S1_ => ex_ ∈ ([0] : List Nat) ∧ vx_265e 0 S0_ S1_)) rfl rfl (by decide) (vc_265e 0 S0_ hI_ ) rfl (fun xx13_ Sx8_ px11_ => ?_) (fun u_ Sx8_ px11_ => ?_)
    · obtain ⟨px11m, hIx9_, hFx10_, px11_⟩ := px11_
      refine Or.inr ⟨_, _, rfl, by first | exact px11m | (simp only [List.mem_cons, List.not_mem_nil, or_false] at px11m ⊢; omega), hIx9_, ai_fr_tr hF_ (fr_le hFx10_ rfl), ?_⟩
      exact ⟨px11_.2, by (have y9_ := px11_.1; unfold okc_never; omega)⟩
    · exact absurd rfl px11_.2.2.2.1
  · have cx7_ : ¬ (k_ < 0) := of_decide_eq_false cx7_
    have bx14_ : 0 ≤ S0_.1 3 bb_.toNat 3 ∧ S0_.1 3 bb_.toNat 3 ≤ 320 := hI_.1 3 bb_.toNat 3 rfl
    refine sm_T_go 3 (c1 := (15, [some (.inr (.inr (some (12, 0)))), some (.inl bb_), some (.inl k_), some (.inr (.inr (some (3, bb_.toNat))))], [.inl (S0_.1 3 bb_.toNat 3), .inl k_], S0_)) rfl ?_
    refine sm_T_br (a := 3) (z := 7) rfl (fun cx15_ => ?_) (fun cx15_ => ?_)
    · have cx15_ : (S0_.1 3 bb_.toNat 3) ≤ k_ := of_decide_eq_true cx15_
      refine sm_T_go 1 (c1 := (23, [some (.inr (.inr (some (12, 0)))), some (.inl bb_), some (.inl k_), some (.inr (.inr (some (3, bb_.toNat))))], [.inl 0], S0_)) rfl ?_
      refine sm_T_cale (d1_ := 0) (Q1_ := vq_265e 0 S0_) (Q2_ := (fun ex_ S1_ => ex_ ∈ ([0] : List Nat) ∧ vx_265e 0 S0_ S1_)) rfl rfl (by decide) (vc_265e 0 S0_ hI_ ) rfl (fun xx21_ Sx16_ px19_ => ?_) (fun u_ Sx16_ px19_ => ?_)
      · obtain ⟨px19m, hIx17_, hFx18_, px19_⟩ := px19_
        refine Or.inr ⟨_, _, rfl, by first | exact px19m | (simp only [List.mem_cons, List.not_mem_nil, or_false] at px19m ⊢; omega), hIx17_, ai_fr_tr hF_ (fr_le hFx18_ rfl), ?_⟩
        exact ⟨px19_.2, by (have y9_ := px19_.1; unfold okc_never; omega)⟩
      · exact absurd rfl px19_.2.2.2.1
    · have cx15_ : ¬ ((S0_.1 3 bb_.toNat 3) ≤ k_) := of_decide_eq_false cx15_
      refine sm_T_go 2 (c1 := (23, [some (.inr (.inr (some (12, 0)))), some (.inl bb_), some (.inl k_), some (.inr (.inr (some (3, bb_.toNat))))], [.inl 1], S0_)) rfl ?_
      refine sm_T_cale (d1_ := 0) (Q1_ := vq_265e 1 S0_) (Q2_ := (fun ex_ S1_ => ex_ ∈ ([0] : List Nat) ∧ vx_265e 1 S0_ S1_)) rfl rfl (by decide) (vc_265e 1 S0_ hI_ ) rfl (fun xx27_ Sx22_ px25_ => ?_) (fun u_ Sx22_ px25_ => ?_)
      · exact absurd px25_.2.2.2.1 (by decide)
      obtain ⟨rfl, -, -, px25_, rfl⟩ := px25_
      refine sm_T_go 7 (c1 := (35, [some (.inr (.inr (some (12, 0)))), some (.inl bb_), some (.inl k_), some (.inr (.inr (some (3, bb_.toNat))))], [.inl k_, .inl 1, .inr (.inr (some (3, bb_.toNat))), .inl 0, .inr (.inr (some (116, 0))), .inr (.inr (some (12, 0)))], S0_)) rfl ?_
      refine sm_T_bin (w := (i_shl 1 k_)) rfl rfl ?_ -- pc_ 35
      have bx28_ := i_shl1 (e := k_) (by omega) (by omega)
      refine sm_T_cal (d1 := 1) (Q1 := vq_276sw 0 (i_shl 1 k_) bb_.toNat 0 S0_) rfl rfl (by decide) (vc_276sw 0 (i_shl 1 k_) bb_.toNat 0 S0_ hI_ (by exact k2_) (by decide) (by omega) (by (intro p9_ _; have z9_ := hI_.2 116 0 p9_; exact ⟨z9_.1, by have z8_ := z9_.2; exact Int.lt_of_le_of_lt z8_ (by decide)⟩))) (fun u_ Sx29_ px32_ => ?_)
      obtain ⟨vx34_, rfl, hIx30_, hFx31_, px32_⟩ := px32_
      have hFx33_ : ai_fr (sx_W vw_228t) S0_ Sx29_ := ai_fr_tr hF_ (fr_le hFx31_ rfl)
      have ex35_ : Sx29_.1 3 bb_.toNat 3 = S0_.1 3 bb_.toNat 3 := hFx31_.1 3 bb_.toNat 3 rfl
      have e36_ := px32_
      refine sm_T_ri rfl (Or.inl ⟨_, _, rfl, _, rfl, hIx30_, hFx33_, ?_⟩)
      exact ⟨jC_fr hJ_ hFx33_ (by decide) (by decide) (by decide) (by decide) (by decide) rfl rfl rfl rfl rfl rfl, spc_nv hFx33_ ⟨by (unfold okc_never; omega), e36_⟩⟩
