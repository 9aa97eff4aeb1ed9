/-! 99.zr4 -/
section
/-! the reference: chips run; written by wip/p55/gen/vg -/

/-! the_ reference: chips run_ -/
theorem cgt_fr {w_ : sx_Wl} {c_ : Int} {S_ S'_ : sm_S} (hc_ : 0 ≤ c_) (hI_ : gi S'_) (h_ : cgt c_ S_) (g_ : ai_fr (sx_W w_) S_ S'_) (r_ : rwf w_ = true := by rfl) : cgt c_ S'_ := cgt_sl hc_ (scp_q hc_ hI_ (sle_fr g_ r_)) h_ (sle_fr g_ r_)
theorem con_fr {w_ : sx_Wl} {c_ : Int} {S_ S'_ : sm_S} (hc_ : 0 ≤ c_) (hI_ : gi S'_) (h_ : con c_ S_) (g_ : ai_fr (sx_W w_) S_ S'_) (r_ : rwf w_ = true := by rfl) : con c_ S'_ := con_sl hc_ (scp_q hc_ hI_ (sle_fr g_ r_)) h_ (sle_fr g_ r_)
theorem jR_rn {c_ v_ : Int} {S_ : sm_S} (h_ : jR S_) (hc_ : 0 ≤ c_ ∧ c_ < 4) (hI_ : gi (sm_aI S_ 227 0 c_.toNat v_)) (hv_ : v_ < 2 ^ (S_.2.2.1 224 0 c_.toNat).toNat) : jR (sm_aI S_ 227 0 c_.toNat v_) := by
  have fx : ai_fr (sx_W ([], [227], [])) S_ (sm_aI S_ 227 0 c_.toNat v_) := ai_fr_aI rfl
  refine jR_cf (a_ := c_.toNat) h_ hI_ fx rfl (rcf_aI rcf_rf (Or.inr (by rw [show rcs 227 = 1 from rfl]; omega))) (fun z_ => ?_)
  rw [fr_arr (t := 222) fx rfl] at z_
  obtain ⟨h1_, h2_, h3_, h4_, h5_, h6_, h7_⟩ := h_.2 c_ hc_.1 hc_.2 z_
  rw [show ((c_.toNat : Nat) : Int) = c_ by omega]
  unfold cRk cgt con cpl csz at *
  rw [fr_arr (t := 223) fx rfl, fr_arr (t := 224) fx rfl, fr_arr (t := 225) fx rfl, fr_arr (t := 226) fx rfl, fr_arr (t := 228) fx rfl, fr_arr (t := 229) fx rfl, fr_arr (t := 230) fx rfl, fr_arr (t := 231) fx rfl, fr_arr (t := 232) fx rfl, fr_arr (t := 234) fx rfl, fr_arr (t := 239) fx rfl, fr_arr (t := 240) fx rfl, fr_arr (t := 241) fx rfl, fr_arr (t := 242) fx rfl, fr_arr (t := 251) fx rfl, rd_eq, if_pos rfl]
  exact ⟨h1_, h2_, hv_, h4_, h5_, h6_, h7_⟩
theorem jR_al {c_ g_ k_ : Int} {S_ : sm_S} (h_ : jR S_) (hc_ : 0 ≤ c_ ∧ c_ < 4) (hg_ : 0 ≤ g_ ∧ g_ < 150) (hI_ : gi (sm_aI S_ 229 0 (150 * c_ + g_).toNat k_)) (e_ : S_.2.2.1 234 0 (12 * c_ + k_).toNat = S_.2.2.1 234 0 (12 * c_ + S_.2.2.1 229 0 (150 * c_ + g_).toNat).toNat) : jR (sm_aI S_ 229 0 (150 * c_ + g_).toNat k_) := by
  have fx : ai_fr (sx_W ([], [229], [])) S_ (sm_aI S_ 229 0 (150 * c_ + g_).toNat k_) := ai_fr_aI rfl
  refine jR_cf (a_ := c_.toNat) h_ hI_ fx rfl (rcf_aI rcf_rf (Or.inr (by rw [show rcs 229 = 150 from rfl]; omega))) (fun z_ => ?_)
  rw [fr_arr (t := 222) fx rfl] at z_
  obtain ⟨h1_, h2_, h3_, h4_, h5_, h6_, h7_⟩ := h_.2 c_ hc_.1 hc_.2 z_
  rw [show ((c_.toNat : Nat) : Int) = c_ by omega]
  have key_ : ∀ j_ : Nat, S_.2.2.1 234 0 (12 * c_ + (sm_aI S_ 229 0 (150 * c_ + g_).toNat k_).2.2.1 229 0 j_).toNat = S_.2.2.1 234 0 (12 * c_ + S_.2.2.1 229 0 j_).toNat := fun j_ => by
    rw [rd_eq]
    split
    · rename_i q_
      rw [q_]
      exact e_
    · rfl
  unfold cRk cgt con cpl csz at *
  rw [fr_arr (t := 223) fx rfl, fr_arr (t := 224) fx rfl, fr_arr (t := 225) fx rfl, fr_arr (t := 226) fx rfl, fr_arr (t := 227) fx rfl, fr_arr (t := 228) fx rfl, fr_arr (t := 230) fx rfl, fr_arr (t := 231) fx rfl, fr_arr (t := 232) fx rfl, fr_arr (t := 234) fx rfl, fr_arr (t := 239) fx rfl, fr_arr (t := 240) fx rfl, fr_arr (t := 241) fx rfl, fr_arr (t := 242) fx rfl, fr_arr (t := 251) fx rfl]
  simp only [key_]
  exact ⟨h1_, h2_, h3_, h4_, h5_, h6_, h7_⟩
/-! M_.cellOf -/
def vw_421 : sx_Wl := ([], [], [])
def vq_421 (c_ : Int) (g_ : Int) (S0_ : sm_S) (u_ : Option sm_V) (S1_ : sm_S) : Prop := S0_ = S1_ ∧ ∃ v_ : Int, u_ = some (.inl v_) ∧ ((0 ≤ v_ ∧ v_ ≤ 47) ∧ (v_ = 12 * c_ + (S0_.2.2.1 229 0 (150 * c_ + g_).toNat)))
set_option maxHeartbeats 400000 in
set_option maxRecDepth 20000 in
theorem vc_421 {sc_ : Nat × (Nat → Int)} (c_ : Int) (g_ : Int) (S0_ : sm_S) (hI_ : gi S0_) (hc_ : 0 ≤ c_ ∧ c_ ≤ 3) (hg_ : 0 ≤ g_ ∧ g_ ≤ 149) : sm_T (mt_P sc_) 0 421 (0, [some (.inr (.inr (some (13, 0)))), some (.inl c_), some (.inl g_)], [], S0_) (fun ro9_ => ∃ u_ S1_, ro9_ = (.inl u_, S1_, 0) ∧ vq_421 c_ g_ S0_ u_ S1_) := by
  have hF_ : ai_fr (sx_W vw_421) S0_ S0_ := ai_fr_rf
  refine sm_T_go 2 (c1 := (3, [some (.inr (.inr (some (13, 0)))), some (.inl c_), some (.inl g_)], [.inl c_, .inl 12], S0_)) rfl ?_
  refine sm_T_bin (w := 12 * c_) rfl (bi_mul (by omega) (by omega) (by omega)) ?_ -- pc_ 3
  refine sm_T_go 4 (c1 := (12, [some (.inr (.inr (some (13, 0)))), some (.inl c_), some (.inl g_)], [.inl c_, .inl 150, .inr (.inr (some (229, 0))), .inl (12 * c_)], S0_)) rfl ?_
  refine sm_T_bin (w := 150 * c_) rfl (bi_mul (by omega) (by omega) (by omega)) ?_ -- pc_ 12
  refine sm_T_go 1 (c1 := (14, [some (.inr (.inr (some (13, 0)))), some (.inl c_), some (.inl g_)], [.inl g_, .inl (150 * c_), .inr (.inr (some (229, 0))), .inl (12 * c_)], S0_)) rfl ?_
  refine sm_T_bin (w := 150 * c_ + g_) rfl (bi_add (by omega) (by omega) (by omega)) ?_ -- pc_ 14
  refine sm_T_iald (n := 600) rfl rfl (by omega) (by omega) ?_
  have bx1_ : 0 ≤ S0_.2.2.1 229 0 (150 * c_ + g_).toNat ∧ S0_.2.2.1 229 0 (150 * c_ + g_).toNat ≤ 11 := hI_.2 229 0 _
  refine sm_T_bin (w := 12 * c_ + (S0_.2.2.1 229 0 (150 * c_ + g_).toNat)) rfl (bi_add (by omega) (by omega) (by omega)) ?_ -- pc_ 16
  refine sm_T_ri rfl ⟨_, _, rfl, rfl, _, rfl, ?_⟩
  first | (refine ⟨⟨?_, ?_⟩, rfl⟩ <;> omega) | omega | (refine ⟨by omega, ?_⟩; omega)
/-! M_.netCount -/
def vw_422 : sx_Wl := ([], [], [])
def vq_422 (c_ : Int) (S0_ : sm_S) (u_ : Option sm_V) (S1_ : sm_S) : Prop := S0_ = S1_ ∧ ∃ v_ : Int, u_ = some (.inl v_) ∧ ((0 ≤ v_ ∧ v_ ≤ 168) ∧ (v_ = (S0_.2.2.1 223 0 c_.toNat) + (S0_.2.2.1 224 0 c_.toNat) + (S0_.2.2.1 228 0 c_.toNat)))
set_option maxHeartbeats 400000 in
set_option maxRecDepth 20000 in
theorem vc_422 {sc_ : Nat × (Nat → Int)} (c_ : Int) (S0_ : sm_S) (hI_ : gi S0_) (hc_ : 0 ≤ c_ ∧ c_ ≤ 3) : sm_T (mt_P sc_) 0 422 (0, [some (.inr (.inr (some (13, 0)))), some (.inl c_)], [], S0_) (fun ro9_ => ∃ u_ S1_, ro9_ = (.inl u_, S1_, 0) ∧ vq_422 c_ S0_ u_ S1_) := by
  have hF_ : ai_fr (sx_W vw_422) S0_ S0_ := ai_fr_rf
  refine sm_T_go 3 (c1 := (5, [some (.inr (.inr (some (13, 0)))), some (.inl c_)], [.inl c_, .inr (.inr (some (223, 0)))], S0_)) rfl ?_
  refine sm_T_iald (n := 4) rfl rfl (by omega) (by omega) ?_
  have bx1_ : 0 ≤ S0_.2.2.1 223 0 c_.toNat ∧ S0_.2.2.1 223 0 c_.toNat ≤ 12 := hI_.2 223 0 _
  refine sm_T_go 3 (c1 := (11, [some (.inr (.inr (some (13, 0)))), some (.inl c_)], [.inl c_, .inr (.inr (some (224, 0))), .inl (S0_.2.2.1 223 0 c_.toNat)], S0_)) rfl ?_
  refine sm_T_iald (n := 4) rfl rfl (by omega) (by omega) ?_
  have bx2_ : 0 ≤ S0_.2.2.1 224 0 c_.toNat ∧ S0_.2.2.1 224 0 c_.toNat ≤ 6 := hI_.2 224 0 _
  refine sm_T_bin (w := (S0_.2.2.1 223 0 c_.toNat) + (S0_.2.2.1 224 0 c_.toNat)) rfl (bi_add (by omega) (by omega) (by omega)) ?_ -- pc_ 12
  refine sm_T_go 3 (c1 := (18, [some (.inr (.inr (some (13, 0)))), some (.inl c_)], [.inl c_, .inr (.inr (some (228, 0))), .inl ((S0_.2.2.1 223 0 c_.toNat) + (S0_.2.2.1 224 0 c_.toNat))], S0_)) rfl ?_
  refine sm_T_iald (n := 4) rfl rfl (by omega) (by omega) ?_
  have bx3_ : 0 ≤ S0_.2.2.1 228 0 c_.toNat ∧ S0_.2.2.1 228 0 c_.toNat ≤ 150 := hI_.2 228 0 _
  refine sm_T_bin (w := (S0_.2.2.1 223 0 c_.toNat) + (S0_.2.2.1 224 0 c_.toNat) + (S0_.2.2.1 228 0 c_.toNat)) rfl (bi_add (by omega) (by omega) (by omega)) ?_ -- pc_ 19
  refine sm_T_ri rfl ⟨_, _, rfl, rfl, _, rfl, ?_⟩
  first | (refine ⟨⟨?_, ?_⟩, rfl⟩ <;> omega) | omega | (refine ⟨by omega, ?_⟩; omega)
/-! M_.elements -/
def vw_423 : sx_Wl := ([], [], [])
def vq_423 (c_ : Int) (S0_ : sm_S) (u_ : Option sm_V) (S1_ : sm_S) : Prop := S0_ = S1_ ∧ ∃ v_ : Int, u_ = some (.inl v_) ∧ ((0 ≤ v_ ∧ v_ ≤ 156) ∧ (v_ = (S0_.2.2.1 224 0 c_.toNat) + (S0_.2.2.1 228 0 c_.toNat)))
set_option maxHeartbeats 400000 in
set_option maxRecDepth 20000 in
theorem vc_423 {sc_ : Nat × (Nat → Int)} (c_ : Int) (S0_ : sm_S) (hI_ : gi S0_) (hc_ : 0 ≤ c_ ∧ c_ ≤ 3) : sm_T (mt_P sc_) 0 423 (0, [some (.inr (.inr (some (13, 0)))), some (.inl c_)], [], S0_) (fun ro9_ => ∃ u_ S1_, ro9_ = (.inl u_, S1_, 0) ∧ vq_423 c_ S0_ u_ S1_) := by
  have hF_ : ai_fr (sx_W vw_423) S0_ S0_ := ai_fr_rf
  refine sm_T_go 3 (c1 := (5, [some (.inr (.inr (some (13, 0)))), some (.inl c_)], [.inl c_, .inr (.inr (some (224, 0)))], S0_)) rfl ?_
  refine sm_T_iald (n := 4) rfl rfl (by omega) (by omega) ?_
  have bx1_ : 0 ≤ S0_.2.2.1 224 0 c_.toNat ∧ S0_.2.2.1 224 0 c_.toNat ≤ 6 := hI_.2 224 0 _
  refine sm_T_go 3 (c1 := (11, [some (.inr (.inr (some (13, 0)))), some (.inl c_)], [.inl c_, .inr (.inr (some (228, 0))), .inl (S0_.2.2.1 224 0 c_.toNat)], S0_)) rfl ?_
  refine sm_T_iald (n := 4) rfl rfl (by omega) (by omega) ?_
  have bx2_ : 0 ≤ S0_.2.2.1 228 0 c_.toNat ∧ S0_.2.2.1 228 0 c_.toNat ≤ 150 := hI_.2 228 0 _
  refine sm_T_bin (w := (S0_.2.2.1 224 0 c_.toNat) + (S0_.2.2.1 228 0 c_.toNat)) rfl (bi_add (by omega) (by omega) (by omega)) ?_ -- pc_ 12
  refine sm_T_ri rfl ⟨_, _, rfl, rfl, _, rfl, ?_⟩
  first | (refine ⟨⟨?_, ?_⟩, rfl⟩ <;> omega) | omega | (refine ⟨by omega, ?_⟩; omega)
/-! M_.height -/
def vw_424 : sx_Wl := ([], [], [])
def vq_424 (c_ : Int) (S0_ : sm_S) (u_ : Option sm_V) (S1_ : sm_S) : Prop := S0_ = S1_ ∧ ∃ v_ : Int, u_ = some (.inl v_) ∧ ((2 ≤ v_ ∧ v_ ≤ 38) ∧ ((v_ = 3 * S0_.2.2.1 240 0 c_.toNat + 2 ∨ v_ = S0_.2.2.1 223 0 c_.toNat ∨ v_ = S0_.2.2.1 225 0 c_.toNat) ∧ 3 * S0_.2.2.1 240 0 c_.toNat + 2 ≤ v_ ∧ S0_.2.2.1 223 0 c_.toNat ≤ v_ ∧ S0_.2.2.1 225 0 c_.toNat ≤ v_))
set_option maxHeartbeats 400000 in
set_option maxRecDepth 20000 in
theorem vc_424 {sc_ : Nat × (Nat → Int)} (c_ : Int) (S0_ : sm_S) (hI_ : gi S0_) (hc_ : 0 ≤ c_ ∧ c_ ≤ 3) : sm_T (mt_P sc_) 0 424 (0, [some (.inr (.inr (some (13, 0)))), some (.inl c_), none], [], S0_) (fun ro9_ => ∃ u_ S1_, ro9_ = (.inl u_, S1_, 0) ∧ vq_424 c_ S0_ u_ S1_) := by
  have hF_ : ai_fr (sx_W vw_424) S0_ S0_ := ai_fr_rf
  refine sm_T_go 4 (c1 := (6, [some (.inr (.inr (some (13, 0)))), some (.inl c_), none], [.inl c_, .inr (.inr (some (240, 0))), .inl 3], S0_)) rfl ?_
  refine sm_T_iald (n := 4) rfl rfl (by omega) (by omega) ?_
  have bx1_ : 0 ≤ S0_.2.2.1 240 0 c_.toNat ∧ S0_.2.2.1 240 0 c_.toNat ≤ 12 := hI_.2 240 0 _
  refine sm_T_bin (w := 3 * (S0_.2.2.1 240 0 c_.toNat)) rfl (bi_mul (by omega) (by omega) (by omega)) ?_ -- pc_ 7
  refine sm_T_go 1 (c1 := (9, [some (.inr (.inr (some (13, 0)))), some (.inl c_), none], [.inl 2, .inl (3 * (S0_.2.2.1 240 0 c_.toNat))], S0_)) rfl ?_
  refine sm_T_bin (w := 3 * (S0_.2.2.1 240 0 c_.toNat) + 2) rfl (bi_add (by omega) (by omega) (by omega)) ?_ -- pc_ 9
  refine sm_T_go 4 (c1 := (16, [some (.inr (.inr (some (13, 0)))), some (.inl c_), some (.inl (3 * (S0_.2.2.1 240 0 c_.toNat) + 2))], [.inl c_, .inr (.inr (some (223, 0)))], S0_)) rfl ?_
  refine sm_T_iald (n := 4) rfl rfl (by omega) (by omega) ?_
  have bx2_ : 0 ≤ S0_.2.2.1 223 0 c_.toNat ∧ S0_.2.2.1 223 0 c_.toNat ≤ 12 := hI_.2 223 0 _
  refine sm_T_go 1 (c1 := (18, [some (.inr (.inr (some (13, 0)))), some (.inl c_), some (.inl (3 * (S0_.2.2.1 240 0 c_.toNat) + 2))], [.inl (3 * (S0_.2.2.1 240 0 c_.toNat) + 2), .inl (S0_.2.2.1 223 0 c_.toNat)], S0_)) rfl ?_
  refine sm_T_br (a := 5) (z := 12) rfl (fun cx3_ => ?_) (fun cx3_ => ?_)
  · have cx3_ : (S0_.2.2.1 223 0 c_.toNat) ≤ 3 * (S0_.2.2.1 240 0 c_.toNat) + 2 := of_decide_eq_true cx3_
    refine sm_T_go 5 (c1 := (37, [some (.inr (.inr (some (13, 0)))), some (.inl c_), some (.inl (3 * (S0_.2.2.1 240 0 c_.toNat) + 2))], [.inl c_, .inr (.inr (some (225, 0)))], S0_)) rfl ?_
    refine sm_T_iald (n := 4) rfl rfl (by omega) (by omega) ?_
    have bx4_ : 0 ≤ S0_.2.2.1 225 0 c_.toNat ∧ S0_.2.2.1 225 0 c_.toNat ≤ 16 := hI_.2 225 0 _
    refine sm_T_go 1 (c1 := (39, [some (.inr (.inr (some (13, 0)))), some (.inl c_), some (.inl (3 * (S0_.2.2.1 240 0 c_.toNat) + 2))], [.inl (3 * (S0_.2.2.1 240 0 c_.toNat) + 2), .inl (S0_.2.2.1 225 0 c_.toNat)], S0_)) rfl ?_
    refine sm_T_br (a := 5) (z := 12) rfl (fun cx5_ => ?_) (fun cx5_ => ?_)
    · have cx5_ : (S0_.2.2.1 225 0 c_.toNat) ≤ 3 * (S0_.2.2.1 240 0 c_.toNat) + 2 := of_decide_eq_true cx5_
      refine sm_T_go 1 (c1 := (52, [some (.inr (.inr (some (13, 0)))), some (.inl c_), some (.inl (3 * (S0_.2.2.1 240 0 c_.toNat) + 2))], [.inl (3 * (S0_.2.2.1 240 0 c_.toNat) + 2)], S0_)) rfl ?_
      refine sm_T_ri rfl ⟨_, _, rfl, rfl, _, rfl, ?_⟩
      refine ⟨⟨by omega, by omega⟩, ?_⟩
      omega
    · have cx5_ : ¬ ((S0_.2.2.1 225 0 c_.toNat) ≤ 3 * (S0_.2.2.1 240 0 c_.toNat) + 2) := of_decide_eq_false cx5_
      refine sm_T_go 3 (c1 := (47, [some (.inr (.inr (some (13, 0)))), some (.inl c_), some (.inl (3 * (S0_.2.2.1 240 0 c_.toNat) + 2))], [.inl c_, .inr (.inr (some (225, 0)))], S0_)) rfl ?_
      refine sm_T_iald (n := 4) rfl rfl (by omega) (by omega) ?_
      refine sm_T_go 1 (c1 := (52, [some (.inr (.inr (some (13, 0)))), some (.inl c_), some (.inl (3 * (S0_.2.2.1 240 0 c_.toNat) + 2))], [.inl (S0_.2.2.1 225 0 c_.toNat)], S0_)) rfl ?_
      refine sm_T_ri rfl ⟨_, _, rfl, rfl, _, rfl, ?_⟩
      refine ⟨⟨by omega, by omega⟩, ?_⟩
      omega
  · have cx3_ : ¬ ((S0_.2.2.1 223 0 c_.toNat) ≤ 3 * (S0_.2.2.1 240 0 c_.toNat) + 2) := of_decide_eq_false cx3_
    refine sm_T_go 3 (c1 := (26, [some (.inr (.inr (some (13, 0)))), some (.inl c_), some (.inl (3 * (S0_.2.2.1 240 0 c_.toNat) + 2))], [.inl c_, .inr (.inr (some (223, 0)))], S0_)) rfl ?_
    refine sm_T_iald (n := 4) rfl rfl (by omega) (by omega) ?_
    refine sm_T_go 5 (c1 := (37, [some (.inr (.inr (some (13, 0)))), some (.inl c_), some (.inl (S0_.2.2.1 223 0 c_.toNat))], [.inl c_, .inr (.inr (some (225, 0)))], S0_)) rfl ?_
    refine sm_T_iald (n := 4) rfl rfl (by omega) (by omega) ?_
    have bx6_ : 0 ≤ S0_.2.2.1 225 0 c_.toNat ∧ S0_.2.2.1 225 0 c_.toNat ≤ 16 := hI_.2 225 0 _
    refine sm_T_go 1 (c1 := (39, [some (.inr (.inr (some (13, 0)))), some (.inl c_), some (.inl (S0_.2.2.1 223 0 c_.toNat))], [.inl (S0_.2.2.1 223 0 c_.toNat), .inl (S0_.2.2.1 225 0 c_.toNat)], S0_)) rfl ?_
    refine sm_T_br (a := 5) (z := 12) rfl (fun cx7_ => ?_) (fun cx7_ => ?_)
    · have cx7_ : (S0_.2.2.1 225 0 c_.toNat) ≤ (S0_.2.2.1 223 0 c_.toNat) := of_decide_eq_true cx7_
      refine sm_T_go 1 (c1 := (52, [some (.inr (.inr (some (13, 0)))), some (.inl c_), some (.inl (S0_.2.2.1 223 0 c_.toNat))], [.inl (S0_.2.2.1 223 0 c_.toNat)], S0_)) rfl ?_
      refine sm_T_ri rfl ⟨_, _, rfl, rfl, _, rfl, ?_⟩
      refine ⟨⟨by omega, by omega⟩, ?_⟩
      omega
    · have cx7_ : ¬ ((S0_.2.2.1 225 0 c_.toNat) ≤ (S0_.2.2.1 223 0 c_.toNat)) := of_decide_eq_false cx7_
      refine sm_T_go 3 (c1 := (47, [some (.inr (.inr (some (13, 0)))), some (.inl c_), some (.inl (S0_.2.2.1 223 0 c_.toNat))], [.inl c_, .inr (.inr (some (225, 0)))], S0_)) rfl ?_
      refine sm_T_iald (n := 4) rfl rfl (by omega) (by omega) ?_
      refine sm_T_go 1 (c1 := (52, [some (.inr (.inr (some (13, 0)))), some (.inl c_), some (.inl (S0_.2.2.1 223 0 c_.toNat))], [.inl (S0_.2.2.1 225 0 c_.toNat)], S0_)) rfl ?_
      refine sm_T_ri rfl ⟨_, _, rfl, rfl, _, rfl, ?_⟩
      refine ⟨⟨by omega, by omega⟩, ?_⟩
      omega
/-! M_.toldBy -/
def vw_429 : sx_Wl := ([], [], [])
def vq_429 (fn_ : Int) (ip_ : Int) (la_ : Int) (lb_ : Int) (ld_ : Int) (S0_ : sm_S) (u_ : Option sm_V) (S1_ : sm_S) : Prop := ∃ v_ : Int, u_ = some (.inr (.inl v_)) ∧ gi S1_ ∧ ai_fr (sx_W vw_429) S0_ S1_ ∧ (True)
set_option maxHeartbeats 400000 in
set_option maxRecDepth 20000 in
theorem vl_429 {sc_ : Nat × (Nat → Int)} (fn_ : Int) (ip_ : Int) (la_ : Int) (lb_ : Int) (ld_ : Int) (S0_ : sm_S) (hf_ : 0 ≤ fn_ ∧ fn_ ≤ 255) (hi_ : 0 ≤ ip_ ∧ ip_ ≤ 3) : ∀ nn_ : Nat, (∀ (la_ : Int) (lb_ : Int) (ld_ : Int) (lt_ : Int) (s_ : Int) (S_ : sm_S), gi S_ → ai_fr (sx_W vw_429) S0_ S_ → ((0 ≤ s_ ∧ s_ ≤ 8) ∧ True) → ((100 - s_).toNat) < nn_ → sm_T (mt_P sc_) 0 429 (6, [some (.inl fn_), some (.inl ip_), some (.inr (.inl la_)), none, some (.inr (.inl lb_)), none, some (.inr (.inl ld_)), none, some (.inr (.inl lt_)), none, some (.inl s_), none, none], [], S_) (fun ro9_ => ∃ u_ S1_, ro9_ = (.inl u_, S1_, 0) ∧ vq_429 fn_ ip_ la_ lb_ ld_ S0_ u_ S1_)) := by
  intro nn_
  induction nn_ with
  | zero => exact fun _ _ _ _ _ _ _ _ _ h_ => absurd h_ (Nat.not_lt_zero _)
  | succ nn_ ih_ =>
    rintro la_ lb_ ld_ lt_ s_ S_ hI_ hF_ ⟨h0_, -⟩ hm_
    have s9_ := i_shl1 (e := ip_) (by omega) (by omega)
    have w9_ := pw_le (n := ip_.toNat) (m := 3) (by omega)
    refine sm_T_go 3 (c1 := (10, [some (.inl fn_), some (.inl ip_), some (.inr (.inl la_)), none, some (.inr (.inl lb_)), none, some (.inr (.inl ld_)), none, some (.inr (.inl lt_)), none, some (.inl s_), none, none], [.inl ip_, .inl 1, .inl s_], S_)) rfl ?_
    refine sm_T_bin (w := (i_shl 1 ip_)) rfl rfl ?_ -- pc_ 10
    first | have bx1_ := i_shl_1 (x_ := 1) (e_ := ip_) (by omega) (by omega) | have bx1_ := i_shl_n 1 ip_
    refine sm_T_br (a := 3) (z := 123) rfl (fun cx2_ => ?_) (fun cx2_ => ?_)
    · have cx2_ : (i_shl 1 ip_) ≤ s_ := of_decide_eq_true cx2_
      refine sm_T_go 1 (c1 := (136, [some (.inl fn_), some (.inl ip_), some (.inr (.inl la_)), none, some (.inr (.inl lb_)), none, some (.inr (.inl ld_)), none, some (.inr (.inl lt_)), none, some (.inl s_), none, none], [.inr (.inl lt_)], S_)) rfl ?_
      refine sm_T_rl rfl ⟨_, _, rfl, _, rfl, hI_, hF_, ?_⟩
      trivial
    · have cx2_ : ¬ ((i_shl 1 ip_) ≤ s_) := of_decide_eq_false cx2_
      refine sm_T_go 2 (c1 := (17, [some (.inl fn_), some (.inl ip_), some (.inr (.inl la_)), none, some (.inr (.inl lb_)), none, some (.inr (.inl ld_)), none, some (.inr (.inl lt_)), none, some (.inl s_), none, none], [.inl 1, .inl s_], S_)) rfl ?_
      refine sm_T_bin (w := (s_ % 2)) rfl (bi_msk (k := 1) (by decide)) ?_ -- pc_ 17
      refine sm_T_go 1 (c1 := (19, [some (.inl fn_), some (.inl ip_), some (.inr (.inl la_)), none, some (.inr (.inl lb_)), none, some (.inr (.inl ld_)), none, some (.inr (.inl lt_)), none, some (.inl s_), none, none], [.inl 1, .inl (s_ % 2)], S_)) rfl ?_
      refine sm_T_br (a := 1) (z := 7) rfl (fun cx3_ => ?_) (fun cx3_ => ?_)
      · have cx3_ : (s_ % 2) ≠ 1 := of_decide_eq_true cx3_
        refine sm_T_go 1 (c1 := (27, [some (.inl fn_), some (.inl ip_), some (.inr (.inl la_)), none, some (.inr (.inl lb_)), none, some (.inr (.inl ld_)), none, some (.inr (.inl lt_)), none, some (.inl s_), none, none], [.inr (.inl la_)], S_)) rfl ?_
        refine sm_T_nt (u := some (.inr (.inl (-1)))) (S1 := S_) rfl rfl rfl ?_
        refine sm_T_go 5 (c1 := (37, [some (.inl fn_), some (.inl ip_), some (.inr (.inl la_)), none, some (.inr (.inl lb_)), none, some (.inr (.inl ld_)), none, some (.inr (.inl lt_)), none, some (.inl s_), some (.inr (.inl (l_5 la_ (-1)))), none], [.inl 2, .inl ip_, .inr (.inl (l_5 la_ (-1)))], S_)) rfl ?_
        refine sm_T_br (a := 3) (z := 9) rfl (fun cx4_ => ?_) (fun cx4_ => ?_)
        · have cx4_ : 2 ≤ ip_ := of_decide_eq_true cx4_
          refine sm_T_go 2 (c1 := (49, [some (.inl fn_), some (.inl ip_), some (.inr (.inl la_)), none, some (.inr (.inl lb_)), none, some (.inr (.inl ld_)), none, some (.inr (.inl lt_)), none, some (.inl s_), some (.inr (.inl (l_5 la_ (-1)))), none], [.inl 1, .inl s_, .inr (.inl (l_5 la_ (-1)))], S_)) rfl ?_
          refine sm_T_bin (w := (s_ / 2)) rfl (bi_shr (k := 1) (by decide) (by omega) (by omega)) ?_ -- pc_ 49
          refine sm_T_go 1 (c1 := (51, [some (.inl fn_), some (.inl ip_), some (.inr (.inl la_)), none, some (.inr (.inl lb_)), none, some (.inr (.inl ld_)), none, some (.inr (.inl lt_)), none, some (.inl s_), some (.inr (.inl (l_5 la_ (-1)))), none], [.inl 1, .inl (s_ / 2), .inr (.inl (l_5 la_ (-1)))], S_)) rfl ?_
          refine sm_T_bin (w := ((s_ / 2) % 2)) rfl (bi_msk (k := 1) (by decide)) ?_ -- pc_ 51
          refine sm_T_go 1 (c1 := (53, [some (.inl fn_), some (.inl ip_), some (.inr (.inl la_)), none, some (.inr (.inl lb_)), none, some (.inr (.inl ld_)), none, some (.inr (.inl lt_)), none, some (.inl s_), some (.inr (.inl (l_5 la_ (-1)))), none], [.inl 1, .inl ((s_ / 2) % 2), .inr (.inl (l_5 la_ (-1)))], S_)) rfl ?_
          refine sm_T_br (a := 1) (z := 8) rfl (fun cx5_ => ?_) (fun cx5_ => ?_)
          · have cx5_ : ((s_ / 2) % 2) ≠ 1 := of_decide_eq_true cx5_
            refine sm_T_go 1 (c1 := (63, [some (.inl fn_), some (.inl ip_), some (.inr (.inl la_)), none, some (.inr (.inl lb_)), none, some (.inr (.inl ld_)), none, some (.inr (.inl lt_)), none, some (.inl s_), some (.inr (.inl (l_5 la_ (-1)))), none], [.inr (.inl lb_), .inr (.inl (l_5 la_ (-1)))], S_)) rfl ?_
            refine sm_T_nt (u := some (.inr (.inl (-1)))) (S1 := S_) rfl rfl rfl ?_
            refine sm_T_go 6 (c1 := (74, [some (.inl fn_), some (.inl ip_), some (.inr (.inl la_)), none, some (.inr (.inl lb_)), none, some (.inr (.inl ld_)), none, some (.inr (.inl lt_)), none, some (.inl s_), some (.inr (.inl (l_3 ((l_5 la_ (-1))) ((l_5 lb_ (-1)))))), none], [.inl 3, .inl ip_, .inr (.inl (l_3 ((l_5 la_ (-1))) ((l_5 lb_ (-1)))))], S_)) rfl ?_
            refine sm_T_br (a := 3) (z := 9) rfl (fun cx6_ => ?_) (fun cx6_ => ?_)
            · have cx6_ : 3 ≤ ip_ := of_decide_eq_true cx6_
              refine sm_T_go 2 (c1 := (86, [some (.inl fn_), some (.inl ip_), some (.inr (.inl la_)), none, some (.inr (.inl lb_)), none, some (.inr (.inl ld_)), none, some (.inr (.inl lt_)), none, some (.inl s_), some (.inr (.inl (l_3 ((l_5 la_ (-1))) ((l_5 lb_ (-1)))))), none], [.inl 2, .inl s_, .inr (.inl (l_3 ((l_5 la_ (-1))) ((l_5 lb_ (-1)))))], S_)) rfl ?_
              refine sm_T_bin (w := (s_ / 4)) rfl (bi_shr (k := 2) (by decide) (by omega) (by omega)) ?_ -- pc_ 86
              refine sm_T_go 1 (c1 := (88, [some (.inl fn_), some (.inl ip_), some (.inr (.inl la_)), none, some (.inr (.inl lb_)), none, some (.inr (.inl ld_)), none, some (.inr (.inl lt_)), none, some (.inl s_), some (.inr (.inl (l_3 ((l_5 la_ (-1))) ((l_5 lb_ (-1)))))), none], [.inl 1, .inl (s_ / 4), .inr (.inl (l_3 ((l_5 la_ (-1))) ((l_5 lb_ (-1)))))], S_)) rfl ?_
              refine sm_T_bin (w := ((s_ / 4) % 2)) rfl (bi_msk (k := 1) (by decide)) ?_ -- pc_ 88
              refine sm_T_go 1 (c1 := (90, [some (.inl fn_), some (.inl ip_), some (.inr (.inl la_)), none, some (.inr (.inl lb_)), none, some (.inr (.inl ld_)), none, some (.inr (.inl lt_)), none, some (.inl s_), some (.inr (.inl (l_3 ((l_5 la_ (-1))) ((l_5 lb_ (-1)))))), none], [.inl 1, .inl ((s_ / 4) % 2), .inr (.inl (l_3 ((l_5 la_ (-1))) ((l_5 lb_ (-1)))))], S_)) rfl ?_
              refine sm_T_br (a := 1) (z := 8) rfl (fun cx7_ => ?_) (fun cx7_ => ?_)
              · have cx7_ : ((s_ / 4) % 2) ≠ 1 := of_decide_eq_true cx7_
                refine sm_T_go 1 (c1 := (100, [some (.inl fn_), some (.inl ip_), some (.inr (.inl la_)), none, some (.inr (.inl lb_)), none, some (.inr (.inl ld_)), none, some (.inr (.inl lt_)), none, some (.inl s_), some (.inr (.inl (l_3 ((l_5 la_ (-1))) ((l_5 lb_ (-1)))))), none], [.inr (.inl ld_), .inr (.inl (l_3 ((l_5 la_ (-1))) ((l_5 lb_ (-1)))))], S_)) rfl ?_
                refine sm_T_nt (u := some (.inr (.inl (-1)))) (S1 := S_) rfl rfl rfl ?_
                refine sm_T_go 6 (c1 := (112, [some (.inl fn_), some (.inl ip_), some (.inr (.inl la_)), none, some (.inr (.inl lb_)), none, some (.inr (.inl ld_)), none, some (.inr (.inl lt_)), none, some (.inl s_), some (.inr (.inl (l_3 ((l_3 ((l_5 la_ (-1))) ((l_5 lb_ (-1))))) ((l_5 ld_ (-1)))))), none], [.inl s_, .inl fn_, .inr (.inl lt_)], S_)) rfl ?_
                refine sm_T_bin (w := (i_shr fn_ s_)) rfl rfl ?_ -- pc_ 112
                first | have bx8_ := i_shr_p (x_ := fn_) (e_ := s_) (by omega) (by omega) (by omega) | have bx8_ := i_shr_n fn_ s_
                refine sm_T_go 1 (c1 := (114, [some (.inl fn_), some (.inl ip_), some (.inr (.inl la_)), none, some (.inr (.inl lb_)), none, some (.inr (.inl ld_)), none, some (.inr (.inl lt_)), none, some (.inl s_), some (.inr (.inl (l_3 ((l_3 ((l_5 la_ (-1))) ((l_5 lb_ (-1))))) ((l_5 ld_ (-1)))))), none], [.inl 1, .inl (i_shr fn_ s_), .inr (.inl lt_)], S_)) rfl ?_
                refine sm_T_bin (w := ((i_shr fn_ s_) % 2)) rfl (bi_msk (k := 1) (by decide)) ?_ -- pc_ 114
                refine sm_T_go 1 (c1 := (116, [some (.inl fn_), some (.inl ip_), some (.inr (.inl la_)), none, some (.inr (.inl lb_)), none, some (.inr (.inl ld_)), none, some (.inr (.inl lt_)), none, some (.inl s_), some (.inr (.inl (l_3 ((l_3 ((l_5 la_ (-1))) ((l_5 lb_ (-1))))) ((l_5 ld_ (-1)))))), none], [.inl 1, .inl ((i_shr fn_ s_) % 2), .inr (.inl lt_)], S_)) rfl ?_
                refine sm_T_br (a := 1) (z := 8) rfl (fun cx9_ => ?_) (fun cx9_ => ?_)
                · have cx9_ : ((i_shr fn_ s_) % 2) ≠ 1 := of_decide_eq_true cx9_
                  refine sm_T_go 3 (c1 := (128, [some (.inl fn_), some (.inl ip_), some (.inr (.inl la_)), none, some (.inr (.inl lb_)), none, some (.inr (.inl ld_)), none, some (.inr (.inl (l_4 lt_ 0))), none, some (.inl s_), some (.inr (.inl (l_3 ((l_3 ((l_5 la_ (-1))) ((l_5 lb_ (-1))))) ((l_5 ld_ (-1)))))), none], [], S_)) rfl ?_
                  refine sm_T_inc (a := 10) (z := 1) (v := s_) (w := s_ + 1) rfl rfl (by omega) (by omega) (by omega) ?_ -- pc_ 128
                  refine sm_T_go 1 (c1 := (6, [some (.inl fn_), some (.inl ip_), some (.inr (.inl la_)), none, some (.inr (.inl lb_)), none, some (.inr (.inl ld_)), none, some (.inr (.inl (l_4 lt_ 0))), none, some (.inl (s_ + 1)), some (.inr (.inl (l_3 ((l_3 ((l_5 la_ (-1))) ((l_5 lb_ (-1))))) ((l_5 ld_ (-1)))))), none], [], S_)) rfl ?_
                  refine sm_T_wk [some (.inl fn_), some (.inl ip_), some (.inr (.inl la_)), none, some (.inr (.inl lb_)), none, some (.inr (.inl ld_)), none, some (.inr (.inl (l_4 lt_ 0))), none, some (.inl (s_ + 1)), none, none] (by exact ⟨rfl, rfl, rfl, rfl, rfl, rfl, rfl, trivial⟩) ?_
                  refine ih_ la_ lb_ ld_ ((l_4 lt_ 0)) (s_ + 1) S_ hI_ hF_ ⟨?_, trivial⟩ ?_
                  · omega
                  · omega
                · have cx9_ : ¬ (((i_shr fn_ s_) % 2) ≠ 1) := of_decide_eq_false cx9_
                  refine sm_T_go 4 (c1 := (128, [some (.inl fn_), some (.inl ip_), some (.inr (.inl la_)), none, some (.inr (.inl lb_)), none, some (.inr (.inl ld_)), none, some (.inr (.inl (l_4 lt_ ((l_3 ((l_3 ((l_5 la_ (-1))) ((l_5 lb_ (-1))))) ((l_5 ld_ (-1)))))))), none, some (.inl s_), some (.inr (.inl (l_3 ((l_3 ((l_5 la_ (-1))) ((l_5 lb_ (-1))))) ((l_5 ld_ (-1)))))), none], [], S_)) rfl ?_
                  refine sm_T_inc (a := 10) (z := 1) (v := s_) (w := s_ + 1) rfl rfl (by omega) (by omega) (by omega) ?_ -- pc_ 128
                  refine sm_T_go 1 (c1 := (6, [some (.inl fn_), some (.inl ip_), some (.inr (.inl la_)), none, some (.inr (.inl lb_)), none, some (.inr (.inl ld_)), none, some (.inr (.inl (l_4 lt_ ((l_3 ((l_3 ((l_5 la_ (-1))) ((l_5 lb_ (-1))))) ((l_5 ld_ (-1)))))))), none, some (.inl (s_ + 1)), some (.inr (.inl (l_3 ((l_3 ((l_5 la_ (-1))) ((l_5 lb_ (-1))))) ((l_5 ld_ (-1)))))), none], [], S_)) rfl ?_
                  refine sm_T_wk [some (.inl fn_), some (.inl ip_), some (.inr (.inl la_)), none, some (.inr (.inl lb_)), none, some (.inr (.inl ld_)), none, some (.inr (.inl (l_4 lt_ ((l_3 ((l_3 ((l_5 la_ (-1))) ((l_5 lb_ (-1))))) ((l_5 ld_ (-1)))))))), none, some (.inl (s_ + 1)), none, none] (by exact ⟨rfl, rfl, rfl, rfl, rfl, rfl, rfl, trivial⟩) ?_
                  refine ih_ la_ lb_ ld_ ((l_4 lt_ ((l_3 ((l_3 ((l_5 la_ (-1))) ((l_5 lb_ (-1))))) ((l_5 ld_ (-1))))))) (s_ + 1) S_ hI_ hF_ ⟨?_, trivial⟩ ?_
                  · omega
                  · omega
              · have cx7_ : ¬ (((s_ / 4) % 2) ≠ 1) := of_decide_eq_false cx7_
                refine sm_T_go 7 (c1 := (112, [some (.inl fn_), some (.inl ip_), some (.inr (.inl la_)), none, some (.inr (.inl lb_)), none, some (.inr (.inl ld_)), none, some (.inr (.inl lt_)), none, some (.inl s_), some (.inr (.inl (l_3 ((l_3 ((l_5 la_ (-1))) ((l_5 lb_ (-1))))) ld_))), none], [.inl s_, .inl fn_, .inr (.inl lt_)], S_)) rfl ?_
                refine sm_T_bin (w := (i_shr fn_ s_)) rfl rfl ?_ -- pc_ 112
                first | have bx10_ := i_shr_p (x_ := fn_) (e_ := s_) (by omega) (by omega) (by omega) | have bx10_ := i_shr_n fn_ s_
                refine sm_T_go 1 (c1 := (114, [some (.inl fn_), some (.inl ip_), some (.inr (.inl la_)), none, some (.inr (.inl lb_)), none, some (.inr (.inl ld_)), none, some (.inr (.inl lt_)), none, some (.inl s_), some (.inr (.inl (l_3 ((l_3 ((l_5 la_ (-1))) ((l_5 lb_ (-1))))) ld_))), none], [.inl 1, .inl (i_shr fn_ s_), .inr (.inl lt_)], S_)) rfl ?_
                refine sm_T_bin (w := ((i_shr fn_ s_) % 2)) rfl (bi_msk (k := 1) (by decide)) ?_ -- pc_ 114
                refine sm_T_go 1 (c1 := (116, [some (.inl fn_), some (.inl ip_), some (.inr (.inl la_)), none, some (.inr (.inl lb_)), none, some (.inr (.inl ld_)), none, some (.inr (.inl lt_)), none, some (.inl s_), some (.inr (.inl (l_3 ((l_3 ((l_5 la_ (-1))) ((l_5 lb_ (-1))))) ld_))), none], [.inl 1, .inl ((i_shr fn_ s_) % 2), .inr (.inl lt_)], S_)) rfl ?_
                refine sm_T_br (a := 1) (z := 8) rfl (fun cx11_ => ?_) (fun cx11_ => ?_)
                · have cx11_ : ((i_shr fn_ s_) % 2) ≠ 1 := of_decide_eq_true cx11_
                  refine sm_T_go 3 (c1 := (128, [some (.inl fn_), some (.inl ip_), some (.inr (.inl la_)), none, some (.inr (.inl lb_)), none, some (.inr (.inl ld_)), none, some (.inr (.inl (l_4 lt_ 0))), none, some (.inl s_), some (.inr (.inl (l_3 ((l_3 ((l_5 la_ (-1))) ((l_5 lb_ (-1))))) ld_))), none], [], S_)) rfl ?_
                  refine sm_T_inc (a := 10) (z := 1) (v := s_) (w := s_ + 1) rfl rfl (by omega) (by omega) (by omega) ?_ -- pc_ 128
                  refine sm_T_go 1 (c1 := (6, [some (.inl fn_), some (.inl ip_), some (.inr (.inl la_)), none, some (.inr (.inl lb_)), none, some (.inr (.inl ld_)), none, some (.inr (.inl (l_4 lt_ 0))), none, some (.inl (s_ + 1)), some (.inr (.inl (l_3 ((l_3 ((l_5 la_ (-1))) ((l_5 lb_ (-1))))) ld_))), none], [], S_)) rfl ?_
                  refine sm_T_wk [some (.inl fn_), some (.inl ip_), some (.inr (.inl la_)), none, some (.inr (.inl lb_)), none, some (.inr (.inl ld_)), none, some (.inr (.inl (l_4 lt_ 0))), none, some (.inl (s_ + 1)), none, none] (by exact ⟨rfl, rfl, rfl, rfl, rfl, rfl, rfl, trivial⟩) ?_
                  refine ih_ la_ lb_ ld_ ((l_4 lt_ 0)) (s_ + 1) S_ hI_ hF_ ⟨?_, trivial⟩ ?_
                  · omega
                  · omega
                · have cx11_ : ¬ (((i_shr fn_ s_) % 2) ≠ 1) := of_decide_eq_false cx11_
                  refine sm_T_go 4 (c1 := (128, [some (.inl fn_), some (.inl ip_), some (.inr (.inl la_)), none, some (.inr (.inl lb_)), none, some (.inr (.inl ld_)), none, some (.inr (.inl (l_4 lt_ ((l_3 ((l_3 ((l_5 la_ (-1))) ((l_5 lb_ (-1))))) ld_))))), none, some (.inl s_), some (.inr (.inl (l_3 ((l_3 ((l_5 la_ (-1))) ((l_5 lb_ (-1))))) ld_))), none], [], S_)) rfl ?_
                  refine sm_T_inc (a := 10) (z := 1) (v := s_) (w := s_ + 1) rfl rfl (by omega) (by omega) (by omega) ?_ -- pc_ 128
                  refine sm_T_go 1 (c1 := (6, [some (.inl fn_), some (.inl ip_), some (.inr (.inl la_)), none, some (.inr (.inl lb_)), none, some (.inr (.inl ld_)), none, some (.inr (.inl (l_4 lt_ ((l_3 ((l_3 ((l_5 la_ (-1))) ((l_5 lb_ (-1))))) ld_))))), none, some (.inl (s_ + 1)), some (.inr (.inl (l_3 ((l_3 ((l_5 la_ (-1))) ((l_5 lb_ (-1))))) ld_))), none], [], S_)) rfl ?_
                  refine sm_T_wk [some (.inl fn_), some (.inl ip_), some (.inr (.inl la_)), none, some (.inr (.inl lb_)), none, some (.inr (.inl ld_)), none, some (.inr (.inl (l_4 lt_ ((l_3 ((l_3 ((l_5 la_ (-1))) ((l_5 lb_ (-1))))) ld_))))), none, some (.inl (s_ + 1)), none, none] (by exact ⟨rfl, rfl, rfl, rfl, rfl, rfl, rfl, trivial⟩) ?_
                  refine ih_ la_ lb_ ld_ ((l_4 lt_ ((l_3 ((l_3 ((l_5 la_ (-1))) ((l_5 lb_ (-1))))) ld_)))) (s_ + 1) S_ hI_ hF_ ⟨?_, trivial⟩ ?_
                  · omega
                  · omega
            · have cx6_ : ¬ (3 ≤ ip_) := of_decide_eq_false cx6_
              refine sm_T_nt (u := some (.inr (.inl (-1)))) (S1 := S_) rfl rfl rfl ?_
              refine sm_T_go 6 (c1 := (112, [some (.inl fn_), some (.inl ip_), some (.inr (.inl la_)), none, some (.inr (.inl lb_)), none, some (.inr (.inl ld_)), none, some (.inr (.inl lt_)), none, some (.inl s_), some (.inr (.inl (l_3 ((l_3 ((l_5 la_ (-1))) ((l_5 lb_ (-1))))) (-1)))), none], [.inl s_, .inl fn_, .inr (.inl lt_)], S_)) rfl ?_
              refine sm_T_bin (w := (i_shr fn_ s_)) rfl rfl ?_ -- pc_ 112
              first | have bx12_ := i_shr_p (x_ := fn_) (e_ := s_) (by omega) (by omega) (by omega) | have bx12_ := i_shr_n fn_ s_
              refine sm_T_go 1 (c1 := (114, [some (.inl fn_), some (.inl ip_), some (.inr (.inl la_)), none, some (.inr (.inl lb_)), none, some (.inr (.inl ld_)), none, some (.inr (.inl lt_)), none, some (.inl s_), some (.inr (.inl (l_3 ((l_3 ((l_5 la_ (-1))) ((l_5 lb_ (-1))))) (-1)))), none], [.inl 1, .inl (i_shr fn_ s_), .inr (.inl lt_)], S_)) rfl ?_
              refine sm_T_bin (w := ((i_shr fn_ s_) % 2)) rfl (bi_msk (k := 1) (by decide)) ?_ -- pc_ 114
              refine sm_T_go 1 (c1 := (116, [some (.inl fn_), some (.inl ip_), some (.inr (.inl la_)), none, some (.inr (.inl lb_)), none, some (.inr (.inl ld_)), none, some (.inr (.inl lt_)), none, some (.inl s_), some (.inr (.inl (l_3 ((l_3 ((l_5 la_ (-1))) ((l_5 lb_ (-1))))) (-1)))), none], [.inl 1, .inl ((i_shr fn_ s_) % 2), .inr (.inl lt_)], S_)) rfl ?_
              refine sm_T_br (a := 1) (z := 8) rfl (fun cx13_ => ?_) (fun cx13_ => ?_)
              · have cx13_ : ((i_shr fn_ s_) % 2) ≠ 1 := of_decide_eq_true cx13_
                refine sm_T_go 3 (c1 := (128, [some (.inl fn_), some (.inl ip_), some (.inr (.inl la_)), none, some (.inr (.inl lb_)), none, some (.inr (.inl ld_)), none, some (.inr (.inl (l_4 lt_ 0))), none, some (.inl s_), some (.inr (.inl (l_3 ((l_3 ((l_5 la_ (-1))) ((l_5 lb_ (-1))))) (-1)))), none], [], S_)) rfl ?_
                refine sm_T_inc (a := 10) (z := 1) (v := s_) (w := s_ + 1) rfl rfl (by omega) (by omega) (by omega) ?_ -- pc_ 128
                refine sm_T_go 1 (c1 := (6, [some (.inl fn_), some (.inl ip_), some (.inr (.inl la_)), none, some (.inr (.inl lb_)), none, some (.inr (.inl ld_)), none, some (.inr (.inl (l_4 lt_ 0))), none, some (.inl (s_ + 1)), some (.inr (.inl (l_3 ((l_3 ((l_5 la_ (-1))) ((l_5 lb_ (-1))))) (-1)))), none], [], S_)) rfl ?_
                refine sm_T_wk [some (.inl fn_), some (.inl ip_), some (.inr (.inl la_)), none, some (.inr (.inl lb_)), none, some (.inr (.inl ld_)), none, some (.inr (.inl (l_4 lt_ 0))), none, some (.inl (s_ + 1)), none, none] (by exact ⟨rfl, rfl, rfl, rfl, rfl, rfl, rfl, trivial⟩) ?_
                refine ih_ la_ lb_ ld_ ((l_4 lt_ 0)) (s_ + 1) S_ hI_ hF_ ⟨?_, trivial⟩ ?_
                · omega
                · omega
              · have cx13_ : ¬ (((i_shr fn_ s_) % 2) ≠ 1) := of_decide_eq_false cx13_
                refine sm_T_go 4 (c1 := (128, [some (.inl fn_), some (.inl ip_), some (.inr (.inl la_)), none, some (.inr (.inl lb_)), none, some (.inr (.inl ld_)), none, some (.inr (.inl (l_4 lt_ ((l_3 ((l_3 ((l_5 la_ (-1))) ((l_5 lb_ (-1))))) (-1)))))), none, some (.inl s_), some (.inr (.inl (l_3 ((l_3 ((l_5 la_ (-1))) ((l_5 lb_ (-1))))) (-1)))), none], [], S_)) rfl ?_
                refine sm_T_inc (a := 10) (z := 1) (v := s_) (w := s_ + 1) rfl rfl (by omega) (by omega) (by omega) ?_ -- pc_ 128
                refine sm_T_go 1 (c1 := (6, [some (.inl fn_), some (.inl ip_), some (.inr (.inl la_)), none, some (.inr (.inl lb_)), none, some (.inr (.inl ld_)), none, some (.inr (.inl (l_4 lt_ ((l_3 ((l_3 ((l_5 la_ (-1))) ((l_5 lb_ (-1))))) (-1)))))), none, some (.inl (s_ + 1)), some (.inr (.inl (l_3 ((l_3 ((l_5 la_ (-1))) ((l_5 lb_ (-1))))) (-1)))), none], [], S_)) rfl ?_
                refine sm_T_wk [some (.inl fn_), some (.inl ip_), some (.inr (.inl la_)), none, some (.inr (.inl lb_)), none, some (.inr (.inl ld_)), none, some (.inr (.inl (l_4 lt_ ((l_3 ((l_3 ((l_5 la_ (-1))) ((l_5 lb_ (-1))))) (-1)))))), none, some (.inl (s_ + 1)), none, none] (by exact ⟨rfl, rfl, rfl, rfl, rfl, rfl, rfl, trivial⟩) ?_
                refine ih_ la_ lb_ ld_ ((l_4 lt_ ((l_3 ((l_3 ((l_5 la_ (-1))) ((l_5 lb_ (-1))))) (-1))))) (s_ + 1) S_ hI_ hF_ ⟨?_, trivial⟩ ?_
                · omega
                · omega
          · have cx5_ : ¬ (((s_ / 2) % 2) ≠ 1) := of_decide_eq_false cx5_
            refine sm_T_go 7 (c1 := (74, [some (.inl fn_), some (.inl ip_), some (.inr (.inl la_)), none, some (.inr (.inl lb_)), none, some (.inr (.inl ld_)), none, some (.inr (.inl lt_)), none, some (.inl s_), some (.inr (.inl (l_3 ((l_5 la_ (-1))) lb_))), none], [.inl 3, .inl ip_, .inr (.inl (l_3 ((l_5 la_ (-1))) lb_))], S_)) rfl ?_
            refine sm_T_br (a := 3) (z := 9) rfl (fun cx14_ => ?_) (fun cx14_ => ?_)
            · have cx14_ : 3 ≤ ip_ := of_decide_eq_true cx14_
              refine sm_T_go 2 (c1 := (86, [some (.inl fn_), some (.inl ip_), some (.inr (.inl la_)), none, some (.inr (.inl lb_)), none, some (.inr (.inl ld_)), none, some (.inr (.inl lt_)), none, some (.inl s_), some (.inr (.inl (l_3 ((l_5 la_ (-1))) lb_))), none], [.inl 2, .inl s_, .inr (.inl (l_3 ((l_5 la_ (-1))) lb_))], S_)) rfl ?_
              refine sm_T_bin (w := (s_ / 4)) rfl (bi_shr (k := 2) (by decide) (by omega) (by omega)) ?_ -- pc_ 86
              refine sm_T_go 1 (c1 := (88, [some (.inl fn_), some (.inl ip_), some (.inr (.inl la_)), none, some (.inr (.inl lb_)), none, some (.inr (.inl ld_)), none, some (.inr (.inl lt_)), none, some (.inl s_), some (.inr (.inl (l_3 ((l_5 la_ (-1))) lb_))), none], [.inl 1, .inl (s_ / 4), .inr (.inl (l_3 ((l_5 la_ (-1))) lb_))], S_)) rfl ?_
              refine sm_T_bin (w := ((s_ / 4) % 2)) rfl (bi_msk (k := 1) (by decide)) ?_ -- pc_ 88
              refine sm_T_go 1 (c1 := (90, [some (.inl fn_), some (.inl ip_), some (.inr (.inl la_)), none, some (.inr (.inl lb_)), none, some (.inr (.inl ld_)), none, some (.inr (.inl lt_)), none, some (.inl s_), some (.inr (.inl (l_3 ((l_5 la_ (-1))) lb_))), none], [.inl 1, .inl ((s_ / 4) % 2), .inr (.inl (l_3 ((l_5 la_ (-1))) lb_))], S_)) rfl ?_
              refine sm_T_br (a := 1) (z := 8) rfl (fun cx15_ => ?_) (fun cx15_ => ?_)
              · have cx15_ : ((s_ / 4) % 2) ≠ 1 := of_decide_eq_true cx15_
                refine sm_T_go 1 (c1 := (100, [some (.inl fn_), some (.inl ip_), some (.inr (.inl la_)), none, some (.inr (.inl lb_)), none, some (.inr (.inl ld_)), none, some (.inr (.inl lt_)), none, some (.inl s_), some (.inr (.inl (l_3 ((l_5 la_ (-1))) lb_))), none], [.inr (.inl ld_), .inr (.inl (l_3 ((l_5 la_ (-1))) lb_))], S_)) rfl ?_
                refine sm_T_nt (u := some (.inr (.inl (-1)))) (S1 := S_) rfl rfl rfl ?_
                refine sm_T_go 6 (c1 := (112, [some (.inl fn_), some (.inl ip_), some (.inr (.inl la_)), none, some (.inr (.inl lb_)), none, some (.inr (.inl ld_)), none, some (.inr (.inl lt_)), none, some (.inl s_), some (.inr (.inl (l_3 ((l_3 ((l_5 la_ (-1))) lb_)) ((l_5 ld_ (-1)))))), none], [.inl s_, .inl fn_, .inr (.inl lt_)], S_)) rfl ?_
                refine sm_T_bin (w := (i_shr fn_ s_)) rfl rfl ?_ -- pc_ 112
                first | have bx16_ := i_shr_p (x_ := fn_) (e_ := s_) (by omega) (by omega) (by omega) | have bx16_ := i_shr_n fn_ s_
                refine sm_T_go 1 (c1 := (114, [some (.inl fn_), some (.inl ip_), some (.inr (.inl la_)), none, some (.inr (.inl lb_)), none, some (.inr (.inl ld_)), none, some (.inr (.inl lt_)), none, some (.inl s_), some (.inr (.inl (l_3 ((l_3 ((l_5 la_ (-1))) lb_)) ((l_5 ld_ (-1)))))), none], [.inl 1, .inl (i_shr fn_ s_), .inr (.inl lt_)], S_)) rfl ?_
                refine sm_T_bin (w := ((i_shr fn_ s_) % 2)) rfl (bi_msk (k := 1) (by decide)) ?_ -- pc_ 114
                refine sm_T_go 1 (c1 := (116, [some (.inl fn_), some (.inl ip_), some (.inr (.inl la_)), none, some (.inr (.inl lb_)), none, some (.inr (.inl ld_)), none, some (.inr (.inl lt_)), none, some (.inl s_), some (.inr (.inl (l_3 ((l_3 ((l_5 la_ (-1))) lb_)) ((l_5 ld_ (-1)))))), none], [.inl 1, .inl ((i_shr fn_ s_) % 2), .inr (.inl lt_)], S_)) rfl ?_
                refine sm_T_br (a := 1) (z := 8) rfl (fun cx17_ => ?_) (fun cx17_ => ?_)
                · have cx17_ : ((i_shr fn_ s_) % 2) ≠ 1 := of_decide_eq_true cx17_
                  refine sm_T_go 3 (c1 := (128, [some (.inl fn_), some (.inl ip_), some (.inr (.inl la_)), none, some (.inr (.inl lb_)), none, some (.inr (.inl ld_)), none, some (.inr (.inl (l_4 lt_ 0))), none, some (.inl s_), some (.inr (.inl (l_3 ((l_3 ((l_5 la_ (-1))) lb_)) ((l_5 ld_ (-1)))))), none], [], S_)) rfl ?_
                  refine sm_T_inc (a := 10) (z := 1) (v := s_) (w := s_ + 1) rfl rfl (by omega) (by omega) (by omega) ?_ -- pc_ 128
                  refine sm_T_go 1 (c1 := (6, [some (.inl fn_), some (.inl ip_), some (.inr (.inl la_)), none, some (.inr (.inl lb_)), none, some (.inr (.inl ld_)), none, some (.inr (.inl (l_4 lt_ 0))), none, some (.inl (s_ + 1)), some (.inr (.inl (l_3 ((l_3 ((l_5 la_ (-1))) lb_)) ((l_5 ld_ (-1)))))), none], [], S_)) rfl ?_
                  refine sm_T_wk [some (.inl fn_), some (.inl ip_), some (.inr (.inl la_)), none, some (.inr (.inl lb_)), none, some (.inr (.inl ld_)), none, some (.inr (.inl (l_4 lt_ 0))), none, some (.inl (s_ + 1)), none, none] (by exact ⟨rfl, rfl, rfl, rfl, rfl, rfl, rfl, trivial⟩) ?_
                  refine ih_ la_ lb_ ld_ ((l_4 lt_ 0)) (s_ + 1) S_ hI_ hF_ ⟨?_, trivial⟩ ?_
                  · omega
                  · omega
                · have cx17_ : ¬ (((i_shr fn_ s_) % 2) ≠ 1) := of_decide_eq_false cx17_
                  refine sm_T_go 4 (c1 := (128, [some (.inl fn_), some (.inl ip_), some (.inr (.inl la_)), none, some (.inr (.inl lb_)), none, some (.inr (.inl ld_)), none, some (.inr (.inl (l_4 lt_ ((l_3 ((l_3 ((l_5 la_ (-1))) lb_)) ((l_5 ld_ (-1)))))))), none, some (.inl s_), some (.inr (.inl (l_3 ((l_3 ((l_5 la_ (-1))) lb_)) ((l_5 ld_ (-1)))))), none], [], S_)) rfl ?_
                  refine sm_T_inc (a := 10) (z := 1) (v := s_) (w := s_ + 1) rfl rfl (by omega) (by omega) (by omega) ?_ -- pc_ 128
                  refine sm_T_go 1 (c1 := (6, [some (.inl fn_), some (.inl ip_), some (.inr (.inl la_)), none, some (.inr (.inl lb_)), none, some (.inr (.inl ld_)), none, some (.inr (.inl (l_4 lt_ ((l_3 ((l_3 ((l_5 la_ (-1))) lb_)) ((l_5 ld_ (-1)))))))), none, some (.inl (s_ + 1)), some (.inr (.inl (l_3 ((l_3 ((l_5 la_ (-1))) lb_)) ((l_5 ld_ (-1)))))), none], [], S_)) rfl ?_
                  refine sm_T_wk [some (.inl fn_), some (.inl ip_), some (.inr (.inl la_)), none, some (.inr (.inl lb_)), none, some (.inr (.inl ld_)), none, some (.inr (.inl (l_4 lt_ ((l_3 ((l_3 ((l_5 la_ (-1))) lb_)) ((l_5 ld_ (-1)))))))), none, some (.inl (s_ + 1)), none, none] (by exact ⟨rfl, rfl, rfl, rfl, rfl, rfl, rfl, trivial⟩) ?_
                  refine ih_ la_ lb_ ld_ ((l_4 lt_ ((l_3 ((l_3 ((l_5 la_ (-1))) lb_)) ((l_5 ld_ (-1))))))) (s_ + 1) S_ hI_ hF_ ⟨?_, trivial⟩ ?_
                  · omega
                  · omega
              · have cx15_ : ¬ (((s_ / 4) % 2) ≠ 1) := of_decide_eq_false cx15_
                refine sm_T_go 7 (c1 := (112, [some (.inl fn_), some (.inl ip_), some (.inr (.inl la_)), none, some (.inr (.inl lb_)), none, some (.inr (.inl ld_)), none, some (.inr (.inl lt_)), none, some (.inl s_), some (.inr (.inl (l_3 ((l_3 ((l_5 la_ (-1))) lb_)) ld_))), none], [.inl s_, .inl fn_, .inr (.inl lt_)], S_)) rfl ?_
                refine sm_T_bin (w := (i_shr fn_ s_)) rfl rfl ?_ -- pc_ 112
                first | have bx18_ := i_shr_p (x_ := fn_) (e_ := s_) (by omega) (by omega) (by omega) | have bx18_ := i_shr_n fn_ s_
                refine sm_T_go 1 (c1 := (114, [some (.inl fn_), some (.inl ip_), some (.inr (.inl la_)), none, some (.inr (.inl lb_)), none, some (.inr (.inl ld_)), none, some (.inr (.inl lt_)), none, some (.inl s_), some (.inr (.inl (l_3 ((l_3 ((l_5 la_ (-1))) lb_)) ld_))), none], [.inl 1, .inl (i_shr fn_ s_), .inr (.inl lt_)], S_)) rfl ?_
                refine sm_T_bin (w := ((i_shr fn_ s_) % 2)) rfl (bi_msk (k := 1) (by decide)) ?_ -- pc_ 114
                refine sm_T_go 1 (c1 := (116, [some (.inl fn_), some (.inl ip_), some (.inr (.inl la_)), none, some (.inr (.inl lb_)), none, some (.inr (.inl ld_)), none, some (.inr (.inl lt_)), none, some (.inl s_), some (.inr (.inl (l_3 ((l_3 ((l_5 la_ (-1))) lb_)) ld_))), none], [.inl 1, .inl ((i_shr fn_ s_) % 2), .inr (.inl lt_)], S_)) rfl ?_
                refine sm_T_br (a := 1) (z := 8) rfl (fun cx19_ => ?_) (fun cx19_ => ?_)
                · have cx19_ : ((i_shr fn_ s_) % 2) ≠ 1 := of_decide_eq_true cx19_
                  refine sm_T_go 3 (c1 := (128, [some (.inl fn_), some (.inl ip_), some (.inr (.inl la_)), none, some (.inr (.inl lb_)), none, some (.inr (.inl ld_)), none, some (.inr (.inl (l_4 lt_ 0))), none, some (.inl s_), some (.inr (.inl (l_3 ((l_3 ((l_5 la_ (-1))) lb_)) ld_))), none], [], S_)) rfl ?_
                  refine sm_T_inc (a := 10) (z := 1) (v := s_) (w := s_ + 1) rfl rfl (by omega) (by omega) (by omega) ?_ -- pc_ 128
                  refine sm_T_go 1 (c1 := (6, [some (.inl fn_), some (.inl ip_), some (.inr (.inl la_)), none, some (.inr (.inl lb_)), none, some (.inr (.inl ld_)), none, some (.inr (.inl (l_4 lt_ 0))), none, some (.inl (s_ + 1)), some (.inr (.inl (l_3 ((l_3 ((l_5 la_ (-1))) lb_)) ld_))), none], [], S_)) rfl ?_
                  refine sm_T_wk [some (.inl fn_), some (.inl ip_), some (.inr (.inl la_)), none, some (.inr (.inl lb_)), none, some (.inr (.inl ld_)), none, some (.inr (.inl (l_4 lt_ 0))), none, some (.inl (s_ + 1)), none, none] (by exact ⟨rfl, rfl, rfl, rfl, rfl, rfl, rfl, trivial⟩) ?_
                  refine ih_ la_ lb_ ld_ ((l_4 lt_ 0)) (s_ + 1) S_ hI_ hF_ ⟨?_, trivial⟩ ?_
                  · omega
                  · omega
                · have cx19_ : ¬ (((i_shr fn_ s_) % 2) ≠ 1) := of_decide_eq_false cx19_
                  refine sm_T_go 4 (c1 := (128, [some (.inl fn_), some (.inl ip_), some (.inr (.inl la_)), none, some (.inr (.inl lb_)), none, some (.inr (.inl ld_)), none, some (.inr (.inl (l_4 lt_ ((l_3 ((l_3 ((l_5 la_ (-1))) lb_)) ld_))))), none, some (.inl s_), some (.inr (.inl (l_3 ((l_3 ((l_5 la_ (-1))) lb_)) ld_))), none], [], S_)) rfl ?_
                  refine sm_T_inc (a := 10) (z := 1) (v := s_) (w := s_ + 1) rfl rfl (by omega) (by omega) (by omega) ?_ -- pc_ 128
                  refine sm_T_go 1 (c1 := (6, [some (.inl fn_), some (.inl ip_), some (.inr (.inl la_)), none, some (.inr (.inl lb_)), none, some (.inr (.inl ld_)), none, some (.inr (.inl (l_4 lt_ ((l_3 ((l_3 ((l_5 la_ (-1))) lb_)) ld_))))), none, some (.inl (s_ + 1)), some (.inr (.inl (l_3 ((l_3 ((l_5 la_ (-1))) lb_)) ld_))), none], [], S_)) rfl ?_
                  refine sm_T_wk [some (.inl fn_), some (.inl ip_), some (.inr (.inl la_)), none, some (.inr (.inl lb_)), none, some (.inr (.inl ld_)), none, some (.inr (.inl (l_4 lt_ ((l_3 ((l_3 ((l_5 la_ (-1))) lb_)) ld_))))), none, some (.inl (s_ + 1)), none, none] (by exact ⟨rfl, rfl, rfl, rfl, rfl, rfl, rfl, trivial⟩) ?_
                  refine ih_ la_ lb_ ld_ ((l_4 lt_ ((l_3 ((l_3 ((l_5 la_ (-1))) lb_)) ld_)))) (s_ + 1) S_ hI_ hF_ ⟨?_, trivial⟩ ?_
                  · omega
                  · omega
            · have cx14_ : ¬ (3 ≤ ip_) := of_decide_eq_false cx14_
              refine sm_T_nt (u := some (.inr (.inl (-1)))) (S1 := S_) rfl rfl rfl ?_
              refine sm_T_go 6 (c1 := (112, [some (.inl fn_), some (.inl ip_), some (.inr (.inl la_)), none, some (.inr (.inl lb_)), none, some (.inr (.inl ld_)), none, some (.inr (.inl lt_)), none, some (.inl s_), some (.inr (.inl (l_3 ((l_3 ((l_5 la_ (-1))) lb_)) (-1)))), none], [.inl s_, .inl fn_, .inr (.inl lt_)], S_)) rfl ?_
              refine sm_T_bin (w := (i_shr fn_ s_)) rfl rfl ?_ -- pc_ 112
              first | have bx20_ := i_shr_p (x_ := fn_) (e_ := s_) (by omega) (by omega) (by omega) | have bx20_ := i_shr_n fn_ s_
              refine sm_T_go 1 (c1 := (114, [some (.inl fn_), some (.inl ip_), some (.inr (.inl la_)), none, some (.inr (.inl lb_)), none, some (.inr (.inl ld_)), none, some (.inr (.inl lt_)), none, some (.inl s_), some (.inr (.inl (l_3 ((l_3 ((l_5 la_ (-1))) lb_)) (-1)))), none], [.inl 1, .inl (i_shr fn_ s_), .inr (.inl lt_)], S_)) rfl ?_
              refine sm_T_bin (w := ((i_shr fn_ s_) % 2)) rfl (bi_msk (k := 1) (by decide)) ?_ -- pc_ 114
              refine sm_T_go 1 (c1 := (116, [some (.inl fn_), some (.inl ip_), some (.inr (.inl la_)), none, some (.inr (.inl lb_)), none, some (.inr (.inl ld_)), none, some (.inr (.inl lt_)), none, some (.inl s_), some (.inr (.inl (l_3 ((l_3 ((l_5 la_ (-1))) lb_)) (-1)))), none], [.inl 1, .inl ((i_shr fn_ s_) % 2), .inr (.inl lt_)], S_)) rfl ?_
              refine sm_T_br (a := 1) (z := 8) rfl (fun cx21_ => ?_) (fun cx21_ => ?_)
              · have cx21_ : ((i_shr fn_ s_) % 2) ≠ 1 := of_decide_eq_true cx21_
                refine sm_T_go 3 (c1 := (128, [some (.inl fn_), some (.inl ip_), some (.inr (.inl la_)), none, some (.inr (.inl lb_)), none, some (.inr (.inl ld_)), none, some (.inr (.inl (l_4 lt_ 0))), none, some (.inl s_), some (.inr (.inl (l_3 ((l_3 ((l_5 la_ (-1))) lb_)) (-1)))), none], [], S_)) rfl ?_
                refine sm_T_inc (a := 10) (z := 1) (v := s_) (w := s_ + 1) rfl rfl (by omega) (by omega) (by omega) ?_ -- pc_ 128
                refine sm_T_go 1 (c1 := (6, [some (.inl fn_), some (.inl ip_), some (.inr (.inl la_)), none, some (.inr (.inl lb_)), none, some (.inr (.inl ld_)), none, some (.inr (.inl (l_4 lt_ 0))), none, some (.inl (s_ + 1)), some (.inr (.inl (l_3 ((l_3 ((l_5 la_ (-1))) lb_)) (-1)))), none], [], S_)) rfl ?_
                refine sm_T_wk [some (.inl fn_), some (.inl ip_), some (.inr (.inl la_)), none, some (.inr (.inl lb_)), none, some (.inr (.inl ld_)), none, some (.inr (.inl (l_4 lt_ 0))), none, some (.inl (s_ + 1)), none, none] (by exact ⟨rfl, rfl, rfl, rfl, rfl, rfl, rfl, trivial⟩) ?_
                refine ih_ la_ lb_ ld_ ((l_4 lt_ 0)) (s_ + 1) S_ hI_ hF_ ⟨?_, trivial⟩ ?_
                · omega
                · omega
              · have cx21_ : ¬ (((i_shr fn_ s_) % 2) ≠ 1) := of_decide_eq_false cx21_
                refine sm_T_go 4 (c1 := (128, [some (.inl fn_), some (.inl ip_), some (.inr (.inl la_)), none, some (.inr (.inl lb_)), none, some (.inr (.inl ld_)), none, some (.inr (.inl (l_4 lt_ ((l_3 ((l_3 ((l_5 la_ (-1))) lb_)) (-1)))))), none, some (.inl s_), some (.inr (.inl (l_3 ((l_3 ((l_5 la_ (-1))) lb_)) (-1)))), none], [], S_)) rfl ?_
                refine sm_T_inc (a := 10) (z := 1) (v := s_) (w := s_ + 1) rfl rfl (by omega) (by omega) (by omega) ?_ -- pc_ 128
                refine sm_T_go 1 (c1 := (6, [some (.inl fn_), some (.inl ip_), some (.inr (.inl la_)), none, some (.inr (.inl lb_)), none, some (.inr (.inl ld_)), none, some (.inr (.inl (l_4 lt_ ((l_3 ((l_3 ((l_5 la_ (-1))) lb_)) (-1)))))), none, some (.inl (s_ + 1)), some (.inr (.inl (l_3 ((l_3 ((l_5 la_ (-1))) lb_)) (-1)))), none], [], S_)) rfl ?_
                refine sm_T_wk [some (.inl fn_), some (.inl ip_), some (.inr (.inl la_)), none, some (.inr (.inl lb_)), none, some (.inr (.inl ld_)), none, some (.inr (.inl (l_4 lt_ ((l_3 ((l_3 ((l_5 la_ (-1))) lb_)) (-1)))))), none, some (.inl (s_ + 1)), none, none] (by exact ⟨rfl, rfl, rfl, rfl, rfl, rfl, rfl, trivial⟩) ?_
                refine ih_ la_ lb_ ld_ ((l_4 lt_ ((l_3 ((l_3 ((l_5 la_ (-1))) lb_)) (-1))))) (s_ + 1) S_ hI_ hF_ ⟨?_, trivial⟩ ?_
                · omega
                · omega
        · have cx4_ : ¬ (2 ≤ ip_) := of_decide_eq_false cx4_
          refine sm_T_nt (u := some (.inr (.inl (-1)))) (S1 := S_) rfl rfl rfl ?_
          refine sm_T_go 6 (c1 := (74, [some (.inl fn_), some (.inl ip_), some (.inr (.inl la_)), none, some (.inr (.inl lb_)), none, some (.inr (.inl ld_)), none, some (.inr (.inl lt_)), none, some (.inl s_), some (.inr (.inl (l_3 ((l_5 la_ (-1))) (-1)))), none], [.inl 3, .inl ip_, .inr (.inl (l_3 ((l_5 la_ (-1))) (-1)))], S_)) rfl ?_
          refine sm_T_br (a := 3) (z := 9) rfl (fun cx22_ => ?_) (fun cx22_ => ?_)
          · have cx22_ : 3 ≤ ip_ := of_decide_eq_true cx22_
            exfalso; omega
          · have cx22_ : ¬ (3 ≤ ip_) := of_decide_eq_false cx22_
            refine sm_T_nt (u := some (.inr (.inl (-1)))) (S1 := S_) rfl rfl rfl ?_
            refine sm_T_go 6 (c1 := (112, [some (.inl fn_), some (.inl ip_), some (.inr (.inl la_)), none, some (.inr (.inl lb_)), none, some (.inr (.inl ld_)), none, some (.inr (.inl lt_)), none, some (.inl s_), some (.inr (.inl (l_3 ((l_3 ((l_5 la_ (-1))) (-1))) (-1)))), none], [.inl s_, .inl fn_, .inr (.inl lt_)], S_)) rfl ?_
            refine sm_T_bin (w := (i_shr fn_ s_)) rfl rfl ?_ -- pc_ 112
            first | have bx23_ := i_shr_p (x_ := fn_) (e_ := s_) (by omega) (by omega) (by omega) | have bx23_ := i_shr_n fn_ s_
            refine sm_T_go 1 (c1 := (114, [some (.inl fn_), some (.inl ip_), some (.inr (.inl la_)), none, some (.inr (.inl lb_)), none, some (.inr (.inl ld_)), none, some (.inr (.inl lt_)), none, some (.inl s_), some (.inr (.inl (l_3 ((l_3 ((l_5 la_ (-1))) (-1))) (-1)))), none], [.inl 1, .inl (i_shr fn_ s_), .inr (.inl lt_)], S_)) rfl ?_
            refine sm_T_bin (w := ((i_shr fn_ s_) % 2)) rfl (bi_msk (k := 1) (by decide)) ?_ -- pc_ 114
            refine sm_T_go 1 (c1 := (116, [some (.inl fn_), some (.inl ip_), some (.inr (.inl la_)), none, some (.inr (.inl lb_)), none, some (.inr (.inl ld_)), none, some (.inr (.inl lt_)), none, some (.inl s_), some (.inr (.inl (l_3 ((l_3 ((l_5 la_ (-1))) (-1))) (-1)))), none], [.inl 1, .inl ((i_shr fn_ s_) % 2), .inr (.inl lt_)], S_)) rfl ?_
            refine sm_T_br (a := 1) (z := 8) rfl (fun cx24_ => ?_) (fun cx24_ => ?_)
            · have cx24_ : ((i_shr fn_ s_) % 2) ≠ 1 := of_decide_eq_true cx24_
              refine sm_T_go 3 (c1 := (128, [some (.inl fn_), some (.inl ip_), some (.inr (.inl la_)), none, some (.inr (.inl lb_)), none, some (.inr (.inl ld_)), none, some (.inr (.inl (l_4 lt_ 0))), none, some (.inl s_), some (.inr (.inl (l_3 ((l_3 ((l_5 la_ (-1))) (-1))) (-1)))), none], [], S_)) rfl ?_
              refine sm_T_inc (a := 10) (z := 1) (v := s_) (w := s_ + 1) rfl rfl (by omega) (by omega) (by omega) ?_ -- pc_ 128
              refine sm_T_go 1 (c1 := (6, [some (.inl fn_), some (.inl ip_), some (.inr (.inl la_)), none, some (.inr (.inl lb_)), none, some (.inr (.inl ld_)), none, some (.inr (.inl (l_4 lt_ 0))), none, some (.inl (s_ + 1)), some (.inr (.inl (l_3 ((l_3 ((l_5 la_ (-1))) (-1))) (-1)))), none], [], S_)) rfl ?_
              refine sm_T_wk [some (.inl fn_), some (.inl ip_), some (.inr (.inl la_)), none, some (.inr (.inl lb_)), none, some (.inr (.inl ld_)), none, some (.inr (.inl (l_4 lt_ 0))), none, some (.inl (s_ + 1)), none, none] (by exact ⟨rfl, rfl, rfl, rfl, rfl, rfl, rfl, trivial⟩) ?_
              refine ih_ la_ lb_ ld_ ((l_4 lt_ 0)) (s_ + 1) S_ hI_ hF_ ⟨?_, trivial⟩ ?_
              · omega
              · omega
            · have cx24_ : ¬ (((i_shr fn_ s_) % 2) ≠ 1) := of_decide_eq_false cx24_
              refine sm_T_go 4 (c1 := (128, [some (.inl fn_), some (.inl ip_), some (.inr (.inl la_)), none, some (.inr (.inl lb_)), none, some (.inr (.inl ld_)), none, some (.inr (.inl (l_4 lt_ ((l_3 ((l_3 ((l_5 la_ (-1))) (-1))) (-1)))))), none, some (.inl s_), some (.inr (.inl (l_3 ((l_3 ((l_5 la_ (-1))) (-1))) (-1)))), none], [], S_)) rfl ?_
              refine sm_T_inc (a := 10) (z := 1) (v := s_) (w := s_ + 1) rfl rfl (by omega) (by omega) (by omega) ?_ -- pc_ 128
              refine sm_T_go 1 (c1 := (6, [some (.inl fn_), some (.inl ip_), some (.inr (.inl la_)), none, some (.inr (.inl lb_)), none, some (.inr (.inl ld_)), none, some (.inr (.inl (l_4 lt_ ((l_3 ((l_3 ((l_5 la_ (-1))) (-1))) (-1)))))), none, some (.inl (s_ + 1)), some (.inr (.inl (l_3 ((l_3 ((l_5 la_ (-1))) (-1))) (-1)))), none], [], S_)) rfl ?_
              refine sm_T_wk [some (.inl fn_), some (.inl ip_), some (.inr (.inl la_)), none, some (.inr (.inl lb_)), none, some (.inr (.inl ld_)), none, some (.inr (.inl (l_4 lt_ ((l_3 ((l_3 ((l_5 la_ (-1))) (-1))) (-1)))))), none, some (.inl (s_ + 1)), none, none] (by exact ⟨rfl, rfl, rfl, rfl, rfl, rfl, rfl, trivial⟩) ?_
              refine ih_ la_ lb_ ld_ ((l_4 lt_ ((l_3 ((l_3 ((l_5 la_ (-1))) (-1))) (-1))))) (s_ + 1) S_ hI_ hF_ ⟨?_, trivial⟩ ?_
              · omega
              · omega
      · have cx3_ : ¬ ((s_ % 2) ≠ 1) := of_decide_eq_false cx3_
        refine sm_T_go 6 (c1 := (37, [some (.inl fn_), some (.inl ip_), some (.inr (.inl la_)), none, some (.inr (.inl lb_)), none, some (.inr (.inl ld_)), none, some (.inr (.inl lt_)), none, some (.inl s_), some (.inr (.inl la_)), none], [.inl 2, .inl ip_, .inr (.inl la_)], S_)) rfl ?_
        refine sm_T_br (a := 3) (z := 9) rfl (fun cx25_ => ?_) (fun cx25_ => ?_)
        · have cx25_ : 2 ≤ ip_ := of_decide_eq_true cx25_
          refine sm_T_go 2 (c1 := (49, [some (.inl fn_), some (.inl ip_), some (.inr (.inl la_)), none, some (.inr (.inl lb_)), none, some (.inr (.inl ld_)), none, some (.inr (.inl lt_)), none, some (.inl s_), some (.inr (.inl la_)), none], [.inl 1, .inl s_, .inr (.inl la_)], S_)) rfl ?_
          refine sm_T_bin (w := (s_ / 2)) rfl (bi_shr (k := 1) (by decide) (by omega) (by omega)) ?_ -- pc_ 49
          refine sm_T_go 1 (c1 := (51, [some (.inl fn_), some (.inl ip_), some (.inr (.inl la_)), none, some (.inr (.inl lb_)), none, some (.inr (.inl ld_)), none, some (.inr (.inl lt_)), none, some (.inl s_), some (.inr (.inl la_)), none], [.inl 1, .inl (s_ / 2), .inr (.inl la_)], S_)) rfl ?_
          refine sm_T_bin (w := ((s_ / 2) % 2)) rfl (bi_msk (k := 1) (by decide)) ?_ -- pc_ 51
          refine sm_T_go 1 (c1 := (53, [some (.inl fn_), some (.inl ip_), some (.inr (.inl la_)), none, some (.inr (.inl lb_)), none, some (.inr (.inl ld_)), none, some (.inr (.inl lt_)), none, some (.inl s_), some (.inr (.inl la_)), none], [.inl 1, .inl ((s_ / 2) % 2), .inr (.inl la_)], S_)) rfl ?_
          refine sm_T_br (a := 1) (z := 8) rfl (fun cx26_ => ?_) (fun cx26_ => ?_)
          · have cx26_ : ((s_ / 2) % 2) ≠ 1 := of_decide_eq_true cx26_
            refine sm_T_go 1 (c1 := (63, [some (.inl fn_), some (.inl ip_), some (.inr (.inl la_)), none, some (.inr (.inl lb_)), none, some (.inr (.inl ld_)), none, some (.inr (.inl lt_)), none, some (.inl s_), some (.inr (.inl la_)), none], [.inr (.inl lb_), .inr (.inl la_)], S_)) rfl ?_
            refine sm_T_nt (u := some (.inr (.inl (-1)))) (S1 := S_) rfl rfl rfl ?_
            refine sm_T_go 6 (c1 := (74, [some (.inl fn_), some (.inl ip_), some (.inr (.inl la_)), none, some (.inr (.inl lb_)), none, some (.inr (.inl ld_)), none, some (.inr (.inl lt_)), none, some (.inl s_), some (.inr (.inl (l_3 la_ ((l_5 lb_ (-1)))))), none], [.inl 3, .inl ip_, .inr (.inl (l_3 la_ ((l_5 lb_ (-1)))))], S_)) rfl ?_
            refine sm_T_br (a := 3) (z := 9) rfl (fun cx27_ => ?_) (fun cx27_ => ?_)
            · have cx27_ : 3 ≤ ip_ := of_decide_eq_true cx27_
              refine sm_T_go 2 (c1 := (86, [some (.inl fn_), some (.inl ip_), some (.inr (.inl la_)), none, some (.inr (.inl lb_)), none, some (.inr (.inl ld_)), none, some (.inr (.inl lt_)), none, some (.inl s_), some (.inr (.inl (l_3 la_ ((l_5 lb_ (-1)))))), none], [.inl 2, .inl s_, .inr (.inl (l_3 la_ ((l_5 lb_ (-1)))))], S_)) rfl ?_
              refine sm_T_bin (w := (s_ / 4)) rfl (bi_shr (k := 2) (by decide) (by omega) (by omega)) ?_ -- pc_ 86
              refine sm_T_go 1 (c1 := (88, [some (.inl fn_), some (.inl ip_), some (.inr (.inl la_)), none, some (.inr (.inl lb_)), none, some (.inr (.inl ld_)), none, some (.inr (.inl lt_)), none, some (.inl s_), some (.inr (.inl (l_3 la_ ((l_5 lb_ (-1)))))), none], [.inl 1, .inl (s_ / 4), .inr (.inl (l_3 la_ ((l_5 lb_ (-1)))))], S_)) rfl ?_
              refine sm_T_bin (w := ((s_ / 4) % 2)) rfl (bi_msk (k := 1) (by decide)) ?_ -- pc_ 88
              refine sm_T_go 1 (c1 := (90, [some (.inl fn_), some (.inl ip_), some (.inr (.inl la_)), none, some (.inr (.inl lb_)), none, some (.inr (.inl ld_)), none, some (.inr (.inl lt_)), none, some (.inl s_), some (.inr (.inl (l_3 la_ ((l_5 lb_ (-1)))))), none], [.inl 1, .inl ((s_ / 4) % 2), .inr (.inl (l_3 la_ ((l_5 lb_ (-1)))))], S_)) rfl ?_
              refine sm_T_br (a := 1) (z := 8) rfl (fun cx28_ => ?_) (fun cx28_ => ?_)
              · have cx28_ : ((s_ / 4) % 2) ≠ 1 := of_decide_eq_true cx28_
                refine sm_T_go 1 (c1 := (100, [some (.inl fn_), some (.inl ip_), some (.inr (.inl la_)), none, some (.inr (.inl lb_)), none, some (.inr (.inl ld_)), none, some (.inr (.inl lt_)), none, some (.inl s_), some (.inr (.inl (l_3 la_ ((l_5 lb_ (-1)))))), none], [.inr (.inl ld_), .inr (.inl (l_3 la_ ((l_5 lb_ (-1)))))], S_)) rfl ?_
                refine sm_T_nt (u := some (.inr (.inl (-1)))) (S1 := S_) rfl rfl rfl ?_
                refine sm_T_go 6 (c1 := (112, [some (.inl fn_), some (.inl ip_), some (.inr (.inl la_)), none, some (.inr (.inl lb_)), none, some (.inr (.inl ld_)), none, some (.inr (.inl lt_)), none, some (.inl s_), some (.inr (.inl (l_3 ((l_3 la_ ((l_5 lb_ (-1))))) ((l_5 ld_ (-1)))))), none], [.inl s_, .inl fn_, .inr (.inl lt_)], S_)) rfl ?_
                refine sm_T_bin (w := (i_shr fn_ s_)) rfl rfl ?_ -- pc_ 112
                first | have bx29_ := i_shr_p (x_ := fn_) (e_ := s_) (by omega) (by omega) (by omega) | have bx29_ := i_shr_n fn_ s_
                refine sm_T_go 1 (c1 := (114, [some (.inl fn_), some (.inl ip_), some (.inr (.inl la_)), none, some (.inr (.inl lb_)), none, some (.inr (.inl ld_)), none, some (.inr (.inl lt_)), none, some (.inl s_), some (.inr (.inl (l_3 ((l_3 la_ ((l_5 lb_ (-1))))) ((l_5 ld_ (-1)))))), none], [.inl 1, .inl (i_shr fn_ s_), .inr (.inl lt_)], S_)) rfl ?_
                refine sm_T_bin (w := ((i_shr fn_ s_) % 2)) rfl (bi_msk (k := 1) (by decide)) ?_ -- pc_ 114
                refine sm_T_go 1 (c1 := (116, [some (.inl fn_), some (.inl ip_), some (.inr (.inl la_)), none, some (.inr (.inl lb_)), none, some (.inr (.inl ld_)), none, some (.inr (.inl lt_)), none, some (.inl s_), some (.inr (.inl (l_3 ((l_3 la_ ((l_5 lb_ (-1))))) ((l_5 ld_ (-1)))))), none], [.inl 1, .inl ((i_shr fn_ s_) % 2), .inr (.inl lt_)], S_)) rfl ?_
                refine sm_T_br (a := 1) (z := 8) rfl (fun cx30_ => ?_) (fun cx30_ => ?_)
                · have cx30_ : ((i_shr fn_ s_) % 2) ≠ 1 := of_decide_eq_true cx30_
                  refine sm_T_go 3 (c1 := (128, [some (.inl fn_), some (.inl ip_), some (.inr (.inl la_)), none, some (.inr (.inl lb_)), none, some (.inr (.inl ld_)), none, some (.inr (.inl (l_4 lt_ 0))), none, some (.inl s_), some (.inr (.inl (l_3 ((l_3 la_ ((l_5 lb_ (-1))))) ((l_5 ld_ (-1)))))), none], [], S_)) rfl ?_
                  refine sm_T_inc (a := 10) (z := 1) (v := s_) (w := s_ + 1) rfl rfl (by omega) (by omega) (by omega) ?_ -- pc_ 128
                  refine sm_T_go 1 (c1 := (6, [some (.inl fn_), some (.inl ip_), some (.inr (.inl la_)), none, some (.inr (.inl lb_)), none, some (.inr (.inl ld_)), none, some (.inr (.inl (l_4 lt_ 0))), none, some (.inl (s_ + 1)), some (.inr (.inl (l_3 ((l_3 la_ ((l_5 lb_ (-1))))) ((l_5 ld_ (-1)))))), none], [], S_)) rfl ?_
                  refine sm_T_wk [some (.inl fn_), some (.inl ip_), some (.inr (.inl la_)), none, some (.inr (.inl lb_)), none, some (.inr (.inl ld_)), none, some (.inr (.inl (l_4 lt_ 0))), none, some (.inl (s_ + 1)), none, none] (by exact ⟨rfl, rfl, rfl, rfl, rfl, rfl, rfl, trivial⟩) ?_
                  refine ih_ la_ lb_ ld_ ((l_4 lt_ 0)) (s_ + 1) S_ hI_ hF_ ⟨?_, trivial⟩ ?_
                  · omega
                  · omega
                · have cx30_ : ¬ (((i_shr fn_ s_) % 2) ≠ 1) := of_decide_eq_false cx30_
                  refine sm_T_go 4 (c1 := (128, [some (.inl fn_), some (.inl ip_), some (.inr (.inl la_)), none, some (.inr (.inl lb_)), none, some (.inr (.inl ld_)), none, some (.inr (.inl (l_4 lt_ ((l_3 ((l_3 la_ ((l_5 lb_ (-1))))) ((l_5 ld_ (-1)))))))), none, some (.inl s_), some (.inr (.inl (l_3 ((l_3 la_ ((l_5 lb_ (-1))))) ((l_5 ld_ (-1)))))), none], [], S_)) rfl ?_
                  refine sm_T_inc (a := 10) (z := 1) (v := s_) (w := s_ + 1) rfl rfl (by omega) (by omega) (by omega) ?_ -- pc_ 128
                  refine sm_T_go 1 (c1 := (6, [some (.inl fn_), some (.inl ip_), some (.inr (.inl la_)), none, some (.inr (.inl lb_)), none, some (.inr (.inl ld_)), none, some (.inr (.inl (l_4 lt_ ((l_3 ((l_3 la_ ((l_5 lb_ (-1))))) ((l_5 ld_ (-1)))))))), none, some (.inl (s_ + 1)), some (.inr (.inl (l_3 ((l_3 la_ ((l_5 lb_ (-1))))) ((l_5 ld_ (-1)))))), none], [], S_)) rfl ?_
                  refine sm_T_wk [some (.inl fn_), some (.inl ip_), some (.inr (.inl la_)), none, some (.inr (.inl lb_)), none, some (.inr (.inl ld_)), none, some (.inr (.inl (l_4 lt_ ((l_3 ((l_3 la_ ((l_5 lb_ (-1))))) ((l_5 ld_ (-1)))))))), none, some (.inl (s_ + 1)), none, none] (by exact ⟨rfl, rfl, rfl, rfl, rfl, rfl, rfl, trivial⟩) ?_
                  refine ih_ la_ lb_ ld_ ((l_4 lt_ ((l_3 ((l_3 la_ ((l_5 lb_ (-1))))) ((l_5 ld_ (-1))))))) (s_ + 1) S_ hI_ hF_ ⟨?_, trivial⟩ ?_
                  · omega
                  · omega
              · have cx28_ : ¬ (((s_ / 4) % 2) ≠ 1) := of_decide_eq_false cx28_
                refine sm_T_go 7 (c1 := (112, [some (.inl fn_), some (.inl ip_), some (.inr (.inl la_)), none, some (.inr (.inl lb_)), none, some (.inr (.inl ld_)), none, some (.inr (.inl lt_)), none, some (.inl s_), some (.inr (.inl (l_3 ((l_3 la_ ((l_5 lb_ (-1))))) ld_))), none], [.inl s_, .inl fn_, .inr (.inl lt_)], S_)) rfl ?_
                refine sm_T_bin (w := (i_shr fn_ s_)) rfl rfl ?_ -- pc_ 112
                first | have bx31_ := i_shr_p (x_ := fn_) (e_ := s_) (by omega) (by omega) (by omega) | have bx31_ := i_shr_n fn_ s_
                refine sm_T_go 1 (c1 := (114, [some (.inl fn_), some (.inl ip_), some (.inr (.inl la_)), none, some (.inr (.inl lb_)), none, some (.inr (.inl ld_)), none, some (.inr (.inl lt_)), none, some (.inl s_), some (.inr (.inl (l_3 ((l_3 la_ ((l_5 lb_ (-1))))) ld_))), none], [.inl 1, .inl (i_shr fn_ s_), .inr (.inl lt_)], S_)) rfl ?_
                refine sm_T_bin (w := ((i_shr fn_ s_) % 2)) rfl (bi_msk (k := 1) (by decide)) ?_ -- pc_ 114
                refine sm_T_go 1 (c1 := (116, [some (.inl fn_), some (.inl ip_), some (.inr (.inl la_)), none, some (.inr (.inl lb_)), none, some (.inr (.inl ld_)), none, some (.inr (.inl lt_)), none, some (.inl s_), some (.inr (.inl (l_3 ((l_3 la_ ((l_5 lb_ (-1))))) ld_))), none], [.inl 1, .inl ((i_shr fn_ s_) % 2), .inr (.inl lt_)], S_)) rfl ?_
                refine sm_T_br (a := 1) (z := 8) rfl (fun cx32_ => ?_) (fun cx32_ => ?_)
                · have cx32_ : ((i_shr fn_ s_) % 2) ≠ 1 := of_decide_eq_true cx32_
                  refine sm_T_go 3 (c1 := (128, [some (.inl fn_), some (.inl ip_), some (.inr (.inl la_)), none, some (.inr (.inl lb_)), none, some (.inr (.inl ld_)), none, some (.inr (.inl (l_4 lt_ 0))), none, some (.inl s_), some (.inr (.inl (l_3 ((l_3 la_ ((l_5 lb_ (-1))))) ld_))), none], [], S_)) rfl ?_
                  refine sm_T_inc (a := 10) (z := 1) (v := s_) (w := s_ + 1) rfl rfl (by omega) (by omega) (by omega) ?_ -- pc_ 128
                  refine sm_T_go 1 (c1 := (6, [some (.inl fn_), some (.inl ip_), some (.inr (.inl la_)), none, some (.inr (.inl lb_)), none, some (.inr (.inl ld_)), none, some (.inr (.inl (l_4 lt_ 0))), none, some (.inl (s_ + 1)), some (.inr (.inl (l_3 ((l_3 la_ ((l_5 lb_ (-1))))) ld_))), none], [], S_)) rfl ?_
                  refine sm_T_wk [some (.inl fn_), some (.inl ip_), some (.inr (.inl la_)), none, some (.inr (.inl lb_)), none, some (.inr (.inl ld_)), none, some (.inr (.inl (l_4 lt_ 0))), none, some (.inl (s_ + 1)), none, none] (by exact ⟨rfl, rfl, rfl, rfl, rfl, rfl, rfl, trivial⟩) ?_
                  refine ih_ la_ lb_ ld_ ((l_4 lt_ 0)) (s_ + 1) S_ hI_ hF_ ⟨?_, trivial⟩ ?_
                  · omega
                  · omega
                · have cx32_ : ¬ (((i_shr fn_ s_) % 2) ≠ 1) := of_decide_eq_false cx32_
                  refine sm_T_go 4 (c1 := (128, [some (.inl fn_), some (.inl ip_), some (.inr (.inl la_)), none, some (.inr (.inl lb_)), none, some (.inr (.inl ld_)), none, some (.inr (.inl (l_4 lt_ ((l_3 ((l_3 la_ ((l_5 lb_ (-1))))) ld_))))), none, some (.inl s_), some (.inr (.inl (l_3 ((l_3 la_ ((l_5 lb_ (-1))))) ld_))), none], [], S_)) rfl ?_
                  refine sm_T_inc (a := 10) (z := 1) (v := s_) (w := s_ + 1) rfl rfl (by omega) (by omega) (by omega) ?_ -- pc_ 128
                  refine sm_T_go 1 (c1 := (6, [some (.inl fn_), some (.inl ip_), some (.inr (.inl la_)), none, some (.inr (.inl lb_)), none, some (.inr (.inl ld_)), none, some (.inr (.inl (l_4 lt_ ((l_3 ((l_3 la_ ((l_5 lb_ (-1))))) ld_))))), none, some (.inl (s_ + 1)), some (.inr (.inl (l_3 ((l_3 la_ ((l_5 lb_ (-1))))) ld_))), none], [], S_)) rfl ?_
                  refine sm_T_wk [some (.inl fn_), some (.inl ip_), some (.inr (.inl la_)), none, some (.inr (.inl lb_)), none, some (.inr (.inl ld_)), none, some (.inr (.inl (l_4 lt_ ((l_3 ((l_3 la_ ((l_5 lb_ (-1))))) ld_))))), none, some (.inl (s_ + 1)), none, none] (by exact ⟨rfl, rfl, rfl, rfl, rfl, rfl, rfl, trivial⟩) ?_
                  refine ih_ la_ lb_ ld_ ((l_4 lt_ ((l_3 ((l_3 la_ ((l_5 lb_ (-1))))) ld_)))) (s_ + 1) S_ hI_ hF_ ⟨?_, trivial⟩ ?_
                  · omega
                  · omega
            · have cx27_ : ¬ (3 ≤ ip_) := of_decide_eq_false cx27_
              refine sm_T_nt (u := some (.inr (.inl (-1)))) (S1 := S_) rfl rfl rfl ?_
              refine sm_T_go 6 (c1 := (112, [some (.inl fn_), some (.inl ip_), some (.inr (.inl la_)), none, some (.inr (.inl lb_)), none, some (.inr (.inl ld_)), none, some (.inr (.inl lt_)), none, some (.inl s_), some (.inr (.inl (l_3 ((l_3 la_ ((l_5 lb_ (-1))))) (-1)))), none], [.inl s_, .inl fn_, .inr (.inl lt_)], S_)) rfl ?_
              refine sm_T_bin (w := (i_shr fn_ s_)) rfl rfl ?_ -- pc_ 112
              first | have bx33_ := i_shr_p (x_ := fn_) (e_ := s_) (by omega) (by omega) (by omega) | have bx33_ := i_shr_n fn_ s_
              refine sm_T_go 1 (c1 := (114, [some (.inl fn_), some (.inl ip_), some (.inr (.inl la_)), none, some (.inr (.inl lb_)), none, some (.inr (.inl ld_)), none, some (.inr (.inl lt_)), none, some (.inl s_), some (.inr (.inl (l_3 ((l_3 la_ ((l_5 lb_ (-1))))) (-1)))), none], [.inl 1, .inl (i_shr fn_ s_), .inr (.inl lt_)], S_)) rfl ?_
              refine sm_T_bin (w := ((i_shr fn_ s_) % 2)) rfl (bi_msk (k := 1) (by decide)) ?_ -- pc_ 114
              refine sm_T_go 1 (c1 := (116, [some (.inl fn_), some (.inl ip_), some (.inr (.inl la_)), none, some (.inr (.inl lb_)), none, some (.inr (.inl ld_)), none, some (.inr (.inl lt_)), none, some (.inl s_), some (.inr (.inl (l_3 ((l_3 la_ ((l_5 lb_ (-1))))) (-1)))), none], [.inl 1, .inl ((i_shr fn_ s_) % 2), .inr (.inl lt_)], S_)) rfl ?_
              refine sm_T_br (a := 1) (z := 8) rfl (fun cx34_ => ?_) (fun cx34_ => ?_)
              · have cx34_ : ((i_shr fn_ s_) % 2) ≠ 1 := of_decide_eq_true cx34_
                refine sm_T_go 3 (c1 := (128, [some (.inl fn_), some (.inl ip_), some (.inr (.inl la_)), none, some (.inr (.inl lb_)), none, some (.inr (.inl ld_)), none, some (.inr (.inl (l_4 lt_ 0))), none, some (.inl s_), some (.inr (.inl (l_3 ((l_3 la_ ((l_5 lb_ (-1))))) (-1)))), none], [], S_)) rfl ?_
                refine sm_T_inc (a := 10) (z := 1) (v := s_) (w := s_ + 1) rfl rfl (by omega) (by omega) (by omega) ?_ -- pc_ 128
                refine sm_T_go 1 (c1 := (6, [some (.inl fn_), some (.inl ip_), some (.inr (.inl la_)), none, some (.inr (.inl lb_)), none, some (.inr (.inl ld_)), none, some (.inr (.inl (l_4 lt_ 0))), none, some (.inl (s_ + 1)), some (.inr (.inl (l_3 ((l_3 la_ ((l_5 lb_ (-1))))) (-1)))), none], [], S_)) rfl ?_
                refine sm_T_wk [some (.inl fn_), some (.inl ip_), some (.inr (.inl la_)), none, some (.inr (.inl lb_)), none, some (.inr (.inl ld_)), none, some (.inr (.inl (l_4 lt_ 0))), none, some (.inl (s_ + 1)), none, none] (by exact ⟨rfl, rfl, rfl, rfl, rfl, rfl, rfl, trivial⟩) ?_
                refine ih_ la_ lb_ ld_ ((l_4 lt_ 0)) (s_ + 1) S_ hI_ hF_ ⟨?_, trivial⟩ ?_
                · omega
                · omega
              · have cx34_ : ¬ (((i_shr fn_ s_) % 2) ≠ 1) := of_decide_eq_false cx34_
                refine sm_T_go 4 (c1 := (128, [some (.inl fn_), some (.inl ip_), some (.inr (.inl la_)), none, some (.inr (.inl lb_)), none, some (.inr (.inl ld_)), none, some (.inr (.inl (l_4 lt_ ((l_3 ((l_3 la_ ((l_5 lb_ (-1))))) (-1)))))), none, some (.inl s_), some (.inr (.inl (l_3 ((l_3 la_ ((l_5 lb_ (-1))))) (-1)))), none], [], S_)) rfl ?_
                refine sm_T_inc (a := 10) (z := 1) (v := s_) (w := s_ + 1) rfl rfl (by omega) (by omega) (by omega) ?_ -- pc_ 128
                refine sm_T_go 1 (c1 := (6, [some (.inl fn_), some (.inl ip_), some (.inr (.inl la_)), none, some (.inr (.inl lb_)), none, some (.inr (.inl ld_)), none, some (.inr (.inl (l_4 lt_ ((l_3 ((l_3 la_ ((l_5 lb_ (-1))))) (-1)))))), none, some (.inl (s_ + 1)), some (.inr (.inl (l_3 ((l_3 la_ ((l_5 lb_ (-1))))) (-1)))), none], [], S_)) rfl ?_
                refine sm_T_wk [some (.inl fn_), some (.inl ip_), some (.inr (.inl la_)), none, some (.inr (.inl lb_)), none, some (.inr (.inl ld_)), none, some (.inr (.inl (l_4 lt_ ((l_3 ((l_3 la_ ((l_5 lb_ (-1))))) (-1)))))), none, some (.inl (s_ + 1)), none, none] (by exact ⟨rfl, rfl, rfl, rfl, rfl, rfl, rfl, trivial⟩) ?_
                refine ih_ la_ lb_ ld_ ((l_4 lt_ ((l_3 ((l_3 la_ ((l_5 lb_ (-1))))) (-1))))) (s_ + 1) S_ hI_ hF_ ⟨?_, trivial⟩ ?_
                · omega
                · omega
          · have cx26_ : ¬ (((s_ / 2) % 2) ≠ 1) := of_decide_eq_false cx26_
            refine sm_T_go 7 (c1 := (74, [some (.inl fn_), some (.inl ip_), some (.inr (.inl la_)), none, some (.inr (.inl lb_)), none, some (.inr (.inl ld_)), none, some (.inr (.inl lt_)), none, some (.inl s_), some (.inr (.inl (l_3 la_ lb_))), none], [.inl 3, .inl ip_, .inr (.inl (l_3 la_ lb_))], S_)) rfl ?_
            refine sm_T_br (a := 3) (z := 9) rfl (fun cx35_ => ?_) (fun cx35_ => ?_)
            · have cx35_ : 3 ≤ ip_ := of_decide_eq_true cx35_
              refine sm_T_go 2 (c1 := (86, [some (.inl fn_), some (.inl ip_), some (.inr (.inl la_)), none, some (.inr (.inl lb_)), none, some (.inr (.inl ld_)), none, some (.inr (.inl lt_)), none, some (.inl s_), some (.inr (.inl (l_3 la_ lb_))), none], [.inl 2, .inl s_, .inr (.inl (l_3 la_ lb_))], S_)) rfl ?_
              refine sm_T_bin (w := (s_ / 4)) rfl (bi_shr (k := 2) (by decide) (by omega) (by omega)) ?_ -- pc_ 86
              refine sm_T_go 1 (c1 := (88, [some (.inl fn_), some (.inl ip_), some (.inr (.inl la_)), none, some (.inr (.inl lb_)), none, some (.inr (.inl ld_)), none, some (.inr (.inl lt_)), none, some (.inl s_), some (.inr (.inl (l_3 la_ lb_))), none], [.inl 1, .inl (s_ / 4), .inr (.inl (l_3 la_ lb_))], S_)) rfl ?_
              refine sm_T_bin (w := ((s_ / 4) % 2)) rfl (bi_msk (k := 1) (by decide)) ?_ -- pc_ 88
              refine sm_T_go 1 (c1 := (90, [some (.inl fn_), some (.inl ip_), some (.inr (.inl la_)), none, some (.inr (.inl lb_)), none, some (.inr (.inl ld_)), none, some (.inr (.inl lt_)), none, some (.inl s_), some (.inr (.inl (l_3 la_ lb_))), none], [.inl 1, .inl ((s_ / 4) % 2), .inr (.inl (l_3 la_ lb_))], S_)) rfl ?_
              refine sm_T_br (a := 1) (z := 8) rfl (fun cx36_ => ?_) (fun cx36_ => ?_)
              · have cx36_ : ((s_ / 4) % 2) ≠ 1 := of_decide_eq_true cx36_
                refine sm_T_go 1 (c1 := (100, [some (.inl fn_), some (.inl ip_), some (.inr (.inl la_)), none, some (.inr (.inl lb_)), none, some (.inr (.inl ld_)), none, some (.inr (.inl lt_)), none, some (.inl s_), some (.inr (.inl (l_3 la_ lb_))), none], [.inr (.inl ld_), .inr (.inl (l_3 la_ lb_))], S_)) rfl ?_
                refine sm_T_nt (u := some (.inr (.inl (-1)))) (S1 := S_) rfl rfl rfl ?_
                refine sm_T_go 6 (c1 := (112, [some (.inl fn_), some (.inl ip_), some (.inr (.inl la_)), none, some (.inr (.inl lb_)), none, some (.inr (.inl ld_)), none, some (.inr (.inl lt_)), none, some (.inl s_), some (.inr (.inl (l_3 ((l_3 la_ lb_)) ((l_5 ld_ (-1)))))), none], [.inl s_, .inl fn_, .inr (.inl lt_)], S_)) rfl ?_
                refine sm_T_bin (w := (i_shr fn_ s_)) rfl rfl ?_ -- pc_ 112
                first | have bx37_ := i_shr_p (x_ := fn_) (e_ := s_) (by omega) (by omega) (by omega) | have bx37_ := i_shr_n fn_ s_
                refine sm_T_go 1 (c1 := (114, [some (.inl fn_), some (.inl ip_), some (.inr (.inl la_)), none, some (.inr (.inl lb_)), none, some (.inr (.inl ld_)), none, some (.inr (.inl lt_)), none, some (.inl s_), some (.inr (.inl (l_3 ((l_3 la_ lb_)) ((l_5 ld_ (-1)))))), none], [.inl 1, .inl (i_shr fn_ s_), .inr (.inl lt_)], S_)) rfl ?_
                refine sm_T_bin (w := ((i_shr fn_ s_) % 2)) rfl (bi_msk (k := 1) (by decide)) ?_ -- pc_ 114
                refine sm_T_go 1 (c1 := (116, [some (.inl fn_), some (.inl ip_), some (.inr (.inl la_)), none, some (.inr (.inl lb_)), none, some (.inr (.inl ld_)), none, some (.inr (.inl lt_)), none, some (.inl s_), some (.inr (.inl (l_3 ((l_3 la_ lb_)) ((l_5 ld_ (-1)))))), none], [.inl 1, .inl ((i_shr fn_ s_) % 2), .inr (.inl lt_)], S_)) rfl ?_
                refine sm_T_br (a := 1) (z := 8) rfl (fun cx38_ => ?_) (fun cx38_ => ?_)
                · have cx38_ : ((i_shr fn_ s_) % 2) ≠ 1 := of_decide_eq_true cx38_
                  refine sm_T_go 3 (c1 := (128, [some (.inl fn_), some (.inl ip_), some (.inr (.inl la_)), none, some (.inr (.inl lb_)), none, some (.inr (.inl ld_)), none, some (.inr (.inl (l_4 lt_ 0))), none, some (.inl s_), some (.inr (.inl (l_3 ((l_3 la_ lb_)) ((l_5 ld_ (-1)))))), none], [], S_)) rfl ?_
                  refine sm_T_inc (a := 10) (z := 1) (v := s_) (w := s_ + 1) rfl rfl (by omega) (by omega) (by omega) ?_ -- pc_ 128
                  refine sm_T_go 1 (c1 := (6, [some (.inl fn_), some (.inl ip_), some (.inr (.inl la_)), none, some (.inr (.inl lb_)), none, some (.inr (.inl ld_)), none, some (.inr (.inl (l_4 lt_ 0))), none, some (.inl (s_ + 1)), some (.inr (.inl (l_3 ((l_3 la_ lb_)) ((l_5 ld_ (-1)))))), none], [], S_)) rfl ?_
                  refine sm_T_wk [some (.inl fn_), some (.inl ip_), some (.inr (.inl la_)), none, some (.inr (.inl lb_)), none, some (.inr (.inl ld_)), none, some (.inr (.inl (l_4 lt_ 0))), none, some (.inl (s_ + 1)), none, none] (by exact ⟨rfl, rfl, rfl, rfl, rfl, rfl, rfl, trivial⟩) ?_
                  refine ih_ la_ lb_ ld_ ((l_4 lt_ 0)) (s_ + 1) S_ hI_ hF_ ⟨?_, trivial⟩ ?_
                  · omega
                  · omega
                · have cx38_ : ¬ (((i_shr fn_ s_) % 2) ≠ 1) := of_decide_eq_false cx38_
                  refine sm_T_go 4 (c1 := (128, [some (.inl fn_), some (.inl ip_), some (.inr (.inl la_)), none, some (.inr (.inl lb_)), none, some (.inr (.inl ld_)), none, some (.inr (.inl (l_4 lt_ ((l_3 ((l_3 la_ lb_)) ((l_5 ld_ (-1)))))))), none, some (.inl s_), some (.inr (.inl (l_3 ((l_3 la_ lb_)) ((l_5 ld_ (-1)))))), none], [], S_)) rfl ?_
                  refine sm_T_inc (a := 10) (z := 1) (v := s_) (w := s_ + 1) rfl rfl (by omega) (by omega) (by omega) ?_ -- pc_ 128
                  refine sm_T_go 1 (c1 := (6, [some (.inl fn_), some (.inl ip_), some (.inr (.inl la_)), none, some (.inr (.inl lb_)), none, some (.inr (.inl ld_)), none, some (.inr (.inl (l_4 lt_ ((l_3 ((l_3 la_ lb_)) ((l_5 ld_ (-1)))))))), none, some (.inl (s_ + 1)), some (.inr (.inl (l_3 ((l_3 la_ lb_)) ((l_5 ld_ (-1)))))), none], [], S_)) rfl ?_
                  refine sm_T_wk [some (.inl fn_), some (.inl ip_), some (.inr (.inl la_)), none, some (.inr (.inl lb_)), none, some (.inr (.inl ld_)), none, some (.inr (.inl (l_4 lt_ ((l_3 ((l_3 la_ lb_)) ((l_5 ld_ (-1)))))))), none, some (.inl (s_ + 1)), none, none] (by exact ⟨rfl, rfl, rfl, rfl, rfl, rfl, rfl, trivial⟩) ?_
                  refine ih_ la_ lb_ ld_ ((l_4 lt_ ((l_3 ((l_3 la_ lb_)) ((l_5 ld_ (-1))))))) (s_ + 1) S_ hI_ hF_ ⟨?_, trivial⟩ ?_
                  · omega
                  · omega
              · have cx36_ : ¬ (((s_ / 4) % 2) ≠ 1) := of_decide_eq_false cx36_
                refine sm_T_go 7 (c1 := (112, [some (.inl fn_), some (.inl ip_), some (.inr (.inl la_)), none, some (.inr (.inl lb_)), none, some (.inr (.inl ld_)), none, some (.inr (.inl lt_)), none, some (.inl s_), some (.inr (.inl (l_3 ((l_3 la_ lb_)) ld_))), none], [.inl s_, .inl fn_, .inr (.inl lt_)], S_)) rfl ?_
                refine sm_T_bin (w := (i_shr fn_ s_)) rfl rfl ?_ -- pc_ 112
                first | have bx39_ := i_shr_p (x_ := fn_) (e_ := s_) (by omega) (by omega) (by omega) | have bx39_ := i_shr_n fn_ s_
                refine sm_T_go 1 (c1 := (114, [some (.inl fn_), some (.inl ip_), some (.inr (.inl la_)), none, some (.inr (.inl lb_)), none, some (.inr (.inl ld_)), none, some (.inr (.inl lt_)), none, some (.inl s_), some (.inr (.inl (l_3 ((l_3 la_ lb_)) ld_))), none], [.inl 1, .inl (i_shr fn_ s_), .inr (.inl lt_)], S_)) rfl ?_
                refine sm_T_bin (w := ((i_shr fn_ s_) % 2)) rfl (bi_msk (k := 1) (by decide)) ?_ -- pc_ 114
                refine sm_T_go 1 (c1 := (116, [some (.inl fn_), some (.inl ip_), some (.inr (.inl la_)), none, some (.inr (.inl lb_)), none, some (.inr (.inl ld_)), none, some (.inr (.inl lt_)), none, some (.inl s_), some (.inr (.inl (l_3 ((l_3 la_ lb_)) ld_))), none], [.inl 1, .inl ((i_shr fn_ s_) % 2), .inr (.inl lt_)], S_)) rfl ?_
                refine sm_T_br (a := 1) (z := 8) rfl (fun cx40_ => ?_) (fun cx40_ => ?_)
                · have cx40_ : ((i_shr fn_ s_) % 2) ≠ 1 := of_decide_eq_true cx40_
                  refine sm_T_go 3 (c1 := (128, [some (.inl fn_), some (.inl ip_), some (.inr (.inl la_)), none, some (.inr (.inl lb_)), none, some (.inr (.inl ld_)), none, some (.inr (.inl (l_4 lt_ 0))), none, some (.inl s_), some (.inr (.inl (l_3 ((l_3 la_ lb_)) ld_))), none], [], S_)) rfl ?_
                  refine sm_T_inc (a := 10) (z := 1) (v := s_) (w := s_ + 1) rfl rfl (by omega) (by omega) (by omega) ?_ -- pc_ 128
                  refine sm_T_go 1 (c1 := (6, [some (.inl fn_), some (.inl ip_), some (.inr (.inl la_)), none, some (.inr (.inl lb_)), none, some (.inr (.inl ld_)), none, some (.inr (.inl (l_4 lt_ 0))), none, some (.inl (s_ + 1)), some (.inr (.inl (l_3 ((l_3 la_ lb_)) ld_))), none], [], S_)) rfl ?_
                  refine sm_T_wk [some (.inl fn_), some (.inl ip_), some (.inr (.inl la_)), none, some (.inr (.inl lb_)), none, some (.inr (.inl ld_)), none, some (.inr (.inl (l_4 lt_ 0))), none, some (.inl (s_ + 1)), none, none] (by exact ⟨rfl, rfl, rfl, rfl, rfl, rfl, rfl, trivial⟩) ?_
                  refine ih_ la_ lb_ ld_ ((l_4 lt_ 0)) (s_ + 1) S_ hI_ hF_ ⟨?_, trivial⟩ ?_
                  · omega
                  · omega
                · have cx40_ : ¬ (((i_shr fn_ s_) % 2) ≠ 1) := of_decide_eq_false cx40_
                  refine sm_T_go 4 (c1 := (128, [some (.inl fn_), some (.inl ip_), some (.inr (.inl la_)), none, some (.inr (.inl lb_)), none, some (.inr (.inl ld_)), none, some (.inr (.inl (l_4 lt_ ((l_3 ((l_3 la_ lb_)) ld_))))), none, some (.inl s_), some (.inr (.inl (l_3 ((l_3 la_ lb_)) ld_))), none], [], S_)) rfl ?_
                  refine sm_T_inc (a := 10) (z := 1) (v := s_) (w := s_ + 1) rfl rfl (by omega) (by omega) (by omega) ?_ -- pc_ 128
                  refine sm_T_go 1 (c1 := (6, [some (.inl fn_), some (.inl ip_), some (.inr (.inl la_)), none, some (.inr (.inl lb_)), none, some (.inr (.inl ld_)), none, some (.inr (.inl (l_4 lt_ ((l_3 ((l_3 la_ lb_)) ld_))))), none, some (.inl (s_ + 1)), some (.inr (.inl (l_3 ((l_3 la_ lb_)) ld_))), none], [], S_)) rfl ?_
                  refine sm_T_wk [some (.inl fn_), some (.inl ip_), some (.inr (.inl la_)), none, some (.inr (.inl lb_)), none, some (.inr (.inl ld_)), none, some (.inr (.inl (l_4 lt_ ((l_3 ((l_3 la_ lb_)) ld_))))), none, some (.inl (s_ + 1)), none, none] (by exact ⟨rfl, rfl, rfl, rfl, rfl, rfl, rfl, trivial⟩) ?_
                  refine ih_ la_ lb_ ld_ ((l_4 lt_ ((l_3 ((l_3 la_ lb_)) ld_)))) (s_ + 1) S_ hI_ hF_ ⟨?_, trivial⟩ ?_
                  · omega
                  · omega
            · have cx35_ : ¬ (3 ≤ ip_) := of_decide_eq_false cx35_
              refine sm_T_nt (u := some (.inr (.inl (-1)))) (S1 := S_) rfl rfl rfl ?_
              refine sm_T_go 6 (c1 := (112, [some (.inl fn_), some (.inl ip_), some (.inr (.inl la_)), none, some (.inr (.inl lb_)), none, some (.inr (.inl ld_)), none, some (.inr (.inl lt_)), none, some (.inl s_), some (.inr (.inl (l_3 ((l_3 la_ lb_)) (-1)))), none], [.inl s_, .inl fn_, .inr (.inl lt_)], S_)) rfl ?_
              refine sm_T_bin (w := (i_shr fn_ s_)) rfl rfl ?_ -- pc_ 112
              first | have bx41_ := i_shr_p (x_ := fn_) (e_ := s_) (by omega) (by omega) (by omega) | have bx41_ := i_shr_n fn_ s_
              refine sm_T_go 1 (c1 := (114, [some (.inl fn_), some (.inl ip_), some (.inr (.inl la_)), none, some (.inr (.inl lb_)), none, some (.inr (.inl ld_)), none, some (.inr (.inl lt_)), none, some (.inl s_), some (.inr (.inl (l_3 ((l_3 la_ lb_)) (-1)))), none], [.inl 1, .inl (i_shr fn_ s_), .inr (.inl lt_)], S_)) rfl ?_
              refine sm_T_bin (w := ((i_shr fn_ s_) % 2)) rfl (bi_msk (k := 1) (by decide)) ?_ -- pc_ 114
              refine sm_T_go 1 (c1 := (116, [some (.inl fn_), some (.inl ip_), some (.inr (.inl la_)), none, some (.inr (.inl lb_)), none, some (.inr (.inl ld_)), none, some (.inr (.inl lt_)), none, some (.inl s_), some (.inr (.inl (l_3 ((l_3 la_ lb_)) (-1)))), none], [.inl 1, .inl ((i_shr fn_ s_) % 2), .inr (.inl lt_)], S_)) rfl ?_
              refine sm_T_br (a := 1) (z := 8) rfl (fun cx42_ => ?_) (fun cx42_ => ?_)
              · have cx42_ : ((i_shr fn_ s_) % 2) ≠ 1 := of_decide_eq_true cx42_
                refine sm_T_go 3 (c1 := (128, [some (.inl fn_), some (.inl ip_), some (.inr (.inl la_)), none, some (.inr (.inl lb_)), none, some (.inr (.inl ld_)), none, some (.inr (.inl (l_4 lt_ 0))), none, some (.inl s_), some (.inr (.inl (l_3 ((l_3 la_ lb_)) (-1)))), none], [], S_)) rfl ?_
                refine sm_T_inc (a := 10) (z := 1) (v := s_) (w := s_ + 1) rfl rfl (by omega) (by omega) (by omega) ?_ -- pc_ 128
                refine sm_T_go 1 (c1 := (6, [some (.inl fn_), some (.inl ip_), some (.inr (.inl la_)), none, some (.inr (.inl lb_)), none, some (.inr (.inl ld_)), none, some (.inr (.inl (l_4 lt_ 0))), none, some (.inl (s_ + 1)), some (.inr (.inl (l_3 ((l_3 la_ lb_)) (-1)))), none], [], S_)) rfl ?_
                refine sm_T_wk [some (.inl fn_), some (.inl ip_), some (.inr (.inl la_)), none, some (.inr (.inl lb_)), none, some (.inr (.inl ld_)), none, some (.inr (.inl (l_4 lt_ 0))), none, some (.inl (s_ + 1)), none, none] (by exact ⟨rfl, rfl, rfl, rfl, rfl, rfl, rfl, trivial⟩) ?_
                refine ih_ la_ lb_ ld_ ((l_4 lt_ 0)) (s_ + 1) S_ hI_ hF_ ⟨?_, trivial⟩ ?_
                · omega
                · omega
              · have cx42_ : ¬ (((i_shr fn_ s_) % 2) ≠ 1) := of_decide_eq_false cx42_
                refine sm_T_go 4 (c1 := (128, [some (.inl fn_), some (.inl ip_), some (.inr (.inl la_)), none, some (.inr (.inl lb_)), none, some (.inr (.inl ld_)), none, some (.inr (.inl (l_4 lt_ ((l_3 ((l_3 la_ lb_)) (-1)))))), none, some (.inl s_), some (.inr (.inl (l_3 ((l_3 la_ lb_)) (-1)))), none], [], S_)) rfl ?_
                refine sm_T_inc (a := 10) (z := 1) (v := s_) (w := s_ + 1) rfl rfl (by omega) (by omega) (by omega) ?_ -- pc_ 128
                refine sm_T_go 1 (c1 := (6, [some (.inl fn_), some (.inl ip_), some (.inr (.inl la_)), none, some (.inr (.inl lb_)), none, some (.inr (.inl ld_)), none, some (.inr (.inl (l_4 lt_ ((l_3 ((l_3 la_ lb_)) (-1)))))), none, some (.inl (s_ + 1)), some (.inr (.inl (l_3 ((l_3 la_ lb_)) (-1)))), none], [], S_)) rfl ?_
                refine sm_T_wk [some (.inl fn_), some (.inl ip_), some (.inr (.inl la_)), none, some (.inr (.inl lb_)), none, some (.inr (.inl ld_)), none, some (.inr (.inl (l_4 lt_ ((l_3 ((l_3 la_ lb_)) (-1)))))), none, some (.inl (s_ + 1)), none, none] (by exact ⟨rfl, rfl, rfl, rfl, rfl, rfl, rfl, trivial⟩) ?_
                refine ih_ la_ lb_ ld_ ((l_4 lt_ ((l_3 ((l_3 la_ lb_)) (-1))))) (s_ + 1) S_ hI_ hF_ ⟨?_, trivial⟩ ?_
                · omega
                · omega
        · have cx25_ : ¬ (2 ≤ ip_) := of_decide_eq_false cx25_
          refine sm_T_nt (u := some (.inr (.inl (-1)))) (S1 := S_) rfl rfl rfl ?_
          refine sm_T_go 6 (c1 := (74, [some (.inl fn_), some (.inl ip_), some (.inr (.inl la_)), none, some (.inr (.inl lb_)), none, some (.inr (.inl ld_)), none, some (.inr (.inl lt_)), none, some (.inl s_), some (.inr (.inl (l_3 la_ (-1)))), none], [.inl 3, .inl ip_, .inr (.inl (l_3 la_ (-1)))], S_)) rfl ?_
          refine sm_T_br (a := 3) (z := 9) rfl (fun cx43_ => ?_) (fun cx43_ => ?_)
          · have cx43_ : 3 ≤ ip_ := of_decide_eq_true cx43_
            exfalso; omega
          · have cx43_ : ¬ (3 ≤ ip_) := of_decide_eq_false cx43_
            refine sm_T_nt (u := some (.inr (.inl (-1)))) (S1 := S_) rfl rfl rfl ?_
            refine sm_T_go 6 (c1 := (112, [some (.inl fn_), some (.inl ip_), some (.inr (.inl la_)), none, some (.inr (.inl lb_)), none, some (.inr (.inl ld_)), none, some (.inr (.inl lt_)), none, some (.inl s_), some (.inr (.inl (l_3 ((l_3 la_ (-1))) (-1)))), none], [.inl s_, .inl fn_, .inr (.inl lt_)], S_)) rfl ?_
            refine sm_T_bin (w := (i_shr fn_ s_)) rfl rfl ?_ -- pc_ 112
            first | have bx44_ := i_shr_p (x_ := fn_) (e_ := s_) (by omega) (by omega) (by omega) | have bx44_ := i_shr_n fn_ s_
            refine sm_T_go 1 (c1 := (114, [some (.inl fn_), some (.inl ip_), some (.inr (.inl la_)), none, some (.inr (.inl lb_)), none, some (.inr (.inl ld_)), none, some (.inr (.inl lt_)), none, some (.inl s_), some (.inr (.inl (l_3 ((l_3 la_ (-1))) (-1)))), none], [.inl 1, .inl (i_shr fn_ s_), .inr (.inl lt_)], S_)) rfl ?_
            refine sm_T_bin (w := ((i_shr fn_ s_) % 2)) rfl (bi_msk (k := 1) (by decide)) ?_ -- pc_ 114
            refine sm_T_go 1 (c1 := (116, [some (.inl fn_), some (.inl ip_), some (.inr (.inl la_)), none, some (.inr (.inl lb_)), none, some (.inr (.inl ld_)), none, some (.inr (.inl lt_)), none, some (.inl s_), some (.inr (.inl (l_3 ((l_3 la_ (-1))) (-1)))), none], [.inl 1, .inl ((i_shr fn_ s_) % 2), .inr (.inl lt_)], S_)) rfl ?_
            refine sm_T_br (a := 1) (z := 8) rfl (fun cx45_ => ?_) (fun cx45_ => ?_)
            · have cx45_ : ((i_shr fn_ s_) % 2) ≠ 1 := of_decide_eq_true cx45_
              refine sm_T_go 3 (c1 := (128, [some (.inl fn_), some (.inl ip_), some (.inr (.inl la_)), none, some (.inr (.inl lb_)), none, some (.inr (.inl ld_)), none, some (.inr (.inl (l_4 lt_ 0))), none, some (.inl s_), some (.inr (.inl (l_3 ((l_3 la_ (-1))) (-1)))), none], [], S_)) rfl ?_
              refine sm_T_inc (a := 10) (z := 1) (v := s_) (w := s_ + 1) rfl rfl (by omega) (by omega) (by omega) ?_ -- pc_ 128
              refine sm_T_go 1 (c1 := (6, [some (.inl fn_), some (.inl ip_), some (.inr (.inl la_)), none, some (.inr (.inl lb_)), none, some (.inr (.inl ld_)), none, some (.inr (.inl (l_4 lt_ 0))), none, some (.inl (s_ + 1)), some (.inr (.inl (l_3 ((l_3 la_ (-1))) (-1)))), none], [], S_)) rfl ?_
              refine sm_T_wk [some (.inl fn_), some (.inl ip_), some (.inr (.inl la_)), none, some (.inr (.inl lb_)), none, some (.inr (.inl ld_)), none, some (.inr (.inl (l_4 lt_ 0))), none, some (.inl (s_ + 1)), none, none] (by exact ⟨rfl, rfl, rfl, rfl, rfl, rfl, rfl, trivial⟩) ?_
              refine ih_ la_ lb_ ld_ ((l_4 lt_ 0)) (s_ + 1) S_ hI_ hF_ ⟨?_, trivial⟩ ?_
              · omega
              · omega
            · have cx45_ : ¬ (((i_shr fn_ s_) % 2) ≠ 1) := of_decide_eq_false cx45_
              refine sm_T_go 4 (c1 := (128, [some (.inl fn_), some (.inl ip_), some (.inr (.inl la_)), none, some (.inr (.inl lb_)), none, some (.inr (.inl ld_)), none, some (.inr (.inl (l_4 lt_ ((l_3 ((l_3 la_ (-1))) (-1)))))), none, some (.inl s_), some (.inr (.inl (l_3 ((l_3 la_ (-1))) (-1)))), none], [], S_)) rfl ?_
              refine sm_T_inc (a := 10) (z := 1) (v := s_) (w := s_ + 1) rfl rfl (by omega) (by omega) (by omega) ?_ -- pc_ 128
              refine sm_T_go 1 (c1 := (6, [some (.inl fn_), some (.inl ip_), some (.inr (.inl la_)), none, some (.inr (.inl lb_)), none, some (.inr (.inl ld_)), none, some (.inr (.inl (l_4 lt_ ((l_3 ((l_3 la_ (-1))) (-1)))))), none, some (.inl (s_ + 1)), some (.inr (.inl (l_3 ((l_3 la_ (-1))) (-1)))), none], [], S_)) rfl ?_
              refine sm_T_wk [some (.inl fn_), some (.inl ip_), some (.inr (.inl la_)), none, some (.inr (.inl lb_)), none, some (.inr (.inl ld_)), none, some (.inr (.inl (l_4 lt_ ((l_3 ((l_3 la_ (-1))) (-1)))))), none, some (.inl (s_ + 1)), none, none] (by exact ⟨rfl, rfl, rfl, rfl, rfl, rfl, rfl, trivial⟩) ?_
              refine ih_ la_ lb_ ld_ ((l_4 lt_ ((l_3 ((l_3 la_ (-1))) (-1))))) (s_ + 1) S_ hI_ hF_ ⟨?_, trivial⟩ ?_
              · omega
              · omega
set_option maxHeartbeats 400000 in
set_option maxRecDepth 20000 in
theorem vc_429 {sc_ : Nat × (Nat → Int)} (fn_ : Int) (ip_ : Int) (la_ : Int) (lb_ : Int) (ld_ : Int) (S0_ : sm_S) (hI_ : gi S0_) (hf_ : 0 ≤ fn_ ∧ fn_ ≤ 255) (hi_ : 0 ≤ ip_ ∧ ip_ ≤ 3) : sm_T (mt_P sc_) 0 429 (0, [some (.inl fn_), some (.inl ip_), some (.inr (.inl la_)), none, some (.inr (.inl lb_)), none, some (.inr (.inl ld_)), none, none, none, none, none, none], [], S0_) (fun ro9_ => ∃ u_ S1_, ro9_ = (.inl u_, S1_, 0) ∧ vq_429 fn_ ip_ la_ lb_ ld_ S0_ u_ S1_) := by
  have hF_ : ai_fr (sx_W vw_429) S0_ S0_ := ai_fr_rf
  refine sm_T_go 4 (c1 := (6, [some (.inl fn_), some (.inl ip_), some (.inr (.inl la_)), none, some (.inr (.inl lb_)), none, some (.inr (.inl ld_)), none, some (.inr (.inl 0)), none, some (.inl 0), none, none], [], S0_)) rfl ?_
  refine (vl_429 fn_ ip_ la_ lb_ ld_ S0_ hf_ hi_ _) la_ lb_ ld_ 0 0 S0_ hI_ hF_ ⟨?_, trivial⟩ (Nat.lt_succ_self _)
  · omega
/-! M_.workNets -/
def vw_430 : sx_Wl := ([], [238], [])
def vq_430 (c_ : Int) (w_ : Int) (stuck : Int) (pin_ : Int) (lv_ : Int) (S0_ : sm_S) (u_ : Option sm_V) (S1_ : sm_S) : Prop := u_ = none ∧ gi S1_ ∧ ai_fr (sx_W vw_430) S0_ S1_ ∧ (True)
set_option maxHeartbeats 400000 in
set_option maxRecDepth 20000 in
theorem vl_430 {sc_ : Nat × (Nat → Int)} (c_ : Int) (w_ : Int) (stuck : Int) (pin_ : Int) (lv_ : Int) (S0_ : sm_S) (hc_ : 0 ≤ c_ ∧ c_ ≤ 3) (hw_ : 0 ≤ w_ ∧ w_ ≤ 63) (hx_ : S0_.2.2.1 223 0 c_.toNat + S0_.2.2.1 224 0 c_.toNat ≤ 12) (hg_ : cgt c_ S0_) : ∀ nn_ : Nat, (∀ (lv_ : Int) (fi_ : Int) (n_ : Int) (S_ : sm_S), gi S_ → ai_fr (sx_W vw_430) S0_ S_ → ((0 ≤ n_ ∧ n_ ≤ fi_ ∧ fi_ = S0_.2.2.1 223 0 c_.toNat + S0_.2.2.1 224 0 c_.toNat) ∧ True) → ((9000 - n_).toNat) < nn_ → sm_T (mt_P sc_) 1 430 (18, [some (.inr (.inr (some (13, 0)))), some (.inl c_), some (.inl w_), some (.inl stuck), some (.inl pin_), some (.inr (.inl lv_)), none, some (.inl fi_), some (.inl n_), none, none, none, none, none, none, none, none], [], S_) (fun ro9_ => ∃ u_ S1_, ro9_ = (.inl u_, S1_, 0) ∧ vq_430 c_ w_ stuck pin_ lv_ S0_ u_ S1_)) ∧ (∀ (lv_ : Int) (fi_ : Int) (g_ : Int) (S_ : sm_S), gi S_ → ai_fr (sx_W vw_430) S0_ S_ → ((0 ≤ g_ ∧ fi_ = S0_.2.2.1 223 0 c_.toNat + S0_.2.2.1 224 0 c_.toNat) ∧ True) → ((1000 - g_).toNat) < nn_ → sm_T (mt_P sc_) 1 430 (58, [some (.inr (.inr (some (13, 0)))), some (.inl c_), some (.inl w_), some (.inl stuck), some (.inl pin_), some (.inr (.inl lv_)), none, some (.inl fi_), some (.inl g_), none, none, none, none, none, none, none, none], [], S_) (fun ro9_ => ∃ u_ S1_, ro9_ = (.inl u_, S1_, 0) ∧ vq_430 c_ w_ stuck pin_ lv_ S0_ u_ S1_)) := by
  intro nn_
  induction nn_ with
  | zero => exact ⟨fun _ _ _ _ _ _ _ h_ => absurd h_ (Nat.not_lt_zero _), fun _ _ _ _ _ _ _ h_ => absurd h_ (Nat.not_lt_zero _)⟩
  | succ nn_ ih_ =>
    refine ⟨?_, ?_⟩
    · rintro lv_ fi_ n_ S_ hI_ hF_ ⟨h0_, -⟩ hm_
      have f223_ : S_.2.2.1 223 0 = S0_.2.2.1 223 0 := fr_arr hF_ rfl
      have f224_ : S_.2.2.1 224 0 = S0_.2.2.1 224 0 := fr_arr hF_ rfl
      refine sm_T_go 2 (c1 := (22, [some (.inr (.inr (some (13, 0)))), some (.inl c_), some (.inl w_), some (.inl stuck), some (.inl pin_), some (.inr (.inl lv_)), none, some (.inl fi_), some (.inl n_), none, none, none, none, none, none, none, none], [.inl fi_, .inl n_], S_)) rfl ?_
      refine sm_T_br (a := 3) (z := 33) rfl (fun cx1_ => ?_) (fun cx1_ => ?_)
      · have cx1_ : fi_ ≤ n_ := of_decide_eq_true cx1_
        refine sm_T_go 2 (c1 := (58, [some (.inr (.inr (some (13, 0)))), some (.inl c_), some (.inl w_), some (.inl stuck), some (.inl pin_), some (.inr (.inl lv_)), none, some (.inl fi_), some (.inl 0), none, none, none, none, none, none, none, none], [], S_)) rfl ?_
        refine ih_.2 lv_ fi_ 0 S_ hI_ hF_ ⟨?_, trivial⟩ ?_
        · omega
        · omega
      · have cx1_ : ¬ (fi_ ≤ n_) := of_decide_eq_false cx1_
        refine sm_T_go 5 (c1 := (34, [some (.inr (.inr (some (13, 0)))), some (.inl c_), some (.inl w_), some (.inl stuck), some (.inl pin_), some (.inr (.inl lv_)), none, some (.inl fi_), some (.inl n_), none, none, none, none, none, none, none, none], [.inl stuck, .inl n_, .inl n_, .inr (.inr (some (238, 0)))], S_)) rfl ?_
        refine sm_T_br (a := 1) (z := 8) rfl (fun cx2_ => ?_) (fun cx2_ => ?_)
        · have cx2_ : n_ ≠ stuck := of_decide_eq_true cx2_
          refine sm_T_go 2 (c1 := (45, [some (.inr (.inr (some (13, 0)))), some (.inl c_), some (.inl w_), some (.inl stuck), some (.inl pin_), some (.inr (.inl lv_)), none, some (.inl fi_), some (.inl n_), none, none, none, none, none, none, none, none], [.inl w_, .inl n_, .inl n_, .inr (.inr (some (238, 0)))], S_)) rfl ?_
          refine sm_T_cal (d1 := 0) (Q1 := vq_350 n_ w_ S_) rfl rfl (by decide) (vc_350 n_ w_ S_ hI_ (by omega) (by omega)) (fun u_ Sx3_ px6_ => ?_)
          obtain ⟨rfl, vx8_, rfl, px6_⟩ := px6_
          refine sm_T_last (n := 256) rfl rfl (by omega) (by omega) ?_
          have hIx9_ : gi (sm_aL S_ 238 0 n_.toNat vx8_) := gi_aL hI_
          have hFx10_ : ai_fr (sx_W vw_430) S0_ (sm_aL S_ 238 0 n_.toNat vx8_) := ai_fr_tr hF_ (ai_fr_aL rfl)
          refine sm_T_inc (a := 8) (z := 1) (v := n_) (w := n_ + 1) rfl rfl (by omega) (by omega) (by omega) ?_ -- pc_ 49
          refine sm_T_go 1 (c1 := (18, [some (.inr (.inr (some (13, 0)))), some (.inl c_), some (.inl w_), some (.inl stuck), some (.inl pin_), some (.inr (.inl lv_)), none, some (.inl fi_), some (.inl (n_ + 1)), none, none, none, none, none, none, none, none], [], sm_aL S_ 238 0 n_.toNat vx8_)) rfl ?_
          refine ih_.1 lv_ fi_ (n_ + 1) (sm_aL S_ 238 0 n_.toNat vx8_) hIx9_ hFx10_ ⟨?_, trivial⟩ ?_
          · omega
          · omega
        · have cx2_ : ¬ (n_ ≠ stuck) := of_decide_eq_false cx2_
          refine sm_T_go 2 (c1 := (48, [some (.inr (.inr (some (13, 0)))), some (.inl c_), some (.inl w_), some (.inl stuck), some (.inl pin_), some (.inr (.inl lv_)), none, some (.inl fi_), some (.inl n_), none, none, none, none, none, none, none, none], [.inr (.inl lv_), .inl n_, .inr (.inr (some (238, 0)))], S_)) rfl ?_
          refine sm_T_last (n := 256) rfl rfl (by omega) (by omega) ?_
          have hIx11_ : gi (sm_aL S_ 238 0 n_.toNat lv_) := gi_aL hI_
          have hFx12_ : ai_fr (sx_W vw_430) S0_ (sm_aL S_ 238 0 n_.toNat lv_) := ai_fr_tr hF_ (ai_fr_aL rfl)
          refine sm_T_inc (a := 8) (z := 1) (v := n_) (w := n_ + 1) rfl rfl (by omega) (by omega) (by omega) ?_ -- pc_ 49
          refine sm_T_go 1 (c1 := (18, [some (.inr (.inr (some (13, 0)))), some (.inl c_), some (.inl w_), some (.inl stuck), some (.inl pin_), some (.inr (.inl lv_)), none, some (.inl fi_), some (.inl (n_ + 1)), none, none, none, none, none, none, none, none], [], sm_aL S_ 238 0 n_.toNat lv_)) rfl ?_
          refine ih_.1 lv_ fi_ (n_ + 1) (sm_aL S_ 238 0 n_.toNat lv_) hIx11_ hFx12_ ⟨?_, trivial⟩ ?_
          · omega
          · omega
    · rintro lv_ fi_ g_ S_ hI_ hF_ ⟨h0_, -⟩ hm_
      have f223_ : S_.2.2.1 223 0 = S0_.2.2.1 223 0 := fr_arr hF_ rfl
      have f224_ : S_.2.2.1 224 0 = S0_.2.2.1 224 0 := fr_arr hF_ rfl
      have hg9_ := cgt_fr hc_.1 hI_ hg_ hF_
      refine sm_T_go 4 (c1 := (65, [some (.inr (.inr (some (13, 0)))), some (.inl c_), some (.inl w_), some (.inl stuck), some (.inl pin_), some (.inr (.inl lv_)), none, some (.inl fi_), some (.inl g_), none, none, none, none, none, none, none, none], [.inl c_, .inr (.inr (some (228, 0))), .inl g_], S_)) rfl ?_
      refine sm_T_iald (n := 4) rfl rfl (by omega) (by omega) ?_
      have bx1_ : 0 ≤ S_.2.2.1 228 0 c_.toNat ∧ S_.2.2.1 228 0 c_.toNat ≤ 150 := hI_.2 228 0 _
      refine sm_T_br (a := 3) (z := 194) rfl (fun cx2_ => ?_) (fun cx2_ => ?_)
      · have cx2_ : (S_.2.2.1 228 0 c_.toNat) ≤ g_ := of_decide_eq_true cx2_
        refine sm_T_rv rfl ⟨_, _, rfl, rfl, hI_, hF_, ?_⟩
        trivial
      · have cx2_ : ¬ ((S_.2.2.1 228 0 c_.toNat) ≤ g_) := of_decide_eq_false cx2_
        have G0_ := hg9_ g_ (by omega) (by omega) 0 (by decide) (by decide) (Or.inl rfl)
        rw [Int.add_zero] at G0_
        rw [f223_, f224_] at G0_
        refine sm_T_go 3 (c1 := (74, [some (.inr (.inr (some (13, 0)))), some (.inl c_), some (.inl w_), some (.inl stuck), some (.inl pin_), some (.inr (.inl lv_)), none, some (.inl fi_), some (.inl g_), none, none, none, none, none, none, none, none], [.inl c_, .inl 150, .inl 3], S_)) rfl ?_
        refine sm_T_bin (w := 150 * c_) rfl (bi_mul (by omega) (by omega) (by omega)) ?_ -- pc_ 74
        refine sm_T_go 1 (c1 := (77, [some (.inr (.inr (some (13, 0)))), some (.inl c_), some (.inl w_), some (.inl stuck), some (.inl pin_), some (.inr (.inl lv_)), none, some (.inl fi_), some (.inl g_), none, none, none, none, none, none, none, none], [.inl g_, .inl (150 * c_), .inl 3], S_)) rfl ?_
        refine sm_T_bin (w := 150 * c_ + g_) rfl (bi_add (by omega) (by omega) (by omega)) ?_ -- pc_ 77
        refine sm_T_bin (w := 450 * c_ + 3 * g_) rfl (bi_mul (by omega) (by omega) (by omega)) ?_ -- pc_ 78
        refine sm_T_go 6 (c1 := (89, [some (.inr (.inr (some (13, 0)))), some (.inl c_), some (.inl w_), some (.inl stuck), some (.inl pin_), some (.inr (.inl lv_)), none, some (.inl fi_), some (.inl g_), some (.inl (450 * c_ + 3 * g_)), none, none, none, none, none, none, none], [.inl g_, .inl c_, .inr (.inr (some (13, 0))), .inr (.inr (some (234, 0)))], S_)) rfl ?_
        refine sm_T_cal (d1 := 0) (Q1 := vq_421 c_ g_ S_) rfl rfl (by decide) (vc_421 c_ g_ S_ hI_ (by omega) (by omega)) (fun u_ Sx3_ px6_ => ?_)
        obtain ⟨rfl, vx8_, rfl, px6_⟩ := px6_
        have e89_ := px6_
        refine sm_T_iald (n := 48) rfl rfl (by omega) (by omega) ?_
        have bx9_ : 0 ≤ S_.2.2.1 234 0 vx8_.toNat ∧ S_.2.2.1 234 0 vx8_.toNat ≤ 3 := hI_.2 234 0 _
        refine sm_T_go 4 (c1 := (100, [some (.inr (.inr (some (13, 0)))), some (.inl c_), some (.inl w_), some (.inl stuck), some (.inl pin_), some (.inr (.inl lv_)), none, some (.inl fi_), some (.inl g_), some (.inl (450 * c_ + 3 * g_)), some (.inl (S_.2.2.1 234 0 vx8_.toNat)), none, none, none, none, none, none], [.inl g_, .inl 3, .inl pin_], S_)) rfl ?_
        refine sm_T_bin (w := 3 * g_) rfl (bi_mul (by omega) (by omega) (by omega)) ?_ -- pc_ 100
        refine sm_T_br (a := 1) (z := 8) rfl (fun cx10_ => ?_) (fun cx10_ => ?_)
        · have cx10_ : pin_ ≠ 3 * g_ := of_decide_eq_true cx10_
          refine sm_T_go 5 (c1 := (119, [some (.inr (.inr (some (13, 0)))), some (.inl c_), some (.inl w_), some (.inl stuck), some (.inl pin_), some (.inr (.inl lv_)), none, some (.inl fi_), some (.inl g_), some (.inl (450 * c_ + 3 * g_)), some (.inl (S_.2.2.1 234 0 vx8_.toNat)), none, none, none, none, none, none], [.inl (450 * c_ + 3 * g_), .inr (.inr (some (230, 0))), .inr (.inr (some (238, 0)))], S_)) rfl ?_
          refine sm_T_iald (n := 1800) rfl rfl (by omega) (by omega) ?_
          have bx11_ : (-1) ≤ S_.2.2.1 230 0 (450 * c_ + 3 * g_).toNat ∧ S_.2.2.1 230 0 (450 * c_ + 3 * g_).toNat ≤ 161 := hI_.2 230 0 _
          refine sm_T_lald (n := 256) rfl rfl (by omega) (by omega) ?_
          refine sm_T_go 3 (c1 := (126, [some (.inr (.inr (some (13, 0)))), some (.inl c_), some (.inl w_), some (.inl stuck), some (.inl pin_), some (.inr (.inl lv_)), none, some (.inl fi_), some (.inl g_), some (.inl (450 * c_ + 3 * g_)), some (.inl (S_.2.2.1 234 0 vx8_.toNat)), some (.inr (.inl (S_.2.2.2 238 0 (S_.2.2.1 230 0 (450 * c_ + 3 * g_).toNat).toNat))), none, none, none, none, none], [.inl 2, .inl (S_.2.2.1 234 0 vx8_.toNat)], S_)) rfl ?_
          refine sm_T_br (a := 3) (z := 7) rfl (fun cx12_ => ?_) (fun cx12_ => ?_)
          · have cx12_ : 2 ≤ (S_.2.2.1 234 0 vx8_.toNat) := of_decide_eq_true cx12_
            have G1_ := hg9_ g_ (by omega) (by omega) 1 (by decide) (by decide) (Or.inr (by rw [← e89_.2]; omega))
            rw [f223_, f224_] at G1_
            refine sm_T_go 3 (c1 := (138, [some (.inr (.inr (some (13, 0)))), some (.inl c_), some (.inl w_), some (.inl stuck), some (.inl pin_), some (.inr (.inl lv_)), none, some (.inl fi_), some (.inl g_), some (.inl (450 * c_ + 3 * g_)), some (.inl (S_.2.2.1 234 0 vx8_.toNat)), some (.inr (.inl (S_.2.2.2 238 0 (S_.2.2.1 230 0 (450 * c_ + 3 * g_).toNat).toNat))), none, none, none, none, none], [.inl g_, .inl 3, .inl pin_], S_)) rfl ?_
            refine sm_T_bin (w := 3 * g_) rfl (bi_mul (by omega) (by omega) (by omega)) ?_ -- pc_ 138
            refine sm_T_go 1 (c1 := (140, [some (.inr (.inr (some (13, 0)))), some (.inl c_), some (.inl w_), some (.inl stuck), some (.inl pin_), some (.inr (.inl lv_)), none, some (.inl fi_), some (.inl g_), some (.inl (450 * c_ + 3 * g_)), some (.inl (S_.2.2.1 234 0 vx8_.toNat)), some (.inr (.inl (S_.2.2.2 238 0 (S_.2.2.1 230 0 (450 * c_ + 3 * g_).toNat).toNat))), none, none, none, none, none], [.inl 1, .inl (3 * g_), .inl pin_], S_)) rfl ?_
            refine sm_T_bin (w := 3 * g_ + 1) rfl (bi_add (by omega) (by omega) (by omega)) ?_ -- pc_ 140
            refine sm_T_br (a := 1) (z := 8) rfl (fun cx13_ => ?_) (fun cx13_ => ?_)
            · have cx13_ : pin_ ≠ 3 * g_ + 1 := of_decide_eq_true cx13_
              refine sm_T_go 6 (c1 := (160, [some (.inr (.inr (some (13, 0)))), some (.inl c_), some (.inl w_), some (.inl stuck), some (.inl pin_), some (.inr (.inl lv_)), none, some (.inl fi_), some (.inl g_), some (.inl (450 * c_ + 3 * g_)), some (.inl (S_.2.2.1 234 0 vx8_.toNat)), some (.inr (.inl (S_.2.2.2 238 0 (S_.2.2.1 230 0 (450 * c_ + 3 * g_).toNat).toNat))), none, none, none, none, none], [.inl 1, .inl (450 * c_ + 3 * g_), .inr (.inr (some (230, 0))), .inr (.inr (some (238, 0)))], S_)) rfl ?_
              refine sm_T_bin (w := 450 * c_ + 3 * g_ + 1) rfl (bi_add (by omega) (by omega) (by omega)) ?_ -- pc_ 160
              refine sm_T_iald (n := 1800) rfl rfl (by omega) (by omega) ?_
              have bx14_ : (-1) ≤ S_.2.2.1 230 0 (450 * c_ + 3 * g_ + 1).toNat ∧ S_.2.2.1 230 0 (450 * c_ + 3 * g_ + 1).toNat ≤ 161 := hI_.2 230 0 _
              refine sm_T_lald (n := 256) rfl rfl (by omega) (by omega) ?_
              refine sm_T_go 3 (c1 := (168, [some (.inr (.inr (some (13, 0)))), some (.inl c_), some (.inl w_), some (.inl stuck), some (.inl pin_), some (.inr (.inl lv_)), none, some (.inl fi_), some (.inl g_), some (.inl (450 * c_ + 3 * g_)), some (.inl (S_.2.2.1 234 0 vx8_.toNat)), some (.inr (.inl (S_.2.2.2 238 0 (S_.2.2.1 230 0 (450 * c_ + 3 * g_).toNat).toNat))), none, some (.inr (.inl (S_.2.2.2 238 0 (S_.2.2.1 230 0 (450 * c_ + 3 * g_ + 1).toNat).toNat))), none, none, none], [.inl 3, .inl (S_.2.2.1 234 0 vx8_.toNat)], S_)) rfl ?_
              refine sm_T_br (a := 3) (z := 7) rfl (fun cx15_ => ?_) (fun cx15_ => ?_)
              · have cx15_ : 3 ≤ (S_.2.2.1 234 0 vx8_.toNat) := of_decide_eq_true cx15_
                have G2_ := hg9_ g_ (by omega) (by omega) 2 (by decide) (by decide) (Or.inr (by rw [← e89_.2]; omega))
                rw [f223_, f224_] at G2_
                refine sm_T_go 3 (c1 := (180, [some (.inr (.inr (some (13, 0)))), some (.inl c_), some (.inl w_), some (.inl stuck), some (.inl pin_), some (.inr (.inl lv_)), none, some (.inl fi_), some (.inl g_), some (.inl (450 * c_ + 3 * g_)), some (.inl (S_.2.2.1 234 0 vx8_.toNat)), some (.inr (.inl (S_.2.2.2 238 0 (S_.2.2.1 230 0 (450 * c_ + 3 * g_).toNat).toNat))), none, some (.inr (.inl (S_.2.2.2 238 0 (S_.2.2.1 230 0 (450 * c_ + 3 * g_ + 1).toNat).toNat))), none, none, none], [.inl g_, .inl 3, .inl pin_], S_)) rfl ?_
                refine sm_T_bin (w := 3 * g_) rfl (bi_mul (by omega) (by omega) (by omega)) ?_ -- pc_ 180
                refine sm_T_go 1 (c1 := (182, [some (.inr (.inr (some (13, 0)))), some (.inl c_), some (.inl w_), some (.inl stuck), some (.inl pin_), some (.inr (.inl lv_)), none, some (.inl fi_), some (.inl g_), some (.inl (450 * c_ + 3 * g_)), some (.inl (S_.2.2.1 234 0 vx8_.toNat)), some (.inr (.inl (S_.2.2.2 238 0 (S_.2.2.1 230 0 (450 * c_ + 3 * g_).toNat).toNat))), none, some (.inr (.inl (S_.2.2.2 238 0 (S_.2.2.1 230 0 (450 * c_ + 3 * g_ + 1).toNat).toNat))), none, none, none], [.inl 2, .inl (3 * g_), .inl pin_], S_)) rfl ?_
                refine sm_T_bin (w := 3 * g_ + 2) rfl (bi_add (by omega) (by omega) (by omega)) ?_ -- pc_ 182
                refine sm_T_br (a := 1) (z := 8) rfl (fun cx16_ => ?_) (fun cx16_ => ?_)
                · have cx16_ : pin_ ≠ 3 * g_ + 2 := of_decide_eq_true cx16_
                  refine sm_T_go 6 (c1 := (202, [some (.inr (.inr (some (13, 0)))), some (.inl c_), some (.inl w_), some (.inl stuck), some (.inl pin_), some (.inr (.inl lv_)), none, some (.inl fi_), some (.inl g_), some (.inl (450 * c_ + 3 * g_)), some (.inl (S_.2.2.1 234 0 vx8_.toNat)), some (.inr (.inl (S_.2.2.2 238 0 (S_.2.2.1 230 0 (450 * c_ + 3 * g_).toNat).toNat))), none, some (.inr (.inl (S_.2.2.2 238 0 (S_.2.2.1 230 0 (450 * c_ + 3 * g_ + 1).toNat).toNat))), none, none, none], [.inl 2, .inl (450 * c_ + 3 * g_), .inr (.inr (some (230, 0))), .inr (.inr (some (238, 0)))], S_)) rfl ?_
                  refine sm_T_bin (w := 450 * c_ + 3 * g_ + 2) rfl (bi_add (by omega) (by omega) (by omega)) ?_ -- pc_ 202
                  refine sm_T_iald (n := 1800) rfl rfl (by omega) (by omega) ?_
                  have bx17_ : (-1) ≤ S_.2.2.1 230 0 (450 * c_ + 3 * g_ + 2).toNat ∧ S_.2.2.1 230 0 (450 * c_ + 3 * g_ + 2).toNat ≤ 161 := hI_.2 230 0 _
                  refine sm_T_lald (n := 256) rfl rfl (by omega) (by omega) ?_
                  refine sm_T_go 5 (c1 := (215, [some (.inr (.inr (some (13, 0)))), some (.inl c_), some (.inl w_), some (.inl stuck), some (.inl pin_), some (.inr (.inl lv_)), none, some (.inl fi_), some (.inl g_), some (.inl (450 * c_ + 3 * g_)), some (.inl (S_.2.2.1 234 0 vx8_.toNat)), some (.inr (.inl (S_.2.2.2 238 0 (S_.2.2.1 230 0 (450 * c_ + 3 * g_).toNat).toNat))), none, some (.inr (.inl (S_.2.2.2 238 0 (S_.2.2.1 230 0 (450 * c_ + 3 * g_ + 1).toNat).toNat))), none, some (.inr (.inl (S_.2.2.2 238 0 (S_.2.2.1 230 0 (450 * c_ + 3 * g_ + 2).toNat).toNat))), none], [.inl g_, .inl fi_, .inr (.inr (some (238, 0)))], S_)) rfl ?_
                  refine sm_T_bin (w := fi_ + g_) rfl (bi_add (by omega) (by omega) (by omega)) ?_ -- pc_ 215
                  refine sm_T_go 2 (c1 := (220, [some (.inr (.inr (some (13, 0)))), some (.inl c_), some (.inl w_), some (.inl stuck), some (.inl pin_), some (.inr (.inl lv_)), none, some (.inl fi_), some (.inl g_), some (.inl (450 * c_ + 3 * g_)), some (.inl (S_.2.2.1 234 0 vx8_.toNat)), some (.inr (.inl (S_.2.2.2 238 0 (S_.2.2.1 230 0 (450 * c_ + 3 * g_).toNat).toNat))), none, some (.inr (.inl (S_.2.2.2 238 0 (S_.2.2.1 230 0 (450 * c_ + 3 * g_ + 1).toNat).toNat))), none, some (.inr (.inl (S_.2.2.2 238 0 (S_.2.2.1 230 0 (450 * c_ + 3 * g_ + 2).toNat).toNat))), none], [.inl g_, .inl fi_, .inl (fi_ + g_), .inr (.inr (some (238, 0)))], S_)) rfl ?_
                  refine sm_T_bin (w := fi_ + g_) rfl (bi_add (by omega) (by omega) (by omega)) ?_ -- pc_ 220
                  refine sm_T_go 1 (c1 := (222, [some (.inr (.inr (some (13, 0)))), some (.inl c_), some (.inl w_), some (.inl stuck), some (.inl pin_), some (.inr (.inl lv_)), none, some (.inl fi_), some (.inl g_), some (.inl (450 * c_ + 3 * g_)), some (.inl (S_.2.2.1 234 0 vx8_.toNat)), some (.inr (.inl (S_.2.2.2 238 0 (S_.2.2.1 230 0 (450 * c_ + 3 * g_).toNat).toNat))), none, some (.inr (.inl (S_.2.2.2 238 0 (S_.2.2.1 230 0 (450 * c_ + 3 * g_ + 1).toNat).toNat))), none, some (.inr (.inl (S_.2.2.2 238 0 (S_.2.2.1 230 0 (450 * c_ + 3 * g_ + 2).toNat).toNat))), none], [.inl stuck, .inl (fi_ + g_), .inl (fi_ + g_), .inr (.inr (some (238, 0)))], S_)) rfl ?_
                  refine sm_T_br (a := 1) (z := 8) rfl (fun cx18_ => ?_) (fun cx18_ => ?_)
                  · have cx18_ : fi_ + g_ ≠ stuck := of_decide_eq_true cx18_
                    refine sm_T_go 5 (c1 := (238, [some (.inr (.inr (some (13, 0)))), some (.inl c_), some (.inl w_), some (.inl stuck), some (.inl pin_), some (.inr (.inl lv_)), none, some (.inl fi_), some (.inl g_), some (.inl (450 * c_ + 3 * g_)), some (.inl (S_.2.2.1 234 0 vx8_.toNat)), some (.inr (.inl (S_.2.2.2 238 0 (S_.2.2.1 230 0 (450 * c_ + 3 * g_).toNat).toNat))), none, some (.inr (.inl (S_.2.2.2 238 0 (S_.2.2.1 230 0 (450 * c_ + 3 * g_ + 1).toNat).toNat))), none, some (.inr (.inl (S_.2.2.2 238 0 (S_.2.2.1 230 0 (450 * c_ + 3 * g_ + 2).toNat).toNat))), none], [.inl g_, .inl c_, .inr (.inr (some (13, 0))), .inr (.inr (some (235, 0))), .inl (fi_ + g_), .inr (.inr (some (238, 0)))], S_)) rfl ?_
                    refine sm_T_cal (d1 := 0) (Q1 := vq_421 c_ g_ S_) rfl rfl (by decide) (vc_421 c_ g_ S_ hI_ (by omega) (by omega)) (fun u_ Sx19_ px22_ => ?_)
                    obtain ⟨rfl, vx24_, rfl, px22_⟩ := px22_
                    refine sm_T_iald (n := 48) rfl rfl (by omega) (by omega) ?_
                    have bx25_ : 0 ≤ S_.2.2.1 235 0 vx24_.toNat ∧ S_.2.2.1 235 0 vx24_.toNat ≤ 255 := hI_.2 235 0 _
                    refine sm_T_go 4 (c1 := (250, [some (.inr (.inr (some (13, 0)))), some (.inl c_), some (.inl w_), some (.inl stuck), some (.inl pin_), some (.inr (.inl lv_)), none, some (.inl fi_), some (.inl g_), some (.inl (450 * c_ + 3 * g_)), some (.inl (S_.2.2.1 234 0 vx8_.toNat)), some (.inr (.inl (S_.2.2.2 238 0 (S_.2.2.1 230 0 (450 * c_ + 3 * g_).toNat).toNat))), none, some (.inr (.inl (S_.2.2.2 238 0 (S_.2.2.1 230 0 (450 * c_ + 3 * g_ + 1).toNat).toNat))), none, some (.inr (.inl (S_.2.2.2 238 0 (S_.2.2.1 230 0 (450 * c_ + 3 * g_ + 2).toNat).toNat))), none], [.inr (.inl (S_.2.2.2 238 0 (S_.2.2.1 230 0 (450 * c_ + 3 * g_ + 2).toNat).toNat)), .inr (.inl (S_.2.2.2 238 0 (S_.2.2.1 230 0 (450 * c_ + 3 * g_ + 1).toNat).toNat)), .inr (.inl (S_.2.2.2 238 0 (S_.2.2.1 230 0 (450 * c_ + 3 * g_).toNat).toNat)), .inl (S_.2.2.1 234 0 vx8_.toNat), .inl (S_.2.2.1 235 0 vx24_.toNat), .inl (fi_ + g_), .inr (.inr (some (238, 0)))], S_)) rfl ?_
                    refine sm_T_cal (d1 := 0) (Q1 := vq_429 (S_.2.2.1 235 0 vx24_.toNat) (S_.2.2.1 234 0 vx8_.toNat) ((S_.2.2.2 238 0 (S_.2.2.1 230 0 (450 * c_ + 3 * g_).toNat).toNat)) ((S_.2.2.2 238 0 (S_.2.2.1 230 0 (450 * c_ + 3 * g_ + 1).toNat).toNat)) ((S_.2.2.2 238 0 (S_.2.2.1 230 0 (450 * c_ + 3 * g_ + 2).toNat).toNat)) S_) rfl rfl (by decide) (vc_429 (S_.2.2.1 235 0 vx24_.toNat) (S_.2.2.1 234 0 vx8_.toNat) ((S_.2.2.2 238 0 (S_.2.2.1 230 0 (450 * c_ + 3 * g_).toNat).toNat)) ((S_.2.2.2 238 0 (S_.2.2.1 230 0 (450 * c_ + 3 * g_ + 1).toNat).toNat)) ((S_.2.2.2 238 0 (S_.2.2.1 230 0 (450 * c_ + 3 * g_ + 2).toNat).toNat)) S_ hI_ (by omega) (by omega)) (fun u_ Sx26_ px29_ => ?_)
                    obtain ⟨vx31_, rfl, hIx27_, hFx28_, px29_⟩ := px29_
                    have hFx30_ : ai_fr (sx_W vw_430) S0_ Sx26_ := ai_fr_tr hF_ (fr_le hFx28_ rfl)
                    refine sm_T_last (n := 256) rfl rfl (by omega) (by omega) ?_
                    have hIx32_ : gi (sm_aL Sx26_ 238 0 (fi_ + g_).toNat vx31_) := gi_aL hIx27_
                    have hFx33_ : ai_fr (sx_W vw_430) S0_ (sm_aL Sx26_ 238 0 (fi_ + g_).toNat vx31_) := ai_fr_tr hFx30_ (ai_fr_aL rfl)
                    refine sm_T_inc (a := 8) (z := 1) (v := g_) (w := g_ + 1) rfl rfl (by omega) (by omega) (by omega) ?_ -- pc_ 254
                    refine sm_T_go 1 (c1 := (58, [some (.inr (.inr (some (13, 0)))), some (.inl c_), some (.inl w_), some (.inl stuck), some (.inl pin_), some (.inr (.inl lv_)), none, some (.inl fi_), some (.inl (g_ + 1)), some (.inl (450 * c_ + 3 * g_)), some (.inl (S_.2.2.1 234 0 vx8_.toNat)), some (.inr (.inl (S_.2.2.2 238 0 (S_.2.2.1 230 0 (450 * c_ + 3 * g_).toNat).toNat))), none, some (.inr (.inl (S_.2.2.2 238 0 (S_.2.2.1 230 0 (450 * c_ + 3 * g_ + 1).toNat).toNat))), none, some (.inr (.inl (S_.2.2.2 238 0 (S_.2.2.1 230 0 (450 * c_ + 3 * g_ + 2).toNat).toNat))), none], [], sm_aL Sx26_ 238 0 (fi_ + g_).toNat vx31_)) rfl ?_
                    refine sm_T_wk [some (.inr (.inr (some (13, 0)))), some (.inl c_), some (.inl w_), some (.inl stuck), some (.inl pin_), some (.inr (.inl lv_)), none, some (.inl fi_), some (.inl (g_ + 1)), none, none, none, none, none, none, none, none] (by exact ⟨rfl, rfl, rfl, rfl, rfl, rfl, rfl, rfl, trivial⟩) ?_
                    refine ih_.2 lv_ fi_ (g_ + 1) (sm_aL Sx26_ 238 0 (fi_ + g_).toNat vx31_) hIx32_ hFx33_ ⟨?_, trivial⟩ ?_
                    · omega
                    · omega
                  · have cx18_ : ¬ (fi_ + g_ ≠ stuck) := of_decide_eq_false cx18_
                    refine sm_T_go 2 (c1 := (253, [some (.inr (.inr (some (13, 0)))), some (.inl c_), some (.inl w_), some (.inl stuck), some (.inl pin_), some (.inr (.inl lv_)), none, some (.inl fi_), some (.inl g_), some (.inl (450 * c_ + 3 * g_)), some (.inl (S_.2.2.1 234 0 vx8_.toNat)), some (.inr (.inl (S_.2.2.2 238 0 (S_.2.2.1 230 0 (450 * c_ + 3 * g_).toNat).toNat))), none, some (.inr (.inl (S_.2.2.2 238 0 (S_.2.2.1 230 0 (450 * c_ + 3 * g_ + 1).toNat).toNat))), none, some (.inr (.inl (S_.2.2.2 238 0 (S_.2.2.1 230 0 (450 * c_ + 3 * g_ + 2).toNat).toNat))), none], [.inr (.inl lv_), .inl (fi_ + g_), .inr (.inr (some (238, 0)))], S_)) rfl ?_
                    refine sm_T_last (n := 256) rfl rfl (by omega) (by omega) ?_
                    have hIx34_ : gi (sm_aL S_ 238 0 (fi_ + g_).toNat lv_) := gi_aL hI_
                    have hFx35_ : ai_fr (sx_W vw_430) S0_ (sm_aL S_ 238 0 (fi_ + g_).toNat lv_) := ai_fr_tr hF_ (ai_fr_aL rfl)
                    refine sm_T_inc (a := 8) (z := 1) (v := g_) (w := g_ + 1) rfl rfl (by omega) (by omega) (by omega) ?_ -- pc_ 254
                    refine sm_T_go 1 (c1 := (58, [some (.inr (.inr (some (13, 0)))), some (.inl c_), some (.inl w_), some (.inl stuck), some (.inl pin_), some (.inr (.inl lv_)), none, some (.inl fi_), some (.inl (g_ + 1)), some (.inl (450 * c_ + 3 * g_)), some (.inl (S_.2.2.1 234 0 vx8_.toNat)), some (.inr (.inl (S_.2.2.2 238 0 (S_.2.2.1 230 0 (450 * c_ + 3 * g_).toNat).toNat))), none, some (.inr (.inl (S_.2.2.2 238 0 (S_.2.2.1 230 0 (450 * c_ + 3 * g_ + 1).toNat).toNat))), none, some (.inr (.inl (S_.2.2.2 238 0 (S_.2.2.1 230 0 (450 * c_ + 3 * g_ + 2).toNat).toNat))), none], [], sm_aL S_ 238 0 (fi_ + g_).toNat lv_)) rfl ?_
                    refine sm_T_wk [some (.inr (.inr (some (13, 0)))), some (.inl c_), some (.inl w_), some (.inl stuck), some (.inl pin_), some (.inr (.inl lv_)), none, some (.inl fi_), some (.inl (g_ + 1)), none, none, none, none, none, none, none, none] (by exact ⟨rfl, rfl, rfl, rfl, rfl, rfl, rfl, rfl, trivial⟩) ?_
                    refine ih_.2 lv_ fi_ (g_ + 1) (sm_aL S_ 238 0 (fi_ + g_).toNat lv_) hIx34_ hFx35_ ⟨?_, trivial⟩ ?_
                    · omega
                    · omega
                · have cx16_ : ¬ (pin_ ≠ 3 * g_ + 2) := of_decide_eq_false cx16_
                  refine sm_T_go 7 (c1 := (215, [some (.inr (.inr (some (13, 0)))), some (.inl c_), some (.inl w_), some (.inl stuck), some (.inl pin_), some (.inr (.inl lv_)), none, some (.inl fi_), some (.inl g_), some (.inl (450 * c_ + 3 * g_)), some (.inl (S_.2.2.1 234 0 vx8_.toNat)), some (.inr (.inl (S_.2.2.2 238 0 (S_.2.2.1 230 0 (450 * c_ + 3 * g_).toNat).toNat))), none, some (.inr (.inl (S_.2.2.2 238 0 (S_.2.2.1 230 0 (450 * c_ + 3 * g_ + 1).toNat).toNat))), none, some (.inr (.inl lv_)), none], [.inl g_, .inl fi_, .inr (.inr (some (238, 0)))], S_)) rfl ?_
                  refine sm_T_bin (w := fi_ + g_) rfl (bi_add (by omega) (by omega) (by omega)) ?_ -- pc_ 215
                  refine sm_T_go 2 (c1 := (220, [some (.inr (.inr (some (13, 0)))), some (.inl c_), some (.inl w_), some (.inl stuck), some (.inl pin_), some (.inr (.inl lv_)), none, some (.inl fi_), some (.inl g_), some (.inl (450 * c_ + 3 * g_)), some (.inl (S_.2.2.1 234 0 vx8_.toNat)), some (.inr (.inl (S_.2.2.2 238 0 (S_.2.2.1 230 0 (450 * c_ + 3 * g_).toNat).toNat))), none, some (.inr (.inl (S_.2.2.2 238 0 (S_.2.2.1 230 0 (450 * c_ + 3 * g_ + 1).toNat).toNat))), none, some (.inr (.inl lv_)), none], [.inl g_, .inl fi_, .inl (fi_ + g_), .inr (.inr (some (238, 0)))], S_)) rfl ?_
                  refine sm_T_bin (w := fi_ + g_) rfl (bi_add (by omega) (by omega) (by omega)) ?_ -- pc_ 220
                  refine sm_T_go 1 (c1 := (222, [some (.inr (.inr (some (13, 0)))), some (.inl c_), some (.inl w_), some (.inl stuck), some (.inl pin_), some (.inr (.inl lv_)), none, some (.inl fi_), some (.inl g_), some (.inl (450 * c_ + 3 * g_)), some (.inl (S_.2.2.1 234 0 vx8_.toNat)), some (.inr (.inl (S_.2.2.2 238 0 (S_.2.2.1 230 0 (450 * c_ + 3 * g_).toNat).toNat))), none, some (.inr (.inl (S_.2.2.2 238 0 (S_.2.2.1 230 0 (450 * c_ + 3 * g_ + 1).toNat).toNat))), none, some (.inr (.inl lv_)), none], [.inl stuck, .inl (fi_ + g_), .inl (fi_ + g_), .inr (.inr (some (238, 0)))], S_)) rfl ?_
                  refine sm_T_br (a := 1) (z := 8) rfl (fun cx36_ => ?_) (fun cx36_ => ?_)
                  · have cx36_ : fi_ + g_ ≠ stuck := of_decide_eq_true cx36_
                    refine sm_T_go 5 (c1 := (238, [some (.inr (.inr (some (13, 0)))), some (.inl c_), some (.inl w_), some (.inl stuck), some (.inl pin_), some (.inr (.inl lv_)), none, some (.inl fi_), some (.inl g_), some (.inl (450 * c_ + 3 * g_)), some (.inl (S_.2.2.1 234 0 vx8_.toNat)), some (.inr (.inl (S_.2.2.2 238 0 (S_.2.2.1 230 0 (450 * c_ + 3 * g_).toNat).toNat))), none, some (.inr (.inl (S_.2.2.2 238 0 (S_.2.2.1 230 0 (450 * c_ + 3 * g_ + 1).toNat).toNat))), none, some (.inr (.inl lv_)), none], [.inl g_, .inl c_, .inr (.inr (some (13, 0))), .inr (.inr (some (235, 0))), .inl (fi_ + g_), .inr (.inr (some (238, 0)))], S_)) rfl ?_
                    refine sm_T_cal (d1 := 0) (Q1 := vq_421 c_ g_ S_) rfl rfl (by decide) (vc_421 c_ g_ S_ hI_ (by omega) (by omega)) (fun u_ Sx37_ px40_ => ?_)
                    obtain ⟨rfl, vx42_, rfl, px40_⟩ := px40_
                    refine sm_T_iald (n := 48) rfl rfl (by omega) (by omega) ?_
                    have bx43_ : 0 ≤ S_.2.2.1 235 0 vx42_.toNat ∧ S_.2.2.1 235 0 vx42_.toNat ≤ 255 := hI_.2 235 0 _
                    refine sm_T_go 4 (c1 := (250, [some (.inr (.inr (some (13, 0)))), some (.inl c_), some (.inl w_), some (.inl stuck), some (.inl pin_), some (.inr (.inl lv_)), none, some (.inl fi_), some (.inl g_), some (.inl (450 * c_ + 3 * g_)), some (.inl (S_.2.2.1 234 0 vx8_.toNat)), some (.inr (.inl (S_.2.2.2 238 0 (S_.2.2.1 230 0 (450 * c_ + 3 * g_).toNat).toNat))), none, some (.inr (.inl (S_.2.2.2 238 0 (S_.2.2.1 230 0 (450 * c_ + 3 * g_ + 1).toNat).toNat))), none, some (.inr (.inl lv_)), none], [.inr (.inl lv_), .inr (.inl (S_.2.2.2 238 0 (S_.2.2.1 230 0 (450 * c_ + 3 * g_ + 1).toNat).toNat)), .inr (.inl (S_.2.2.2 238 0 (S_.2.2.1 230 0 (450 * c_ + 3 * g_).toNat).toNat)), .inl (S_.2.2.1 234 0 vx8_.toNat), .inl (S_.2.2.1 235 0 vx42_.toNat), .inl (fi_ + g_), .inr (.inr (some (238, 0)))], S_)) rfl ?_
                    refine sm_T_cal (d1 := 0) (Q1 := vq_429 (S_.2.2.1 235 0 vx42_.toNat) (S_.2.2.1 234 0 vx8_.toNat) ((S_.2.2.2 238 0 (S_.2.2.1 230 0 (450 * c_ + 3 * g_).toNat).toNat)) ((S_.2.2.2 238 0 (S_.2.2.1 230 0 (450 * c_ + 3 * g_ + 1).toNat).toNat)) lv_ S_) rfl rfl (by decide) (vc_429 (S_.2.2.1 235 0 vx42_.toNat) (S_.2.2.1 234 0 vx8_.toNat) ((S_.2.2.2 238 0 (S_.2.2.1 230 0 (450 * c_ + 3 * g_).toNat).toNat)) ((S_.2.2.2 238 0 (S_.2.2.1 230 0 (450 * c_ + 3 * g_ + 1).toNat).toNat)) lv_ S_ hI_ (by omega) (by omega)) (fun u_ Sx44_ px47_ => ?_)
                    obtain ⟨vx49_, rfl, hIx45_, hFx46_, px47_⟩ := px47_
                    have hFx48_ : ai_fr (sx_W vw_430) S0_ Sx44_ := ai_fr_tr hF_ (fr_le hFx46_ rfl)
                    refine sm_T_last (n := 256) rfl rfl (by omega) (by omega) ?_
                    have hIx50_ : gi (sm_aL Sx44_ 238 0 (fi_ + g_).toNat vx49_) := gi_aL hIx45_
                    have hFx51_ : ai_fr (sx_W vw_430) S0_ (sm_aL Sx44_ 238 0 (fi_ + g_).toNat vx49_) := ai_fr_tr hFx48_ (ai_fr_aL rfl)
                    refine sm_T_inc (a := 8) (z := 1) (v := g_) (w := g_ + 1) rfl rfl (by omega) (by omega) (by omega) ?_ -- pc_ 254
                    refine sm_T_go 1 (c1 := (58, [some (.inr (.inr (some (13, 0)))), some (.inl c_), some (.inl w_), some (.inl stuck), some (.inl pin_), some (.inr (.inl lv_)), none, some (.inl fi_), some (.inl (g_ + 1)), some (.inl (450 * c_ + 3 * g_)), some (.inl (S_.2.2.1 234 0 vx8_.toNat)), some (.inr (.inl (S_.2.2.2 238 0 (S_.2.2.1 230 0 (450 * c_ + 3 * g_).toNat).toNat))), none, some (.inr (.inl (S_.2.2.2 238 0 (S_.2.2.1 230 0 (450 * c_ + 3 * g_ + 1).toNat).toNat))), none, some (.inr (.inl lv_)), none], [], sm_aL Sx44_ 238 0 (fi_ + g_).toNat vx49_)) rfl ?_
                    refine sm_T_wk [some (.inr (.inr (some (13, 0)))), some (.inl c_), some (.inl w_), some (.inl stuck), some (.inl pin_), some (.inr (.inl lv_)), none, some (.inl fi_), some (.inl (g_ + 1)), none, none, none, none, none, none, none, none] (by exact ⟨rfl, rfl, rfl, rfl, rfl, rfl, rfl, rfl, trivial⟩) ?_
                    refine ih_.2 lv_ fi_ (g_ + 1) (sm_aL Sx44_ 238 0 (fi_ + g_).toNat vx49_) hIx50_ hFx51_ ⟨?_, trivial⟩ ?_
                    · omega
                    · omega
                  · have cx36_ : ¬ (fi_ + g_ ≠ stuck) := of_decide_eq_false cx36_
                    refine sm_T_go 2 (c1 := (253, [some (.inr (.inr (some (13, 0)))), some (.inl c_), some (.inl w_), some (.inl stuck), some (.inl pin_), some (.inr (.inl lv_)), none, some (.inl fi_), some (.inl g_), some (.inl (450 * c_ + 3 * g_)), some (.inl (S_.2.2.1 234 0 vx8_.toNat)), some (.inr (.inl (S_.2.2.2 238 0 (S_.2.2.1 230 0 (450 * c_ + 3 * g_).toNat).toNat))), none, some (.inr (.inl (S_.2.2.2 238 0 (S_.2.2.1 230 0 (450 * c_ + 3 * g_ + 1).toNat).toNat))), none, some (.inr (.inl lv_)), none], [.inr (.inl lv_), .inl (fi_ + g_), .inr (.inr (some (238, 0)))], S_)) rfl ?_
                    refine sm_T_last (n := 256) rfl rfl (by omega) (by omega) ?_
                    have hIx52_ : gi (sm_aL S_ 238 0 (fi_ + g_).toNat lv_) := gi_aL hI_
                    have hFx53_ : ai_fr (sx_W vw_430) S0_ (sm_aL S_ 238 0 (fi_ + g_).toNat lv_) := ai_fr_tr hF_ (ai_fr_aL rfl)
                    refine sm_T_inc (a := 8) (z := 1) (v := g_) (w := g_ + 1) rfl rfl (by omega) (by omega) (by omega) ?_ -- pc_ 254
                    refine sm_T_go 1 (c1 := (58, [some (.inr (.inr (some (13, 0)))), some (.inl c_), some (.inl w_), some (.inl stuck), some (.inl pin_), some (.inr (.inl lv_)), none, some (.inl fi_), some (.inl (g_ + 1)), some (.inl (450 * c_ + 3 * g_)), some (.inl (S_.2.2.1 234 0 vx8_.toNat)), some (.inr (.inl (S_.2.2.2 238 0 (S_.2.2.1 230 0 (450 * c_ + 3 * g_).toNat).toNat))), none, some (.inr (.inl (S_.2.2.2 238 0 (S_.2.2.1 230 0 (450 * c_ + 3 * g_ + 1).toNat).toNat))), none, some (.inr (.inl lv_)), none], [], sm_aL S_ 238 0 (fi_ + g_).toNat lv_)) rfl ?_
                    refine sm_T_wk [some (.inr (.inr (some (13, 0)))), some (.inl c_), some (.inl w_), some (.inl stuck), some (.inl pin_), some (.inr (.inl lv_)), none, some (.inl fi_), some (.inl (g_ + 1)), none, none, none, none, none, none, none, none] (by exact ⟨rfl, rfl, rfl, rfl, rfl, rfl, rfl, rfl, trivial⟩) ?_
                    refine ih_.2 lv_ fi_ (g_ + 1) (sm_aL S_ 238 0 (fi_ + g_).toNat lv_) hIx52_ hFx53_ ⟨?_, trivial⟩ ?_
                    · omega
                    · omega
              · have cx15_ : ¬ (3 ≤ (S_.2.2.1 234 0 vx8_.toNat)) := of_decide_eq_false cx15_
                refine sm_T_go 7 (c1 := (215, [some (.inr (.inr (some (13, 0)))), some (.inl c_), some (.inl w_), some (.inl stuck), some (.inl pin_), some (.inr (.inl lv_)), none, some (.inl fi_), some (.inl g_), some (.inl (450 * c_ + 3 * g_)), some (.inl (S_.2.2.1 234 0 vx8_.toNat)), some (.inr (.inl (S_.2.2.2 238 0 (S_.2.2.1 230 0 (450 * c_ + 3 * g_).toNat).toNat))), none, some (.inr (.inl (S_.2.2.2 238 0 (S_.2.2.1 230 0 (450 * c_ + 3 * g_ + 1).toNat).toNat))), none, some (.inr (.inl 0)), none], [.inl g_, .inl fi_, .inr (.inr (some (238, 0)))], S_)) rfl ?_
                refine sm_T_bin (w := fi_ + g_) rfl (bi_add (by omega) (by omega) (by omega)) ?_ -- pc_ 215
                refine sm_T_go 2 (c1 := (220, [some (.inr (.inr (some (13, 0)))), some (.inl c_), some (.inl w_), some (.inl stuck), some (.inl pin_), some (.inr (.inl lv_)), none, some (.inl fi_), some (.inl g_), some (.inl (450 * c_ + 3 * g_)), some (.inl (S_.2.2.1 234 0 vx8_.toNat)), some (.inr (.inl (S_.2.2.2 238 0 (S_.2.2.1 230 0 (450 * c_ + 3 * g_).toNat).toNat))), none, some (.inr (.inl (S_.2.2.2 238 0 (S_.2.2.1 230 0 (450 * c_ + 3 * g_ + 1).toNat).toNat))), none, some (.inr (.inl 0)), none], [.inl g_, .inl fi_, .inl (fi_ + g_), .inr (.inr (some (238, 0)))], S_)) rfl ?_
                refine sm_T_bin (w := fi_ + g_) rfl (bi_add (by omega) (by omega) (by omega)) ?_ -- pc_ 220
                refine sm_T_go 1 (c1 := (222, [some (.inr (.inr (some (13, 0)))), some (.inl c_), some (.inl w_), some (.inl stuck), some (.inl pin_), some (.inr (.inl lv_)), none, some (.inl fi_), some (.inl g_), some (.inl (450 * c_ + 3 * g_)), some (.inl (S_.2.2.1 234 0 vx8_.toNat)), some (.inr (.inl (S_.2.2.2 238 0 (S_.2.2.1 230 0 (450 * c_ + 3 * g_).toNat).toNat))), none, some (.inr (.inl (S_.2.2.2 238 0 (S_.2.2.1 230 0 (450 * c_ + 3 * g_ + 1).toNat).toNat))), none, some (.inr (.inl 0)), none], [.inl stuck, .inl (fi_ + g_), .inl (fi_ + g_), .inr (.inr (some (238, 0)))], S_)) rfl ?_
                refine sm_T_br (a := 1) (z := 8) rfl (fun cx54_ => ?_) (fun cx54_ => ?_)
                · have cx54_ : fi_ + g_ ≠ stuck := of_decide_eq_true cx54_
                  refine sm_T_go 5 (c1 := (238, [some (.inr (.inr (some (13, 0)))), some (.inl c_), some (.inl w_), some (.inl stuck), some (.inl pin_), some (.inr (.inl lv_)), none, some (.inl fi_), some (.inl g_), some (.inl (450 * c_ + 3 * g_)), some (.inl (S_.2.2.1 234 0 vx8_.toNat)), some (.inr (.inl (S_.2.2.2 238 0 (S_.2.2.1 230 0 (450 * c_ + 3 * g_).toNat).toNat))), none, some (.inr (.inl (S_.2.2.2 238 0 (S_.2.2.1 230 0 (450 * c_ + 3 * g_ + 1).toNat).toNat))), none, some (.inr (.inl 0)), none], [.inl g_, .inl c_, .inr (.inr (some (13, 0))), .inr (.inr (some (235, 0))), .inl (fi_ + g_), .inr (.inr (some (238, 0)))], S_)) rfl ?_
                  refine sm_T_cal (d1 := 0) (Q1 := vq_421 c_ g_ S_) rfl rfl (by decide) (vc_421 c_ g_ S_ hI_ (by omega) (by omega)) (fun u_ Sx55_ px58_ => ?_)
                  obtain ⟨rfl, vx60_, rfl, px58_⟩ := px58_
                  refine sm_T_iald (n := 48) rfl rfl (by omega) (by omega) ?_
                  have bx61_ : 0 ≤ S_.2.2.1 235 0 vx60_.toNat ∧ S_.2.2.1 235 0 vx60_.toNat ≤ 255 := hI_.2 235 0 _
                  refine sm_T_go 4 (c1 := (250, [some (.inr (.inr (some (13, 0)))), some (.inl c_), some (.inl w_), some (.inl stuck), some (.inl pin_), some (.inr (.inl lv_)), none, some (.inl fi_), some (.inl g_), some (.inl (450 * c_ + 3 * g_)), some (.inl (S_.2.2.1 234 0 vx8_.toNat)), some (.inr (.inl (S_.2.2.2 238 0 (S_.2.2.1 230 0 (450 * c_ + 3 * g_).toNat).toNat))), none, some (.inr (.inl (S_.2.2.2 238 0 (S_.2.2.1 230 0 (450 * c_ + 3 * g_ + 1).toNat).toNat))), none, some (.inr (.inl 0)), none], [.inr (.inl 0), .inr (.inl (S_.2.2.2 238 0 (S_.2.2.1 230 0 (450 * c_ + 3 * g_ + 1).toNat).toNat)), .inr (.inl (S_.2.2.2 238 0 (S_.2.2.1 230 0 (450 * c_ + 3 * g_).toNat).toNat)), .inl (S_.2.2.1 234 0 vx8_.toNat), .inl (S_.2.2.1 235 0 vx60_.toNat), .inl (fi_ + g_), .inr (.inr (some (238, 0)))], S_)) rfl ?_
                  refine sm_T_cal (d1 := 0) (Q1 := vq_429 (S_.2.2.1 235 0 vx60_.toNat) (S_.2.2.1 234 0 vx8_.toNat) ((S_.2.2.2 238 0 (S_.2.2.1 230 0 (450 * c_ + 3 * g_).toNat).toNat)) ((S_.2.2.2 238 0 (S_.2.2.1 230 0 (450 * c_ + 3 * g_ + 1).toNat).toNat)) 0 S_) rfl rfl (by decide) (vc_429 (S_.2.2.1 235 0 vx60_.toNat) (S_.2.2.1 234 0 vx8_.toNat) ((S_.2.2.2 238 0 (S_.2.2.1 230 0 (450 * c_ + 3 * g_).toNat).toNat)) ((S_.2.2.2 238 0 (S_.2.2.1 230 0 (450 * c_ + 3 * g_ + 1).toNat).toNat)) 0 S_ hI_ (by omega) (by omega)) (fun u_ Sx62_ px65_ => ?_)
                  obtain ⟨vx67_, rfl, hIx63_, hFx64_, px65_⟩ := px65_
                  have hFx66_ : ai_fr (sx_W vw_430) S0_ Sx62_ := ai_fr_tr hF_ (fr_le hFx64_ rfl)
                  refine sm_T_last (n := 256) rfl rfl (by omega) (by omega) ?_
                  have hIx68_ : gi (sm_aL Sx62_ 238 0 (fi_ + g_).toNat vx67_) := gi_aL hIx63_
                  have hFx69_ : ai_fr (sx_W vw_430) S0_ (sm_aL Sx62_ 238 0 (fi_ + g_).toNat vx67_) := ai_fr_tr hFx66_ (ai_fr_aL rfl)
                  refine sm_T_inc (a := 8) (z := 1) (v := g_) (w := g_ + 1) rfl rfl (by omega) (by omega) (by omega) ?_ -- pc_ 254
                  refine sm_T_go 1 (c1 := (58, [some (.inr (.inr (some (13, 0)))), some (.inl c_), some (.inl w_), some (.inl stuck), some (.inl pin_), some (.inr (.inl lv_)), none, some (.inl fi_), some (.inl (g_ + 1)), some (.inl (450 * c_ + 3 * g_)), some (.inl (S_.2.2.1 234 0 vx8_.toNat)), some (.inr (.inl (S_.2.2.2 238 0 (S_.2.2.1 230 0 (450 * c_ + 3 * g_).toNat).toNat))), none, some (.inr (.inl (S_.2.2.2 238 0 (S_.2.2.1 230 0 (450 * c_ + 3 * g_ + 1).toNat).toNat))), none, some (.inr (.inl 0)), none], [], sm_aL Sx62_ 238 0 (fi_ + g_).toNat vx67_)) rfl ?_
                  refine sm_T_wk [some (.inr (.inr (some (13, 0)))), some (.inl c_), some (.inl w_), some (.inl stuck), some (.inl pin_), some (.inr (.inl lv_)), none, some (.inl fi_), some (.inl (g_ + 1)), none, none, none, none, none, none, none, none] (by exact ⟨rfl, rfl, rfl, rfl, rfl, rfl, rfl, rfl, trivial⟩) ?_
                  refine ih_.2 lv_ fi_ (g_ + 1) (sm_aL Sx62_ 238 0 (fi_ + g_).toNat vx67_) hIx68_ hFx69_ ⟨?_, trivial⟩ ?_
                  · omega
                  · omega
                · have cx54_ : ¬ (fi_ + g_ ≠ stuck) := of_decide_eq_false cx54_
                  refine sm_T_go 2 (c1 := (253, [some (.inr (.inr (some (13, 0)))), some (.inl c_), some (.inl w_), some (.inl stuck), some (.inl pin_), some (.inr (.inl lv_)), none, some (.inl fi_), some (.inl g_), some (.inl (450 * c_ + 3 * g_)), some (.inl (S_.2.2.1 234 0 vx8_.toNat)), some (.inr (.inl (S_.2.2.2 238 0 (S_.2.2.1 230 0 (450 * c_ + 3 * g_).toNat).toNat))), none, some (.inr (.inl (S_.2.2.2 238 0 (S_.2.2.1 230 0 (450 * c_ + 3 * g_ + 1).toNat).toNat))), none, some (.inr (.inl 0)), none], [.inr (.inl lv_), .inl (fi_ + g_), .inr (.inr (some (238, 0)))], S_)) rfl ?_
                  refine sm_T_last (n := 256) rfl rfl (by omega) (by omega) ?_
                  have hIx70_ : gi (sm_aL S_ 238 0 (fi_ + g_).toNat lv_) := gi_aL hI_
                  have hFx71_ : ai_fr (sx_W vw_430) S0_ (sm_aL S_ 238 0 (fi_ + g_).toNat lv_) := ai_fr_tr hF_ (ai_fr_aL rfl)
                  refine sm_T_inc (a := 8) (z := 1) (v := g_) (w := g_ + 1) rfl rfl (by omega) (by omega) (by omega) ?_ -- pc_ 254
                  refine sm_T_go 1 (c1 := (58, [some (.inr (.inr (some (13, 0)))), some (.inl c_), some (.inl w_), some (.inl stuck), some (.inl pin_), some (.inr (.inl lv_)), none, some (.inl fi_), some (.inl (g_ + 1)), some (.inl (450 * c_ + 3 * g_)), some (.inl (S_.2.2.1 234 0 vx8_.toNat)), some (.inr (.inl (S_.2.2.2 238 0 (S_.2.2.1 230 0 (450 * c_ + 3 * g_).toNat).toNat))), none, some (.inr (.inl (S_.2.2.2 238 0 (S_.2.2.1 230 0 (450 * c_ + 3 * g_ + 1).toNat).toNat))), none, some (.inr (.inl 0)), none], [], sm_aL S_ 238 0 (fi_ + g_).toNat lv_)) rfl ?_
                  refine sm_T_wk [some (.inr (.inr (some (13, 0)))), some (.inl c_), some (.inl w_), some (.inl stuck), some (.inl pin_), some (.inr (.inl lv_)), none, some (.inl fi_), some (.inl (g_ + 1)), none, none, none, none, none, none, none, none] (by exact ⟨rfl, rfl, rfl, rfl, rfl, rfl, rfl, rfl, trivial⟩) ?_
                  refine ih_.2 lv_ fi_ (g_ + 1) (sm_aL S_ 238 0 (fi_ + g_).toNat lv_) hIx70_ hFx71_ ⟨?_, trivial⟩ ?_
                  · omega
                  · omega
            · have cx13_ : ¬ (pin_ ≠ 3 * g_ + 1) := of_decide_eq_false cx13_
              refine sm_T_go 5 (c1 := (168, [some (.inr (.inr (some (13, 0)))), some (.inl c_), some (.inl w_), some (.inl stuck), some (.inl pin_), some (.inr (.inl lv_)), none, some (.inl fi_), some (.inl g_), some (.inl (450 * c_ + 3 * g_)), some (.inl (S_.2.2.1 234 0 vx8_.toNat)), some (.inr (.inl (S_.2.2.2 238 0 (S_.2.2.1 230 0 (450 * c_ + 3 * g_).toNat).toNat))), none, some (.inr (.inl lv_)), none, none, none], [.inl 3, .inl (S_.2.2.1 234 0 vx8_.toNat)], S_)) rfl ?_
              refine sm_T_br (a := 3) (z := 7) rfl (fun cx72_ => ?_) (fun cx72_ => ?_)
              · have cx72_ : 3 ≤ (S_.2.2.1 234 0 vx8_.toNat) := of_decide_eq_true cx72_
                have G2_ := hg9_ g_ (by omega) (by omega) 2 (by decide) (by decide) (Or.inr (by rw [← e89_.2]; omega))
                rw [f223_, f224_] at G2_
                refine sm_T_go 3 (c1 := (180, [some (.inr (.inr (some (13, 0)))), some (.inl c_), some (.inl w_), some (.inl stuck), some (.inl pin_), some (.inr (.inl lv_)), none, some (.inl fi_), some (.inl g_), some (.inl (450 * c_ + 3 * g_)), some (.inl (S_.2.2.1 234 0 vx8_.toNat)), some (.inr (.inl (S_.2.2.2 238 0 (S_.2.2.1 230 0 (450 * c_ + 3 * g_).toNat).toNat))), none, some (.inr (.inl lv_)), none, none, none], [.inl g_, .inl 3, .inl pin_], S_)) rfl ?_
                refine sm_T_bin (w := 3 * g_) rfl (bi_mul (by omega) (by omega) (by omega)) ?_ -- pc_ 180
                refine sm_T_go 1 (c1 := (182, [some (.inr (.inr (some (13, 0)))), some (.inl c_), some (.inl w_), some (.inl stuck), some (.inl pin_), some (.inr (.inl lv_)), none, some (.inl fi_), some (.inl g_), some (.inl (450 * c_ + 3 * g_)), some (.inl (S_.2.2.1 234 0 vx8_.toNat)), some (.inr (.inl (S_.2.2.2 238 0 (S_.2.2.1 230 0 (450 * c_ + 3 * g_).toNat).toNat))), none, some (.inr (.inl lv_)), none, none, none], [.inl 2, .inl (3 * g_), .inl pin_], S_)) rfl ?_
                refine sm_T_bin (w := 3 * g_ + 2) rfl (bi_add (by omega) (by omega) (by omega)) ?_ -- pc_ 182
                refine sm_T_br (a := 1) (z := 8) rfl (fun cx73_ => ?_) (fun cx73_ => ?_)
                · have cx73_ : pin_ ≠ 3 * g_ + 2 := of_decide_eq_true cx73_
                  refine sm_T_go 6 (c1 := (202, [some (.inr (.inr (some (13, 0)))), some (.inl c_), some (.inl w_), some (.inl stuck), some (.inl pin_), some (.inr (.inl lv_)), none, some (.inl fi_), some (.inl g_), some (.inl (450 * c_ + 3 * g_)), some (.inl (S_.2.2.1 234 0 vx8_.toNat)), some (.inr (.inl (S_.2.2.2 238 0 (S_.2.2.1 230 0 (450 * c_ + 3 * g_).toNat).toNat))), none, some (.inr (.inl lv_)), none, none, none], [.inl 2, .inl (450 * c_ + 3 * g_), .inr (.inr (some (230, 0))), .inr (.inr (some (238, 0)))], S_)) rfl ?_
                  refine sm_T_bin (w := 450 * c_ + 3 * g_ + 2) rfl (bi_add (by omega) (by omega) (by omega)) ?_ -- pc_ 202
                  refine sm_T_iald (n := 1800) rfl rfl (by omega) (by omega) ?_
                  have bx74_ : (-1) ≤ S_.2.2.1 230 0 (450 * c_ + 3 * g_ + 2).toNat ∧ S_.2.2.1 230 0 (450 * c_ + 3 * g_ + 2).toNat ≤ 161 := hI_.2 230 0 _
                  refine sm_T_lald (n := 256) rfl rfl (by omega) (by omega) ?_
                  refine sm_T_go 5 (c1 := (215, [some (.inr (.inr (some (13, 0)))), some (.inl c_), some (.inl w_), some (.inl stuck), some (.inl pin_), some (.inr (.inl lv_)), none, some (.inl fi_), some (.inl g_), some (.inl (450 * c_ + 3 * g_)), some (.inl (S_.2.2.1 234 0 vx8_.toNat)), some (.inr (.inl (S_.2.2.2 238 0 (S_.2.2.1 230 0 (450 * c_ + 3 * g_).toNat).toNat))), none, some (.inr (.inl lv_)), none, some (.inr (.inl (S_.2.2.2 238 0 (S_.2.2.1 230 0 (450 * c_ + 3 * g_ + 2).toNat).toNat))), none], [.inl g_, .inl fi_, .inr (.inr (some (238, 0)))], S_)) rfl ?_
                  refine sm_T_bin (w := fi_ + g_) rfl (bi_add (by omega) (by omega) (by omega)) ?_ -- pc_ 215
                  refine sm_T_go 2 (c1 := (220, [some (.inr (.inr (some (13, 0)))), some (.inl c_), some (.inl w_), some (.inl stuck), some (.inl pin_), some (.inr (.inl lv_)), none, some (.inl fi_), some (.inl g_), some (.inl (450 * c_ + 3 * g_)), some (.inl (S_.2.2.1 234 0 vx8_.toNat)), some (.inr (.inl (S_.2.2.2 238 0 (S_.2.2.1 230 0 (450 * c_ + 3 * g_).toNat).toNat))), none, some (.inr (.inl lv_)), none, some (.inr (.inl (S_.2.2.2 238 0 (S_.2.2.1 230 0 (450 * c_ + 3 * g_ + 2).toNat).toNat))), none], [.inl g_, .inl fi_, .inl (fi_ + g_), .inr (.inr (some (238, 0)))], S_)) rfl ?_
                  refine sm_T_bin (w := fi_ + g_) rfl (bi_add (by omega) (by omega) (by omega)) ?_ -- pc_ 220
                  refine sm_T_go 1 (c1 := (222, [some (.inr (.inr (some (13, 0)))), some (.inl c_), some (.inl w_), some (.inl stuck), some (.inl pin_), some (.inr (.inl lv_)), none, some (.inl fi_), some (.inl g_), some (.inl (450 * c_ + 3 * g_)), some (.inl (S_.2.2.1 234 0 vx8_.toNat)), some (.inr (.inl (S_.2.2.2 238 0 (S_.2.2.1 230 0 (450 * c_ + 3 * g_).toNat).toNat))), none, some (.inr (.inl lv_)), none, some (.inr (.inl (S_.2.2.2 238 0 (S_.2.2.1 230 0 (450 * c_ + 3 * g_ + 2).toNat).toNat))), none], [.inl stuck, .inl (fi_ + g_), .inl (fi_ + g_), .inr (.inr (some (238, 0)))], S_)) rfl ?_
                  refine sm_T_br (a := 1) (z := 8) rfl (fun cx75_ => ?_) (fun cx75_ => ?_)
                  · have cx75_ : fi_ + g_ ≠ stuck := of_decide_eq_true cx75_
                    refine sm_T_go 5 (c1 := (238, [some (.inr (.inr (some (13, 0)))), some (.inl c_), some (.inl w_), some (.inl stuck), some (.inl pin_), some (.inr (.inl lv_)), none, some (.inl fi_), some (.inl g_), some (.inl (450 * c_ + 3 * g_)), some (.inl (S_.2.2.1 234 0 vx8_.toNat)), some (.inr (.inl (S_.2.2.2 238 0 (S_.2.2.1 230 0 (450 * c_ + 3 * g_).toNat).toNat))), none, some (.inr (.inl lv_)), none, some (.inr (.inl (S_.2.2.2 238 0 (S_.2.2.1 230 0 (450 * c_ + 3 * g_ + 2).toNat).toNat))), none], [.inl g_, .inl c_, .inr (.inr (some (13, 0))), .inr (.inr (some (235, 0))), .inl (fi_ + g_), .inr (.inr (some (238, 0)))], S_)) rfl ?_
                    refine sm_T_cal (d1 := 0) (Q1 := vq_421 c_ g_ S_) rfl rfl (by decide) (vc_421 c_ g_ S_ hI_ (by omega) (by omega)) (fun u_ Sx76_ px79_ => ?_)
                    obtain ⟨rfl, vx81_, rfl, px79_⟩ := px79_
                    refine sm_T_iald (n := 48) rfl rfl (by omega) (by omega) ?_
                    have bx82_ : 0 ≤ S_.2.2.1 235 0 vx81_.toNat ∧ S_.2.2.1 235 0 vx81_.toNat ≤ 255 := hI_.2 235 0 _
                    refine sm_T_go 4 (c1 := (250, [some (.inr (.inr (some (13, 0)))), some (.inl c_), some (.inl w_), some (.inl stuck), some (.inl pin_), some (.inr (.inl lv_)), none, some (.inl fi_), some (.inl g_), some (.inl (450 * c_ + 3 * g_)), some (.inl (S_.2.2.1 234 0 vx8_.toNat)), some (.inr (.inl (S_.2.2.2 238 0 (S_.2.2.1 230 0 (450 * c_ + 3 * g_).toNat).toNat))), none, some (.inr (.inl lv_)), none, some (.inr (.inl (S_.2.2.2 238 0 (S_.2.2.1 230 0 (450 * c_ + 3 * g_ + 2).toNat).toNat))), none], [.inr (.inl (S_.2.2.2 238 0 (S_.2.2.1 230 0 (450 * c_ + 3 * g_ + 2).toNat).toNat)), .inr (.inl lv_), .inr (.inl (S_.2.2.2 238 0 (S_.2.2.1 230 0 (450 * c_ + 3 * g_).toNat).toNat)), .inl (S_.2.2.1 234 0 vx8_.toNat), .inl (S_.2.2.1 235 0 vx81_.toNat), .inl (fi_ + g_), .inr (.inr (some (238, 0)))], S_)) rfl ?_
                    refine sm_T_cal (d1 := 0) (Q1 := vq_429 (S_.2.2.1 235 0 vx81_.toNat) (S_.2.2.1 234 0 vx8_.toNat) ((S_.2.2.2 238 0 (S_.2.2.1 230 0 (450 * c_ + 3 * g_).toNat).toNat)) lv_ ((S_.2.2.2 238 0 (S_.2.2.1 230 0 (450 * c_ + 3 * g_ + 2).toNat).toNat)) S_) rfl rfl (by decide) (vc_429 (S_.2.2.1 235 0 vx81_.toNat) (S_.2.2.1 234 0 vx8_.toNat) ((S_.2.2.2 238 0 (S_.2.2.1 230 0 (450 * c_ + 3 * g_).toNat).toNat)) lv_ ((S_.2.2.2 238 0 (S_.2.2.1 230 0 (450 * c_ + 3 * g_ + 2).toNat).toNat)) S_ hI_ (by omega) (by omega)) (fun u_ Sx83_ px86_ => ?_)
                    obtain ⟨vx88_, rfl, hIx84_, hFx85_, px86_⟩ := px86_
                    have hFx87_ : ai_fr (sx_W vw_430) S0_ Sx83_ := ai_fr_tr hF_ (fr_le hFx85_ rfl)
                    refine sm_T_last (n := 256) rfl rfl (by omega) (by omega) ?_
                    have hIx89_ : gi (sm_aL Sx83_ 238 0 (fi_ + g_).toNat vx88_) := gi_aL hIx84_
                    have hFx90_ : ai_fr (sx_W vw_430) S0_ (sm_aL Sx83_ 238 0 (fi_ + g_).toNat vx88_) := ai_fr_tr hFx87_ (ai_fr_aL rfl)
                    refine sm_T_inc (a := 8) (z := 1) (v := g_) (w := g_ + 1) rfl rfl (by omega) (by omega) (by omega) ?_ -- pc_ 254
                    refine sm_T_go 1 (c1 := (58, [some (.inr (.inr (some (13, 0)))), some (.inl c_), some (.inl w_), some (.inl stuck), some (.inl pin_), some (.inr (.inl lv_)), none, some (.inl fi_), some (.inl (g_ + 1)), some (.inl (450 * c_ + 3 * g_)), some (.inl (S_.2.2.1 234 0 vx8_.toNat)), some (.inr (.inl (S_.2.2.2 238 0 (S_.2.2.1 230 0 (450 * c_ + 3 * g_).toNat).toNat))), none, some (.inr (.inl lv_)), none, some (.inr (.inl (S_.2.2.2 238 0 (S_.2.2.1 230 0 (450 * c_ + 3 * g_ + 2).toNat).toNat))), none], [], sm_aL Sx83_ 238 0 (fi_ + g_).toNat vx88_)) rfl ?_
                    refine sm_T_wk [some (.inr (.inr (some (13, 0)))), some (.inl c_), some (.inl w_), some (.inl stuck), some (.inl pin_), some (.inr (.inl lv_)), none, some (.inl fi_), some (.inl (g_ + 1)), none, none, none, none, none, none, none, none] (by exact ⟨rfl, rfl, rfl, rfl, rfl, rfl, rfl, rfl, trivial⟩) ?_
                    refine ih_.2 lv_ fi_ (g_ + 1) (sm_aL Sx83_ 238 0 (fi_ + g_).toNat vx88_) hIx89_ hFx90_ ⟨?_, trivial⟩ ?_
                    · omega
                    · omega
                  · have cx75_ : ¬ (fi_ + g_ ≠ stuck) := of_decide_eq_false cx75_
                    refine sm_T_go 2 (c1 := (253, [some (.inr (.inr (some (13, 0)))), some (.inl c_), some (.inl w_), some (.inl stuck), some (.inl pin_), some (.inr (.inl lv_)), none, some (.inl fi_), some (.inl g_), some (.inl (450 * c_ + 3 * g_)), some (.inl (S_.2.2.1 234 0 vx8_.toNat)), some (.inr (.inl (S_.2.2.2 238 0 (S_.2.2.1 230 0 (450 * c_ + 3 * g_).toNat).toNat))), none, some (.inr (.inl lv_)), none, some (.inr (.inl (S_.2.2.2 238 0 (S_.2.2.1 230 0 (450 * c_ + 3 * g_ + 2).toNat).toNat))), none], [.inr (.inl lv_), .inl (fi_ + g_), .inr (.inr (some (238, 0)))], S_)) rfl ?_
                    refine sm_T_last (n := 256) rfl rfl (by omega) (by omega) ?_
                    have hIx91_ : gi (sm_aL S_ 238 0 (fi_ + g_).toNat lv_) := gi_aL hI_
                    have hFx92_ : ai_fr (sx_W vw_430) S0_ (sm_aL S_ 238 0 (fi_ + g_).toNat lv_) := ai_fr_tr hF_ (ai_fr_aL rfl)
                    refine sm_T_inc (a := 8) (z := 1) (v := g_) (w := g_ + 1) rfl rfl (by omega) (by omega) (by omega) ?_ -- pc_ 254
                    refine sm_T_go 1 (c1 := (58, [some (.inr (.inr (some (13, 0)))), some (.inl c_), some (.inl w_), some (.inl stuck), some (.inl pin_), some (.inr (.inl lv_)), none, some (.inl fi_), some (.inl (g_ + 1)), some (.inl (450 * c_ + 3 * g_)), some (.inl (S_.2.2.1 234 0 vx8_.toNat)), some (.inr (.inl (S_.2.2.2 238 0 (S_.2.2.1 230 0 (450 * c_ + 3 * g_).toNat).toNat))), none, some (.inr (.inl lv_)), none, some (.inr (.inl (S_.2.2.2 238 0 (S_.2.2.1 230 0 (450 * c_ + 3 * g_ + 2).toNat).toNat))), none], [], sm_aL S_ 238 0 (fi_ + g_).toNat lv_)) rfl ?_
                    refine sm_T_wk [some (.inr (.inr (some (13, 0)))), some (.inl c_), some (.inl w_), some (.inl stuck), some (.inl pin_), some (.inr (.inl lv_)), none, some (.inl fi_), some (.inl (g_ + 1)), none, none, none, none, none, none, none, none] (by exact ⟨rfl, rfl, rfl, rfl, rfl, rfl, rfl, rfl, trivial⟩) ?_
                    refine ih_.2 lv_ fi_ (g_ + 1) (sm_aL S_ 238 0 (fi_ + g_).toNat lv_) hIx91_ hFx92_ ⟨?_, trivial⟩ ?_
                    · omega
                    · omega
                · have cx73_ : ¬ (pin_ ≠ 3 * g_ + 2) := of_decide_eq_false cx73_
                  exfalso; omega
              · have cx72_ : ¬ (3 ≤ (S_.2.2.1 234 0 vx8_.toNat)) := of_decide_eq_false cx72_
                refine sm_T_go 7 (c1 := (215, [some (.inr (.inr (some (13, 0)))), some (.inl c_), some (.inl w_), some (.inl stuck), some (.inl pin_), some (.inr (.inl lv_)), none, some (.inl fi_), some (.inl g_), some (.inl (450 * c_ + 3 * g_)), some (.inl (S_.2.2.1 234 0 vx8_.toNat)), some (.inr (.inl (S_.2.2.2 238 0 (S_.2.2.1 230 0 (450 * c_ + 3 * g_).toNat).toNat))), none, some (.inr (.inl lv_)), none, some (.inr (.inl 0)), none], [.inl g_, .inl fi_, .inr (.inr (some (238, 0)))], S_)) rfl ?_
                refine sm_T_bin (w := fi_ + g_) rfl (bi_add (by omega) (by omega) (by omega)) ?_ -- pc_ 215
                refine sm_T_go 2 (c1 := (220, [some (.inr (.inr (some (13, 0)))), some (.inl c_), some (.inl w_), some (.inl stuck), some (.inl pin_), some (.inr (.inl lv_)), none, some (.inl fi_), some (.inl g_), some (.inl (450 * c_ + 3 * g_)), some (.inl (S_.2.2.1 234 0 vx8_.toNat)), some (.inr (.inl (S_.2.2.2 238 0 (S_.2.2.1 230 0 (450 * c_ + 3 * g_).toNat).toNat))), none, some (.inr (.inl lv_)), none, some (.inr (.inl 0)), none], [.inl g_, .inl fi_, .inl (fi_ + g_), .inr (.inr (some (238, 0)))], S_)) rfl ?_
                refine sm_T_bin (w := fi_ + g_) rfl (bi_add (by omega) (by omega) (by omega)) ?_ -- pc_ 220
                refine sm_T_go 1 (c1 := (222, [some (.inr (.inr (some (13, 0)))), some (.inl c_), some (.inl w_), some (.inl stuck), some (.inl pin_), some (.inr (.inl lv_)), none, some (.inl fi_), some (.inl g_), some (.inl (450 * c_ + 3 * g_)), some (.inl (S_.2.2.1 234 0 vx8_.toNat)), some (.inr (.inl (S_.2.2.2 238 0 (S_.2.2.1 230 0 (450 * c_ + 3 * g_).toNat).toNat))), none, some (.inr (.inl lv_)), none, some (.inr (.inl 0)), none], [.inl stuck, .inl (fi_ + g_), .inl (fi_ + g_), .inr (.inr (some (238, 0)))], S_)) rfl ?_
                refine sm_T_br (a := 1) (z := 8) rfl (fun cx93_ => ?_) (fun cx93_ => ?_)
                · have cx93_ : fi_ + g_ ≠ stuck := of_decide_eq_true cx93_
                  refine sm_T_go 5 (c1 := (238, [some (.inr (.inr (some (13, 0)))), some (.inl c_), some (.inl w_), some (.inl stuck), some (.inl pin_), some (.inr (.inl lv_)), none, some (.inl fi_), some (.inl g_), some (.inl (450 * c_ + 3 * g_)), some (.inl (S_.2.2.1 234 0 vx8_.toNat)), some (.inr (.inl (S_.2.2.2 238 0 (S_.2.2.1 230 0 (450 * c_ + 3 * g_).toNat).toNat))), none, some (.inr (.inl lv_)), none, some (.inr (.inl 0)), none], [.inl g_, .inl c_, .inr (.inr (some (13, 0))), .inr (.inr (some (235, 0))), .inl (fi_ + g_), .inr (.inr (some (238, 0)))], S_)) rfl ?_
                  refine sm_T_cal (d1 := 0) (Q1 := vq_421 c_ g_ S_) rfl rfl (by decide) (vc_421 c_ g_ S_ hI_ (by omega) (by omega)) (fun u_ Sx94_ px97_ => ?_)
                  obtain ⟨rfl, vx99_, rfl, px97_⟩ := px97_
                  refine sm_T_iald (n := 48) rfl rfl (by omega) (by omega) ?_
                  have bx100_ : 0 ≤ S_.2.2.1 235 0 vx99_.toNat ∧ S_.2.2.1 235 0 vx99_.toNat ≤ 255 := hI_.2 235 0 _
                  refine sm_T_go 4 (c1 := (250, [some (.inr (.inr (some (13, 0)))), some (.inl c_), some (.inl w_), some (.inl stuck), some (.inl pin_), some (.inr (.inl lv_)), none, some (.inl fi_), some (.inl g_), some (.inl (450 * c_ + 3 * g_)), some (.inl (S_.2.2.1 234 0 vx8_.toNat)), some (.inr (.inl (S_.2.2.2 238 0 (S_.2.2.1 230 0 (450 * c_ + 3 * g_).toNat).toNat))), none, some (.inr (.inl lv_)), none, some (.inr (.inl 0)), none], [.inr (.inl 0), .inr (.inl lv_), .inr (.inl (S_.2.2.2 238 0 (S_.2.2.1 230 0 (450 * c_ + 3 * g_).toNat).toNat)), .inl (S_.2.2.1 234 0 vx8_.toNat), .inl (S_.2.2.1 235 0 vx99_.toNat), .inl (fi_ + g_), .inr (.inr (some (238, 0)))], S_)) rfl ?_
                  refine sm_T_cal (d1 := 0) (Q1 := vq_429 (S_.2.2.1 235 0 vx99_.toNat) (S_.2.2.1 234 0 vx8_.toNat) ((S_.2.2.2 238 0 (S_.2.2.1 230 0 (450 * c_ + 3 * g_).toNat).toNat)) lv_ 0 S_) rfl rfl (by decide) (vc_429 (S_.2.2.1 235 0 vx99_.toNat) (S_.2.2.1 234 0 vx8_.toNat) ((S_.2.2.2 238 0 (S_.2.2.1 230 0 (450 * c_ + 3 * g_).toNat).toNat)) lv_ 0 S_ hI_ (by omega) (by omega)) (fun u_ Sx101_ px104_ => ?_)
                  obtain ⟨vx106_, rfl, hIx102_, hFx103_, px104_⟩ := px104_
                  have hFx105_ : ai_fr (sx_W vw_430) S0_ Sx101_ := ai_fr_tr hF_ (fr_le hFx103_ rfl)
                  refine sm_T_last (n := 256) rfl rfl (by omega) (by omega) ?_
                  have hIx107_ : gi (sm_aL Sx101_ 238 0 (fi_ + g_).toNat vx106_) := gi_aL hIx102_
                  have hFx108_ : ai_fr (sx_W vw_430) S0_ (sm_aL Sx101_ 238 0 (fi_ + g_).toNat vx106_) := ai_fr_tr hFx105_ (ai_fr_aL rfl)
                  refine sm_T_inc (a := 8) (z := 1) (v := g_) (w := g_ + 1) rfl rfl (by omega) (by omega) (by omega) ?_ -- pc_ 254
                  refine sm_T_go 1 (c1 := (58, [some (.inr (.inr (some (13, 0)))), some (.inl c_), some (.inl w_), some (.inl stuck), some (.inl pin_), some (.inr (.inl lv_)), none, some (.inl fi_), some (.inl (g_ + 1)), some (.inl (450 * c_ + 3 * g_)), some (.inl (S_.2.2.1 234 0 vx8_.toNat)), some (.inr (.inl (S_.2.2.2 238 0 (S_.2.2.1 230 0 (450 * c_ + 3 * g_).toNat).toNat))), none, some (.inr (.inl lv_)), none, some (.inr (.inl 0)), none], [], sm_aL Sx101_ 238 0 (fi_ + g_).toNat vx106_)) rfl ?_
                  refine sm_T_wk [some (.inr (.inr (some (13, 0)))), some (.inl c_), some (.inl w_), some (.inl stuck), some (.inl pin_), some (.inr (.inl lv_)), none, some (.inl fi_), some (.inl (g_ + 1)), none, none, none, none, none, none, none, none] (by exact ⟨rfl, rfl, rfl, rfl, rfl, rfl, rfl, rfl, trivial⟩) ?_
                  refine ih_.2 lv_ fi_ (g_ + 1) (sm_aL Sx101_ 238 0 (fi_ + g_).toNat vx106_) hIx107_ hFx108_ ⟨?_, trivial⟩ ?_
                  · omega
                  · omega
                · have cx93_ : ¬ (fi_ + g_ ≠ stuck) := of_decide_eq_false cx93_
                  refine sm_T_go 2 (c1 := (253, [some (.inr (.inr (some (13, 0)))), some (.inl c_), some (.inl w_), some (.inl stuck), some (.inl pin_), some (.inr (.inl lv_)), none, some (.inl fi_), some (.inl g_), some (.inl (450 * c_ + 3 * g_)), some (.inl (S_.2.2.1 234 0 vx8_.toNat)), some (.inr (.inl (S_.2.2.2 238 0 (S_.2.2.1 230 0 (450 * c_ + 3 * g_).toNat).toNat))), none, some (.inr (.inl lv_)), none, some (.inr (.inl 0)), none], [.inr (.inl lv_), .inl (fi_ + g_), .inr (.inr (some (238, 0)))], S_)) rfl ?_
                  refine sm_T_last (n := 256) rfl rfl (by omega) (by omega) ?_
                  have hIx109_ : gi (sm_aL S_ 238 0 (fi_ + g_).toNat lv_) := gi_aL hI_
                  have hFx110_ : ai_fr (sx_W vw_430) S0_ (sm_aL S_ 238 0 (fi_ + g_).toNat lv_) := ai_fr_tr hF_ (ai_fr_aL rfl)
                  refine sm_T_inc (a := 8) (z := 1) (v := g_) (w := g_ + 1) rfl rfl (by omega) (by omega) (by omega) ?_ -- pc_ 254
                  refine sm_T_go 1 (c1 := (58, [some (.inr (.inr (some (13, 0)))), some (.inl c_), some (.inl w_), some (.inl stuck), some (.inl pin_), some (.inr (.inl lv_)), none, some (.inl fi_), some (.inl (g_ + 1)), some (.inl (450 * c_ + 3 * g_)), some (.inl (S_.2.2.1 234 0 vx8_.toNat)), some (.inr (.inl (S_.2.2.2 238 0 (S_.2.2.1 230 0 (450 * c_ + 3 * g_).toNat).toNat))), none, some (.inr (.inl lv_)), none, some (.inr (.inl 0)), none], [], sm_aL S_ 238 0 (fi_ + g_).toNat lv_)) rfl ?_
                  refine sm_T_wk [some (.inr (.inr (some (13, 0)))), some (.inl c_), some (.inl w_), some (.inl stuck), some (.inl pin_), some (.inr (.inl lv_)), none, some (.inl fi_), some (.inl (g_ + 1)), none, none, none, none, none, none, none, none] (by exact ⟨rfl, rfl, rfl, rfl, rfl, rfl, rfl, rfl, trivial⟩) ?_
                  refine ih_.2 lv_ fi_ (g_ + 1) (sm_aL S_ 238 0 (fi_ + g_).toNat lv_) hIx109_ hFx110_ ⟨?_, trivial⟩ ?_
                  · omega
                  · omega
          · have cx12_ : ¬ (2 ≤ (S_.2.2.1 234 0 vx8_.toNat)) := of_decide_eq_false cx12_
            refine sm_T_go 5 (c1 := (168, [some (.inr (.inr (some (13, 0)))), some (.inl c_), some (.inl w_), some (.inl stuck), some (.inl pin_), some (.inr (.inl lv_)), none, some (.inl fi_), some (.inl g_), some (.inl (450 * c_ + 3 * g_)), some (.inl (S_.2.2.1 234 0 vx8_.toNat)), some (.inr (.inl (S_.2.2.2 238 0 (S_.2.2.1 230 0 (450 * c_ + 3 * g_).toNat).toNat))), none, some (.inr (.inl 0)), none, none, none], [.inl 3, .inl (S_.2.2.1 234 0 vx8_.toNat)], S_)) rfl ?_
            refine sm_T_br (a := 3) (z := 7) rfl (fun cx111_ => ?_) (fun cx111_ => ?_)
            · have cx111_ : 3 ≤ (S_.2.2.1 234 0 vx8_.toNat) := of_decide_eq_true cx111_
              exfalso; omega
            · have cx111_ : ¬ (3 ≤ (S_.2.2.1 234 0 vx8_.toNat)) := of_decide_eq_false cx111_
              refine sm_T_go 7 (c1 := (215, [some (.inr (.inr (some (13, 0)))), some (.inl c_), some (.inl w_), some (.inl stuck), some (.inl pin_), some (.inr (.inl lv_)), none, some (.inl fi_), some (.inl g_), some (.inl (450 * c_ + 3 * g_)), some (.inl (S_.2.2.1 234 0 vx8_.toNat)), some (.inr (.inl (S_.2.2.2 238 0 (S_.2.2.1 230 0 (450 * c_ + 3 * g_).toNat).toNat))), none, some (.inr (.inl 0)), none, some (.inr (.inl 0)), none], [.inl g_, .inl fi_, .inr (.inr (some (238, 0)))], S_)) rfl ?_
              refine sm_T_bin (w := fi_ + g_) rfl (bi_add (by omega) (by omega) (by omega)) ?_ -- pc_ 215
              refine sm_T_go 2 (c1 := (220, [some (.inr (.inr (some (13, 0)))), some (.inl c_), some (.inl w_), some (.inl stuck), some (.inl pin_), some (.inr (.inl lv_)), none, some (.inl fi_), some (.inl g_), some (.inl (450 * c_ + 3 * g_)), some (.inl (S_.2.2.1 234 0 vx8_.toNat)), some (.inr (.inl (S_.2.2.2 238 0 (S_.2.2.1 230 0 (450 * c_ + 3 * g_).toNat).toNat))), none, some (.inr (.inl 0)), none, some (.inr (.inl 0)), none], [.inl g_, .inl fi_, .inl (fi_ + g_), .inr (.inr (some (238, 0)))], S_)) rfl ?_
              refine sm_T_bin (w := fi_ + g_) rfl (bi_add (by omega) (by omega) (by omega)) ?_ -- pc_ 220
              refine sm_T_go 1 (c1 := (222, [some (.inr (.inr (some (13, 0)))), some (.inl c_), some (.inl w_), some (.inl stuck), some (.inl pin_), some (.inr (.inl lv_)), none, some (.inl fi_), some (.inl g_), some (.inl (450 * c_ + 3 * g_)), some (.inl (S_.2.2.1 234 0 vx8_.toNat)), some (.inr (.inl (S_.2.2.2 238 0 (S_.2.2.1 230 0 (450 * c_ + 3 * g_).toNat).toNat))), none, some (.inr (.inl 0)), none, some (.inr (.inl 0)), none], [.inl stuck, .inl (fi_ + g_), .inl (fi_ + g_), .inr (.inr (some (238, 0)))], S_)) rfl ?_
              refine sm_T_br (a := 1) (z := 8) rfl (fun cx112_ => ?_) (fun cx112_ => ?_)
              · have cx112_ : fi_ + g_ ≠ stuck := of_decide_eq_true cx112_
                refine sm_T_go 5 (c1 := (238, [some (.inr (.inr (some (13, 0)))), some (.inl c_), some (.inl w_), some (.inl stuck), some (.inl pin_), some (.inr (.inl lv_)), none, some (.inl fi_), some (.inl g_), some (.inl (450 * c_ + 3 * g_)), some (.inl (S_.2.2.1 234 0 vx8_.toNat)), some (.inr (.inl (S_.2.2.2 238 0 (S_.2.2.1 230 0 (450 * c_ + 3 * g_).toNat).toNat))), none, some (.inr (.inl 0)), none, some (.inr (.inl 0)), none], [.inl g_, .inl c_, .inr (.inr (some (13, 0))), .inr (.inr (some (235, 0))), .inl (fi_ + g_), .inr (.inr (some (238, 0)))], S_)) rfl ?_
                refine sm_T_cal (d1 := 0) (Q1 := vq_421 c_ g_ S_) rfl rfl (by decide) (vc_421 c_ g_ S_ hI_ (by omega) (by omega)) (fun u_ Sx113_ px116_ => ?_)
                obtain ⟨rfl, vx118_, rfl, px116_⟩ := px116_
                refine sm_T_iald (n := 48) rfl rfl (by omega) (by omega) ?_
                have bx119_ : 0 ≤ S_.2.2.1 235 0 vx118_.toNat ∧ S_.2.2.1 235 0 vx118_.toNat ≤ 255 := hI_.2 235 0 _
                refine sm_T_go 4 (c1 := (250, [some (.inr (.inr (some (13, 0)))), some (.inl c_), some (.inl w_), some (.inl stuck), some (.inl pin_), some (.inr (.inl lv_)), none, some (.inl fi_), some (.inl g_), some (.inl (450 * c_ + 3 * g_)), some (.inl (S_.2.2.1 234 0 vx8_.toNat)), some (.inr (.inl (S_.2.2.2 238 0 (S_.2.2.1 230 0 (450 * c_ + 3 * g_).toNat).toNat))), none, some (.inr (.inl 0)), none, some (.inr (.inl 0)), none], [.inr (.inl 0), .inr (.inl 0), .inr (.inl (S_.2.2.2 238 0 (S_.2.2.1 230 0 (450 * c_ + 3 * g_).toNat).toNat)), .inl (S_.2.2.1 234 0 vx8_.toNat), .inl (S_.2.2.1 235 0 vx118_.toNat), .inl (fi_ + g_), .inr (.inr (some (238, 0)))], S_)) rfl ?_
                refine sm_T_cal (d1 := 0) (Q1 := vq_429 (S_.2.2.1 235 0 vx118_.toNat) (S_.2.2.1 234 0 vx8_.toNat) ((S_.2.2.2 238 0 (S_.2.2.1 230 0 (450 * c_ + 3 * g_).toNat).toNat)) 0 0 S_) rfl rfl (by decide) (vc_429 (S_.2.2.1 235 0 vx118_.toNat) (S_.2.2.1 234 0 vx8_.toNat) ((S_.2.2.2 238 0 (S_.2.2.1 230 0 (450 * c_ + 3 * g_).toNat).toNat)) 0 0 S_ hI_ (by omega) (by omega)) (fun u_ Sx120_ px123_ => ?_)
                obtain ⟨vx125_, rfl, hIx121_, hFx122_, px123_⟩ := px123_
                have hFx124_ : ai_fr (sx_W vw_430) S0_ Sx120_ := ai_fr_tr hF_ (fr_le hFx122_ rfl)
                refine sm_T_last (n := 256) rfl rfl (by omega) (by omega) ?_
                have hIx126_ : gi (sm_aL Sx120_ 238 0 (fi_ + g_).toNat vx125_) := gi_aL hIx121_
                have hFx127_ : ai_fr (sx_W vw_430) S0_ (sm_aL Sx120_ 238 0 (fi_ + g_).toNat vx125_) := ai_fr_tr hFx124_ (ai_fr_aL rfl)
                refine sm_T_inc (a := 8) (z := 1) (v := g_) (w := g_ + 1) rfl rfl (by omega) (by omega) (by omega) ?_ -- pc_ 254
                refine sm_T_go 1 (c1 := (58, [some (.inr (.inr (some (13, 0)))), some (.inl c_), some (.inl w_), some (.inl stuck), some (.inl pin_), some (.inr (.inl lv_)), none, some (.inl fi_), some (.inl (g_ + 1)), some (.inl (450 * c_ + 3 * g_)), some (.inl (S_.2.2.1 234 0 vx8_.toNat)), some (.inr (.inl (S_.2.2.2 238 0 (S_.2.2.1 230 0 (450 * c_ + 3 * g_).toNat).toNat))), none, some (.inr (.inl 0)), none, some (.inr (.inl 0)), none], [], sm_aL Sx120_ 238 0 (fi_ + g_).toNat vx125_)) rfl ?_
                refine sm_T_wk [some (.inr (.inr (some (13, 0)))), some (.inl c_), some (.inl w_), some (.inl stuck), some (.inl pin_), some (.inr (.inl lv_)), none, some (.inl fi_), some (.inl (g_ + 1)), none, none, none, none, none, none, none, none] (by exact ⟨rfl, rfl, rfl, rfl, rfl, rfl, rfl, rfl, trivial⟩) ?_
                refine ih_.2 lv_ fi_ (g_ + 1) (sm_aL Sx120_ 238 0 (fi_ + g_).toNat vx125_) hIx126_ hFx127_ ⟨?_, trivial⟩ ?_
                · omega
                · omega
              · have cx112_ : ¬ (fi_ + g_ ≠ stuck) := of_decide_eq_false cx112_
                refine sm_T_go 2 (c1 := (253, [some (.inr (.inr (some (13, 0)))), some (.inl c_), some (.inl w_), some (.inl stuck), some (.inl pin_), some (.inr (.inl lv_)), none, some (.inl fi_), some (.inl g_), some (.inl (450 * c_ + 3 * g_)), some (.inl (S_.2.2.1 234 0 vx8_.toNat)), some (.inr (.inl (S_.2.2.2 238 0 (S_.2.2.1 230 0 (450 * c_ + 3 * g_).toNat).toNat))), none, some (.inr (.inl 0)), none, some (.inr (.inl 0)), none], [.inr (.inl lv_), .inl (fi_ + g_), .inr (.inr (some (238, 0)))], S_)) rfl ?_
                refine sm_T_last (n := 256) rfl rfl (by omega) (by omega) ?_
                have hIx128_ : gi (sm_aL S_ 238 0 (fi_ + g_).toNat lv_) := gi_aL hI_
                have hFx129_ : ai_fr (sx_W vw_430) S0_ (sm_aL S_ 238 0 (fi_ + g_).toNat lv_) := ai_fr_tr hF_ (ai_fr_aL rfl)
                refine sm_T_inc (a := 8) (z := 1) (v := g_) (w := g_ + 1) rfl rfl (by omega) (by omega) (by omega) ?_ -- pc_ 254
                refine sm_T_go 1 (c1 := (58, [some (.inr (.inr (some (13, 0)))), some (.inl c_), some (.inl w_), some (.inl stuck), some (.inl pin_), some (.inr (.inl lv_)), none, some (.inl fi_), some (.inl (g_ + 1)), some (.inl (450 * c_ + 3 * g_)), some (.inl (S_.2.2.1 234 0 vx8_.toNat)), some (.inr (.inl (S_.2.2.2 238 0 (S_.2.2.1 230 0 (450 * c_ + 3 * g_).toNat).toNat))), none, some (.inr (.inl 0)), none, some (.inr (.inl 0)), none], [], sm_aL S_ 238 0 (fi_ + g_).toNat lv_)) rfl ?_
                refine sm_T_wk [some (.inr (.inr (some (13, 0)))), some (.inl c_), some (.inl w_), some (.inl stuck), some (.inl pin_), some (.inr (.inl lv_)), none, some (.inl fi_), some (.inl (g_ + 1)), none, none, none, none, none, none, none, none] (by exact ⟨rfl, rfl, rfl, rfl, rfl, rfl, rfl, rfl, trivial⟩) ?_
                refine ih_.2 lv_ fi_ (g_ + 1) (sm_aL S_ 238 0 (fi_ + g_).toNat lv_) hIx128_ hFx129_ ⟨?_, trivial⟩ ?_
                · omega
                · omega
        · have cx10_ : ¬ (pin_ ≠ 3 * g_) := of_decide_eq_false cx10_
          refine sm_T_go 5 (c1 := (126, [some (.inr (.inr (some (13, 0)))), some (.inl c_), some (.inl w_), some (.inl stuck), some (.inl pin_), some (.inr (.inl lv_)), none, some (.inl fi_), some (.inl g_), some (.inl (450 * c_ + 3 * g_)), some (.inl (S_.2.2.1 234 0 vx8_.toNat)), some (.inr (.inl lv_)), none, none, none, none, none], [.inl 2, .inl (S_.2.2.1 234 0 vx8_.toNat)], S_)) rfl ?_
          refine sm_T_br (a := 3) (z := 7) rfl (fun cx130_ => ?_) (fun cx130_ => ?_)
          · have cx130_ : 2 ≤ (S_.2.2.1 234 0 vx8_.toNat) := of_decide_eq_true cx130_
            have G1_ := hg9_ g_ (by omega) (by omega) 1 (by decide) (by decide) (Or.inr (by rw [← e89_.2]; omega))
            rw [f223_, f224_] at G1_
            refine sm_T_go 3 (c1 := (138, [some (.inr (.inr (some (13, 0)))), some (.inl c_), some (.inl w_), some (.inl stuck), some (.inl pin_), some (.inr (.inl lv_)), none, some (.inl fi_), some (.inl g_), some (.inl (450 * c_ + 3 * g_)), some (.inl (S_.2.2.1 234 0 vx8_.toNat)), some (.inr (.inl lv_)), none, none, none, none, none], [.inl g_, .inl 3, .inl pin_], S_)) rfl ?_
            refine sm_T_bin (w := 3 * g_) rfl (bi_mul (by omega) (by omega) (by omega)) ?_ -- pc_ 138
            refine sm_T_go 1 (c1 := (140, [some (.inr (.inr (some (13, 0)))), some (.inl c_), some (.inl w_), some (.inl stuck), some (.inl pin_), some (.inr (.inl lv_)), none, some (.inl fi_), some (.inl g_), some (.inl (450 * c_ + 3 * g_)), some (.inl (S_.2.2.1 234 0 vx8_.toNat)), some (.inr (.inl lv_)), none, none, none, none, none], [.inl 1, .inl (3 * g_), .inl pin_], S_)) rfl ?_
            refine sm_T_bin (w := 3 * g_ + 1) rfl (bi_add (by omega) (by omega) (by omega)) ?_ -- pc_ 140
            refine sm_T_br (a := 1) (z := 8) rfl (fun cx131_ => ?_) (fun cx131_ => ?_)
            · have cx131_ : pin_ ≠ 3 * g_ + 1 := of_decide_eq_true cx131_
              refine sm_T_go 6 (c1 := (160, [some (.inr (.inr (some (13, 0)))), some (.inl c_), some (.inl w_), some (.inl stuck), some (.inl pin_), some (.inr (.inl lv_)), none, some (.inl fi_), some (.inl g_), some (.inl (450 * c_ + 3 * g_)), some (.inl (S_.2.2.1 234 0 vx8_.toNat)), some (.inr (.inl lv_)), none, none, none, none, none], [.inl 1, .inl (450 * c_ + 3 * g_), .inr (.inr (some (230, 0))), .inr (.inr (some (238, 0)))], S_)) rfl ?_
              refine sm_T_bin (w := 450 * c_ + 3 * g_ + 1) rfl (bi_add (by omega) (by omega) (by omega)) ?_ -- pc_ 160
              refine sm_T_iald (n := 1800) rfl rfl (by omega) (by omega) ?_
              have bx132_ : (-1) ≤ S_.2.2.1 230 0 (450 * c_ + 3 * g_ + 1).toNat ∧ S_.2.2.1 230 0 (450 * c_ + 3 * g_ + 1).toNat ≤ 161 := hI_.2 230 0 _
              refine sm_T_lald (n := 256) rfl rfl (by omega) (by omega) ?_
              refine sm_T_go 3 (c1 := (168, [some (.inr (.inr (some (13, 0)))), some (.inl c_), some (.inl w_), some (.inl stuck), some (.inl pin_), some (.inr (.inl lv_)), none, some (.inl fi_), some (.inl g_), some (.inl (450 * c_ + 3 * g_)), some (.inl (S_.2.2.1 234 0 vx8_.toNat)), some (.inr (.inl lv_)), none, some (.inr (.inl (S_.2.2.2 238 0 (S_.2.2.1 230 0 (450 * c_ + 3 * g_ + 1).toNat).toNat))), none, none, none], [.inl 3, .inl (S_.2.2.1 234 0 vx8_.toNat)], S_)) rfl ?_
              refine sm_T_br (a := 3) (z := 7) rfl (fun cx133_ => ?_) (fun cx133_ => ?_)
              · have cx133_ : 3 ≤ (S_.2.2.1 234 0 vx8_.toNat) := of_decide_eq_true cx133_
                have G2_ := hg9_ g_ (by omega) (by omega) 2 (by decide) (by decide) (Or.inr (by rw [← e89_.2]; omega))
                rw [f223_, f224_] at G2_
                refine sm_T_go 3 (c1 := (180, [some (.inr (.inr (some (13, 0)))), some (.inl c_), some (.inl w_), some (.inl stuck), some (.inl pin_), some (.inr (.inl lv_)), none, some (.inl fi_), some (.inl g_), some (.inl (450 * c_ + 3 * g_)), some (.inl (S_.2.2.1 234 0 vx8_.toNat)), some (.inr (.inl lv_)), none, some (.inr (.inl (S_.2.2.2 238 0 (S_.2.2.1 230 0 (450 * c_ + 3 * g_ + 1).toNat).toNat))), none, none, none], [.inl g_, .inl 3, .inl pin_], S_)) rfl ?_
                refine sm_T_bin (w := 3 * g_) rfl (bi_mul (by omega) (by omega) (by omega)) ?_ -- pc_ 180
                refine sm_T_go 1 (c1 := (182, [some (.inr (.inr (some (13, 0)))), some (.inl c_), some (.inl w_), some (.inl stuck), some (.inl pin_), some (.inr (.inl lv_)), none, some (.inl fi_), some (.inl g_), some (.inl (450 * c_ + 3 * g_)), some (.inl (S_.2.2.1 234 0 vx8_.toNat)), some (.inr (.inl lv_)), none, some (.inr (.inl (S_.2.2.2 238 0 (S_.2.2.1 230 0 (450 * c_ + 3 * g_ + 1).toNat).toNat))), none, none, none], [.inl 2, .inl (3 * g_), .inl pin_], S_)) rfl ?_
                refine sm_T_bin (w := 3 * g_ + 2) rfl (bi_add (by omega) (by omega) (by omega)) ?_ -- pc_ 182
                refine sm_T_br (a := 1) (z := 8) rfl (fun cx134_ => ?_) (fun cx134_ => ?_)
                · have cx134_ : pin_ ≠ 3 * g_ + 2 := of_decide_eq_true cx134_
                  refine sm_T_go 6 (c1 := (202, [some (.inr (.inr (some (13, 0)))), some (.inl c_), some (.inl w_), some (.inl stuck), some (.inl pin_), some (.inr (.inl lv_)), none, some (.inl fi_), some (.inl g_), some (.inl (450 * c_ + 3 * g_)), some (.inl (S_.2.2.1 234 0 vx8_.toNat)), some (.inr (.inl lv_)), none, some (.inr (.inl (S_.2.2.2 238 0 (S_.2.2.1 230 0 (450 * c_ + 3 * g_ + 1).toNat).toNat))), none, none, none], [.inl 2, .inl (450 * c_ + 3 * g_), .inr (.inr (some (230, 0))), .inr (.inr (some (238, 0)))], S_)) rfl ?_
                  refine sm_T_bin (w := 450 * c_ + 3 * g_ + 2) rfl (bi_add (by omega) (by omega) (by omega)) ?_ -- pc_ 202
                  refine sm_T_iald (n := 1800) rfl rfl (by omega) (by omega) ?_
                  have bx135_ : (-1) ≤ S_.2.2.1 230 0 (450 * c_ + 3 * g_ + 2).toNat ∧ S_.2.2.1 230 0 (450 * c_ + 3 * g_ + 2).toNat ≤ 161 := hI_.2 230 0 _
                  refine sm_T_lald (n := 256) rfl rfl (by omega) (by omega) ?_
                  refine sm_T_go 5 (c1 := (215, [some (.inr (.inr (some (13, 0)))), some (.inl c_), some (.inl w_), some (.inl stuck), some (.inl pin_), some (.inr (.inl lv_)), none, some (.inl fi_), some (.inl g_), some (.inl (450 * c_ + 3 * g_)), some (.inl (S_.2.2.1 234 0 vx8_.toNat)), some (.inr (.inl lv_)), none, some (.inr (.inl (S_.2.2.2 238 0 (S_.2.2.1 230 0 (450 * c_ + 3 * g_ + 1).toNat).toNat))), none, some (.inr (.inl (S_.2.2.2 238 0 (S_.2.2.1 230 0 (450 * c_ + 3 * g_ + 2).toNat).toNat))), none], [.inl g_, .inl fi_, .inr (.inr (some (238, 0)))], S_)) rfl ?_
                  refine sm_T_bin (w := fi_ + g_) rfl (bi_add (by omega) (by omega) (by omega)) ?_ -- pc_ 215
                  refine sm_T_go 2 (c1 := (220, [some (.inr (.inr (some (13, 0)))), some (.inl c_), some (.inl w_), some (.inl stuck), some (.inl pin_), some (.inr (.inl lv_)), none, some (.inl fi_), some (.inl g_), some (.inl (450 * c_ + 3 * g_)), some (.inl (S_.2.2.1 234 0 vx8_.toNat)), some (.inr (.inl lv_)), none, some (.inr (.inl (S_.2.2.2 238 0 (S_.2.2.1 230 0 (450 * c_ + 3 * g_ + 1).toNat).toNat))), none, some (.inr (.inl (S_.2.2.2 238 0 (S_.2.2.1 230 0 (450 * c_ + 3 * g_ + 2).toNat).toNat))), none], [.inl g_, .inl fi_, .inl (fi_ + g_), .inr (.inr (some (238, 0)))], S_)) rfl ?_
                  refine sm_T_bin (w := fi_ + g_) rfl (bi_add (by omega) (by omega) (by omega)) ?_ -- pc_ 220
                  refine sm_T_go 1 (c1 := (222, [some (.inr (.inr (some (13, 0)))), some (.inl c_), some (.inl w_), some (.inl stuck), some (.inl pin_), some (.inr (.inl lv_)), none, some (.inl fi_), some (.inl g_), some (.inl (450 * c_ + 3 * g_)), some (.inl (S_.2.2.1 234 0 vx8_.toNat)), some (.inr (.inl lv_)), none, some (.inr (.inl (S_.2.2.2 238 0 (S_.2.2.1 230 0 (450 * c_ + 3 * g_ + 1).toNat).toNat))), none, some (.inr (.inl (S_.2.2.2 238 0 (S_.2.2.1 230 0 (450 * c_ + 3 * g_ + 2).toNat).toNat))), none], [.inl stuck, .inl (fi_ + g_), .inl (fi_ + g_), .inr (.inr (some (238, 0)))], S_)) rfl ?_
                  refine sm_T_br (a := 1) (z := 8) rfl (fun cx136_ => ?_) (fun cx136_ => ?_)
                  · have cx136_ : fi_ + g_ ≠ stuck := of_decide_eq_true cx136_
                    refine sm_T_go 5 (c1 := (238, [some (.inr (.inr (some (13, 0)))), some (.inl c_), some (.inl w_), some (.inl stuck), some (.inl pin_), some (.inr (.inl lv_)), none, some (.inl fi_), some (.inl g_), some (.inl (450 * c_ + 3 * g_)), some (.inl (S_.2.2.1 234 0 vx8_.toNat)), some (.inr (.inl lv_)), none, some (.inr (.inl (S_.2.2.2 238 0 (S_.2.2.1 230 0 (450 * c_ + 3 * g_ + 1).toNat).toNat))), none, some (.inr (.inl (S_.2.2.2 238 0 (S_.2.2.1 230 0 (450 * c_ + 3 * g_ + 2).toNat).toNat))), none], [.inl g_, .inl c_, .inr (.inr (some (13, 0))), .inr (.inr (some (235, 0))), .inl (fi_ + g_), .inr (.inr (some (238, 0)))], S_)) rfl ?_
                    refine sm_T_cal (d1 := 0) (Q1 := vq_421 c_ g_ S_) rfl rfl (by decide) (vc_421 c_ g_ S_ hI_ (by omega) (by omega)) (fun u_ Sx137_ px140_ => ?_)
                    obtain ⟨rfl, vx142_, rfl, px140_⟩ := px140_
                    refine sm_T_iald (n := 48) rfl rfl (by omega) (by omega) ?_
                    have bx143_ : 0 ≤ S_.2.2.1 235 0 vx142_.toNat ∧ S_.2.2.1 235 0 vx142_.toNat ≤ 255 := hI_.2 235 0 _
                    refine sm_T_go 4 (c1 := (250, [some (.inr (.inr (some (13, 0)))), some (.inl c_), some (.inl w_), some (.inl stuck), some (.inl pin_), some (.inr (.inl lv_)), none, some (.inl fi_), some (.inl g_), some (.inl (450 * c_ + 3 * g_)), some (.inl (S_.2.2.1 234 0 vx8_.toNat)), some (.inr (.inl lv_)), none, some (.inr (.inl (S_.2.2.2 238 0 (S_.2.2.1 230 0 (450 * c_ + 3 * g_ + 1).toNat).toNat))), none, some (.inr (.inl (S_.2.2.2 238 0 (S_.2.2.1 230 0 (450 * c_ + 3 * g_ + 2).toNat).toNat))), none], [.inr (.inl (S_.2.2.2 238 0 (S_.2.2.1 230 0 (450 * c_ + 3 * g_ + 2).toNat).toNat)), .inr (.inl (S_.2.2.2 238 0 (S_.2.2.1 230 0 (450 * c_ + 3 * g_ + 1).toNat).toNat)), .inr (.inl lv_), .inl (S_.2.2.1 234 0 vx8_.toNat), .inl (S_.2.2.1 235 0 vx142_.toNat), .inl (fi_ + g_), .inr (.inr (some (238, 0)))], S_)) rfl ?_
                    refine sm_T_cal (d1 := 0) (Q1 := vq_429 (S_.2.2.1 235 0 vx142_.toNat) (S_.2.2.1 234 0 vx8_.toNat) lv_ ((S_.2.2.2 238 0 (S_.2.2.1 230 0 (450 * c_ + 3 * g_ + 1).toNat).toNat)) ((S_.2.2.2 238 0 (S_.2.2.1 230 0 (450 * c_ + 3 * g_ + 2).toNat).toNat)) S_) rfl rfl (by decide) (vc_429 (S_.2.2.1 235 0 vx142_.toNat) (S_.2.2.1 234 0 vx8_.toNat) lv_ ((S_.2.2.2 238 0 (S_.2.2.1 230 0 (450 * c_ + 3 * g_ + 1).toNat).toNat)) ((S_.2.2.2 238 0 (S_.2.2.1 230 0 (450 * c_ + 3 * g_ + 2).toNat).toNat)) S_ hI_ (by omega) (by omega)) (fun u_ Sx144_ px147_ => ?_)
                    obtain ⟨vx149_, rfl, hIx145_, hFx146_, px147_⟩ := px147_
                    have hFx148_ : ai_fr (sx_W vw_430) S0_ Sx144_ := ai_fr_tr hF_ (fr_le hFx146_ rfl)
                    refine sm_T_last (n := 256) rfl rfl (by omega) (by omega) ?_
                    have hIx150_ : gi (sm_aL Sx144_ 238 0 (fi_ + g_).toNat vx149_) := gi_aL hIx145_
                    have hFx151_ : ai_fr (sx_W vw_430) S0_ (sm_aL Sx144_ 238 0 (fi_ + g_).toNat vx149_) := ai_fr_tr hFx148_ (ai_fr_aL rfl)
                    refine sm_T_inc (a := 8) (z := 1) (v := g_) (w := g_ + 1) rfl rfl (by omega) (by omega) (by omega) ?_ -- pc_ 254
                    refine sm_T_go 1 (c1 := (58, [some (.inr (.inr (some (13, 0)))), some (.inl c_), some (.inl w_), some (.inl stuck), some (.inl pin_), some (.inr (.inl lv_)), none, some (.inl fi_), some (.inl (g_ + 1)), some (.inl (450 * c_ + 3 * g_)), some (.inl (S_.2.2.1 234 0 vx8_.toNat)), some (.inr (.inl lv_)), none, some (.inr (.inl (S_.2.2.2 238 0 (S_.2.2.1 230 0 (450 * c_ + 3 * g_ + 1).toNat).toNat))), none, some (.inr (.inl (S_.2.2.2 238 0 (S_.2.2.1 230 0 (450 * c_ + 3 * g_ + 2).toNat).toNat))), none], [], sm_aL Sx144_ 238 0 (fi_ + g_).toNat vx149_)) rfl ?_
                    refine sm_T_wk [some (.inr (.inr (some (13, 0)))), some (.inl c_), some (.inl w_), some (.inl stuck), some (.inl pin_), some (.inr (.inl lv_)), none, some (.inl fi_), some (.inl (g_ + 1)), none, none, none, none, none, none, none, none] (by exact ⟨rfl, rfl, rfl, rfl, rfl, rfl, rfl, rfl, trivial⟩) ?_
                    refine ih_.2 lv_ fi_ (g_ + 1) (sm_aL Sx144_ 238 0 (fi_ + g_).toNat vx149_) hIx150_ hFx151_ ⟨?_, trivial⟩ ?_
                    · omega
                    · omega
                  · have cx136_ : ¬ (fi_ + g_ ≠ stuck) := of_decide_eq_false cx136_
                    refine sm_T_go 2 (c1 := (253, [some (.inr (.inr (some (13, 0)))), some (.inl c_), some (.inl w_), some (.inl stuck), some (.inl pin_), some (.inr (.inl lv_)), none, some (.inl fi_), some (.inl g_), some (.inl (450 * c_ + 3 * g_)), some (.inl (S_.2.2.1 234 0 vx8_.toNat)), some (.inr (.inl lv_)), none, some (.inr (.inl (S_.2.2.2 238 0 (S_.2.2.1 230 0 (450 * c_ + 3 * g_ + 1).toNat).toNat))), none, some (.inr (.inl (S_.2.2.2 238 0 (S_.2.2.1 230 0 (450 * c_ + 3 * g_ + 2).toNat).toNat))), none], [.inr (.inl lv_), .inl (fi_ + g_), .inr (.inr (some (238, 0)))], S_)) rfl ?_
                    refine sm_T_last (n := 256) rfl rfl (by omega) (by omega) ?_
                    have hIx152_ : gi (sm_aL S_ 238 0 (fi_ + g_).toNat lv_) := gi_aL hI_
                    have hFx153_ : ai_fr (sx_W vw_430) S0_ (sm_aL S_ 238 0 (fi_ + g_).toNat lv_) := ai_fr_tr hF_ (ai_fr_aL rfl)
                    refine sm_T_inc (a := 8) (z := 1) (v := g_) (w := g_ + 1) rfl rfl (by omega) (by omega) (by omega) ?_ -- pc_ 254
                    refine sm_T_go 1 (c1 := (58, [some (.inr (.inr (some (13, 0)))), some (.inl c_), some (.inl w_), some (.inl stuck), some (.inl pin_), some (.inr (.inl lv_)), none, some (.inl fi_), some (.inl (g_ + 1)), some (.inl (450 * c_ + 3 * g_)), some (.inl (S_.2.2.1 234 0 vx8_.toNat)), some (.inr (.inl lv_)), none, some (.inr (.inl (S_.2.2.2 238 0 (S_.2.2.1 230 0 (450 * c_ + 3 * g_ + 1).toNat).toNat))), none, some (.inr (.inl (S_.2.2.2 238 0 (S_.2.2.1 230 0 (450 * c_ + 3 * g_ + 2).toNat).toNat))), none], [], sm_aL S_ 238 0 (fi_ + g_).toNat lv_)) rfl ?_
                    refine sm_T_wk [some (.inr (.inr (some (13, 0)))), some (.inl c_), some (.inl w_), some (.inl stuck), some (.inl pin_), some (.inr (.inl lv_)), none, some (.inl fi_), some (.inl (g_ + 1)), none, none, none, none, none, none, none, none] (by exact ⟨rfl, rfl, rfl, rfl, rfl, rfl, rfl, rfl, trivial⟩) ?_
                    refine ih_.2 lv_ fi_ (g_ + 1) (sm_aL S_ 238 0 (fi_ + g_).toNat lv_) hIx152_ hFx153_ ⟨?_, trivial⟩ ?_
                    · omega
                    · omega
                · have cx134_ : ¬ (pin_ ≠ 3 * g_ + 2) := of_decide_eq_false cx134_
                  exfalso; omega
              · have cx133_ : ¬ (3 ≤ (S_.2.2.1 234 0 vx8_.toNat)) := of_decide_eq_false cx133_
                refine sm_T_go 7 (c1 := (215, [some (.inr (.inr (some (13, 0)))), some (.inl c_), some (.inl w_), some (.inl stuck), some (.inl pin_), some (.inr (.inl lv_)), none, some (.inl fi_), some (.inl g_), some (.inl (450 * c_ + 3 * g_)), some (.inl (S_.2.2.1 234 0 vx8_.toNat)), some (.inr (.inl lv_)), none, some (.inr (.inl (S_.2.2.2 238 0 (S_.2.2.1 230 0 (450 * c_ + 3 * g_ + 1).toNat).toNat))), none, some (.inr (.inl 0)), none], [.inl g_, .inl fi_, .inr (.inr (some (238, 0)))], S_)) rfl ?_
                refine sm_T_bin (w := fi_ + g_) rfl (bi_add (by omega) (by omega) (by omega)) ?_ -- pc_ 215
                refine sm_T_go 2 (c1 := (220, [some (.inr (.inr (some (13, 0)))), some (.inl c_), some (.inl w_), some (.inl stuck), some (.inl pin_), some (.inr (.inl lv_)), none, some (.inl fi_), some (.inl g_), some (.inl (450 * c_ + 3 * g_)), some (.inl (S_.2.2.1 234 0 vx8_.toNat)), some (.inr (.inl lv_)), none, some (.inr (.inl (S_.2.2.2 238 0 (S_.2.2.1 230 0 (450 * c_ + 3 * g_ + 1).toNat).toNat))), none, some (.inr (.inl 0)), none], [.inl g_, .inl fi_, .inl (fi_ + g_), .inr (.inr (some (238, 0)))], S_)) rfl ?_
                refine sm_T_bin (w := fi_ + g_) rfl (bi_add (by omega) (by omega) (by omega)) ?_ -- pc_ 220
                refine sm_T_go 1 (c1 := (222, [some (.inr (.inr (some (13, 0)))), some (.inl c_), some (.inl w_), some (.inl stuck), some (.inl pin_), some (.inr (.inl lv_)), none, some (.inl fi_), some (.inl g_), some (.inl (450 * c_ + 3 * g_)), some (.inl (S_.2.2.1 234 0 vx8_.toNat)), some (.inr (.inl lv_)), none, some (.inr (.inl (S_.2.2.2 238 0 (S_.2.2.1 230 0 (450 * c_ + 3 * g_ + 1).toNat).toNat))), none, some (.inr (.inl 0)), none], [.inl stuck, .inl (fi_ + g_), .inl (fi_ + g_), .inr (.inr (some (238, 0)))], S_)) rfl ?_
                refine sm_T_br (a := 1) (z := 8) rfl (fun cx154_ => ?_) (fun cx154_ => ?_)
                · have cx154_ : fi_ + g_ ≠ stuck := of_decide_eq_true cx154_
                  refine sm_T_go 5 (c1 := (238, [some (.inr (.inr (some (13, 0)))), some (.inl c_), some (.inl w_), some (.inl stuck), some (.inl pin_), some (.inr (.inl lv_)), none, some (.inl fi_), some (.inl g_), some (.inl (450 * c_ + 3 * g_)), some (.inl (S_.2.2.1 234 0 vx8_.toNat)), some (.inr (.inl lv_)), none, some (.inr (.inl (S_.2.2.2 238 0 (S_.2.2.1 230 0 (450 * c_ + 3 * g_ + 1).toNat).toNat))), none, some (.inr (.inl 0)), none], [.inl g_, .inl c_, .inr (.inr (some (13, 0))), .inr (.inr (some (235, 0))), .inl (fi_ + g_), .inr (.inr (some (238, 0)))], S_)) rfl ?_
                  refine sm_T_cal (d1 := 0) (Q1 := vq_421 c_ g_ S_) rfl rfl (by decide) (vc_421 c_ g_ S_ hI_ (by omega) (by omega)) (fun u_ Sx155_ px158_ => ?_)
                  obtain ⟨rfl, vx160_, rfl, px158_⟩ := px158_
                  refine sm_T_iald (n := 48) rfl rfl (by omega) (by omega) ?_
                  have bx161_ : 0 ≤ S_.2.2.1 235 0 vx160_.toNat ∧ S_.2.2.1 235 0 vx160_.toNat ≤ 255 := hI_.2 235 0 _
                  refine sm_T_go 4 (c1 := (250, [some (.inr (.inr (some (13, 0)))), some (.inl c_), some (.inl w_), some (.inl stuck), some (.inl pin_), some (.inr (.inl lv_)), none, some (.inl fi_), some (.inl g_), some (.inl (450 * c_ + 3 * g_)), some (.inl (S_.2.2.1 234 0 vx8_.toNat)), some (.inr (.inl lv_)), none, some (.inr (.inl (S_.2.2.2 238 0 (S_.2.2.1 230 0 (450 * c_ + 3 * g_ + 1).toNat).toNat))), none, some (.inr (.inl 0)), none], [.inr (.inl 0), .inr (.inl (S_.2.2.2 238 0 (S_.2.2.1 230 0 (450 * c_ + 3 * g_ + 1).toNat).toNat)), .inr (.inl lv_), .inl (S_.2.2.1 234 0 vx8_.toNat), .inl (S_.2.2.1 235 0 vx160_.toNat), .inl (fi_ + g_), .inr (.inr (some (238, 0)))], S_)) rfl ?_
                  refine sm_T_cal (d1 := 0) (Q1 := vq_429 (S_.2.2.1 235 0 vx160_.toNat) (S_.2.2.1 234 0 vx8_.toNat) lv_ ((S_.2.2.2 238 0 (S_.2.2.1 230 0 (450 * c_ + 3 * g_ + 1).toNat).toNat)) 0 S_) rfl rfl (by decide) (vc_429 (S_.2.2.1 235 0 vx160_.toNat) (S_.2.2.1 234 0 vx8_.toNat) lv_ ((S_.2.2.2 238 0 (S_.2.2.1 230 0 (450 * c_ + 3 * g_ + 1).toNat).toNat)) 0 S_ hI_ (by omega) (by omega)) (fun u_ Sx162_ px165_ => ?_)
                  obtain ⟨vx167_, rfl, hIx163_, hFx164_, px165_⟩ := px165_
                  have hFx166_ : ai_fr (sx_W vw_430) S0_ Sx162_ := ai_fr_tr hF_ (fr_le hFx164_ rfl)
                  refine sm_T_last (n := 256) rfl rfl (by omega) (by omega) ?_
                  have hIx168_ : gi (sm_aL Sx162_ 238 0 (fi_ + g_).toNat vx167_) := gi_aL hIx163_
                  have hFx169_ : ai_fr (sx_W vw_430) S0_ (sm_aL Sx162_ 238 0 (fi_ + g_).toNat vx167_) := ai_fr_tr hFx166_ (ai_fr_aL rfl)
                  refine sm_T_inc (a := 8) (z := 1) (v := g_) (w := g_ + 1) rfl rfl (by omega) (by omega) (by omega) ?_ -- pc_ 254
                  refine sm_T_go 1 (c1 := (58, [some (.inr (.inr (some (13, 0)))), some (.inl c_), some (.inl w_), some (.inl stuck), some (.inl pin_), some (.inr (.inl lv_)), none, some (.inl fi_), some (.inl (g_ + 1)), some (.inl (450 * c_ + 3 * g_)), some (.inl (S_.2.2.1 234 0 vx8_.toNat)), some (.inr (.inl lv_)), none, some (.inr (.inl (S_.2.2.2 238 0 (S_.2.2.1 230 0 (450 * c_ + 3 * g_ + 1).toNat).toNat))), none, some (.inr (.inl 0)), none], [], sm_aL Sx162_ 238 0 (fi_ + g_).toNat vx167_)) rfl ?_
                  refine sm_T_wk [some (.inr (.inr (some (13, 0)))), some (.inl c_), some (.inl w_), some (.inl stuck), some (.inl pin_), some (.inr (.inl lv_)), none, some (.inl fi_), some (.inl (g_ + 1)), none, none, none, none, none, none, none, none] (by exact ⟨rfl, rfl, rfl, rfl, rfl, rfl, rfl, rfl, trivial⟩) ?_
                  refine ih_.2 lv_ fi_ (g_ + 1) (sm_aL Sx162_ 238 0 (fi_ + g_).toNat vx167_) hIx168_ hFx169_ ⟨?_, trivial⟩ ?_
                  · omega
                  · omega
                · have cx154_ : ¬ (fi_ + g_ ≠ stuck) := of_decide_eq_false cx154_
                  refine sm_T_go 2 (c1 := (253, [some (.inr (.inr (some (13, 0)))), some (.inl c_), some (.inl w_), some (.inl stuck), some (.inl pin_), some (.inr (.inl lv_)), none, some (.inl fi_), some (.inl g_), some (.inl (450 * c_ + 3 * g_)), some (.inl (S_.2.2.1 234 0 vx8_.toNat)), some (.inr (.inl lv_)), none, some (.inr (.inl (S_.2.2.2 238 0 (S_.2.2.1 230 0 (450 * c_ + 3 * g_ + 1).toNat).toNat))), none, some (.inr (.inl 0)), none], [.inr (.inl lv_), .inl (fi_ + g_), .inr (.inr (some (238, 0)))], S_)) rfl ?_
                  refine sm_T_last (n := 256) rfl rfl (by omega) (by omega) ?_
                  have hIx170_ : gi (sm_aL S_ 238 0 (fi_ + g_).toNat lv_) := gi_aL hI_
                  have hFx171_ : ai_fr (sx_W vw_430) S0_ (sm_aL S_ 238 0 (fi_ + g_).toNat lv_) := ai_fr_tr hF_ (ai_fr_aL rfl)
                  refine sm_T_inc (a := 8) (z := 1) (v := g_) (w := g_ + 1) rfl rfl (by omega) (by omega) (by omega) ?_ -- pc_ 254
                  refine sm_T_go 1 (c1 := (58, [some (.inr (.inr (some (13, 0)))), some (.inl c_), some (.inl w_), some (.inl stuck), some (.inl pin_), some (.inr (.inl lv_)), none, some (.inl fi_), some (.inl (g_ + 1)), some (.inl (450 * c_ + 3 * g_)), some (.inl (S_.2.2.1 234 0 vx8_.toNat)), some (.inr (.inl lv_)), none, some (.inr (.inl (S_.2.2.2 238 0 (S_.2.2.1 230 0 (450 * c_ + 3 * g_ + 1).toNat).toNat))), none, some (.inr (.inl 0)), none], [], sm_aL S_ 238 0 (fi_ + g_).toNat lv_)) rfl ?_
                  refine sm_T_wk [some (.inr (.inr (some (13, 0)))), some (.inl c_), some (.inl w_), some (.inl stuck), some (.inl pin_), some (.inr (.inl lv_)), none, some (.inl fi_), some (.inl (g_ + 1)), none, none, none, none, none, none, none, none] (by exact ⟨rfl, rfl, rfl, rfl, rfl, rfl, rfl, rfl, trivial⟩) ?_
                  refine ih_.2 lv_ fi_ (g_ + 1) (sm_aL S_ 238 0 (fi_ + g_).toNat lv_) hIx170_ hFx171_ ⟨?_, trivial⟩ ?_
                  · omega
                  · omega
            · have cx131_ : ¬ (pin_ ≠ 3 * g_ + 1) := of_decide_eq_false cx131_
              exfalso; omega
          · have cx130_ : ¬ (2 ≤ (S_.2.2.1 234 0 vx8_.toNat)) := of_decide_eq_false cx130_
            refine sm_T_go 5 (c1 := (168, [some (.inr (.inr (some (13, 0)))), some (.inl c_), some (.inl w_), some (.inl stuck), some (.inl pin_), some (.inr (.inl lv_)), none, some (.inl fi_), some (.inl g_), some (.inl (450 * c_ + 3 * g_)), some (.inl (S_.2.2.1 234 0 vx8_.toNat)), some (.inr (.inl lv_)), none, some (.inr (.inl 0)), none, none, none], [.inl 3, .inl (S_.2.2.1 234 0 vx8_.toNat)], S_)) rfl ?_
            refine sm_T_br (a := 3) (z := 7) rfl (fun cx172_ => ?_) (fun cx172_ => ?_)
            · have cx172_ : 3 ≤ (S_.2.2.1 234 0 vx8_.toNat) := of_decide_eq_true cx172_
              exfalso; omega
            · have cx172_ : ¬ (3 ≤ (S_.2.2.1 234 0 vx8_.toNat)) := of_decide_eq_false cx172_
              refine sm_T_go 7 (c1 := (215, [some (.inr (.inr (some (13, 0)))), some (.inl c_), some (.inl w_), some (.inl stuck), some (.inl pin_), some (.inr (.inl lv_)), none, some (.inl fi_), some (.inl g_), some (.inl (450 * c_ + 3 * g_)), some (.inl (S_.2.2.1 234 0 vx8_.toNat)), some (.inr (.inl lv_)), none, some (.inr (.inl 0)), none, some (.inr (.inl 0)), none], [.inl g_, .inl fi_, .inr (.inr (some (238, 0)))], S_)) rfl ?_
              refine sm_T_bin (w := fi_ + g_) rfl (bi_add (by omega) (by omega) (by omega)) ?_ -- pc_ 215
              refine sm_T_go 2 (c1 := (220, [some (.inr (.inr (some (13, 0)))), some (.inl c_), some (.inl w_), some (.inl stuck), some (.inl pin_), some (.inr (.inl lv_)), none, some (.inl fi_), some (.inl g_), some (.inl (450 * c_ + 3 * g_)), some (.inl (S_.2.2.1 234 0 vx8_.toNat)), some (.inr (.inl lv_)), none, some (.inr (.inl 0)), none, some (.inr (.inl 0)), none], [.inl g_, .inl fi_, .inl (fi_ + g_), .inr (.inr (some (238, 0)))], S_)) rfl ?_
              refine sm_T_bin (w := fi_ + g_) rfl (bi_add (by omega) (by omega) (by omega)) ?_ -- pc_ 220
              refine sm_T_go 1 (c1 := (222, [some (.inr (.inr (some (13, 0)))), some (.inl c_), some (.inl w_), some (.inl stuck), some (.inl pin_), some (.inr (.inl lv_)), none, some (.inl fi_), some (.inl g_), some (.inl (450 * c_ + 3 * g_)), some (.inl (S_.2.2.1 234 0 vx8_.toNat)), some (.inr (.inl lv_)), none, some (.inr (.inl 0)), none, some (.inr (.inl 0)), none], [.inl stuck, .inl (fi_ + g_), .inl (fi_ + g_), .inr (.inr (some (238, 0)))], S_)) rfl ?_
              refine sm_T_br (a := 1) (z := 8) rfl (fun cx173_ => ?_) (fun cx173_ => ?_)
              · have cx173_ : fi_ + g_ ≠ stuck := of_decide_eq_true cx173_
                refine sm_T_go 5 (c1 := (238, [some (.inr (.inr (some (13, 0)))), some (.inl c_), some (.inl w_), some (.inl stuck), some (.inl pin_), some (.inr (.inl lv_)), none, some (.inl fi_), some (.inl g_), some (.inl (450 * c_ + 3 * g_)), some (.inl (S_.2.2.1 234 0 vx8_.toNat)), some (.inr (.inl lv_)), none, some (.inr (.inl 0)), none, some (.inr (.inl 0)), none], [.inl g_, .inl c_, .inr (.inr (some (13, 0))), .inr (.inr (some (235, 0))), .inl (fi_ + g_), .inr (.inr (some (238, 0)))], S_)) rfl ?_
                refine sm_T_cal (d1 := 0) (Q1 := vq_421 c_ g_ S_) rfl rfl (by decide) (vc_421 c_ g_ S_ hI_ (by omega) (by omega)) (fun u_ Sx174_ px177_ => ?_)
                obtain ⟨rfl, vx179_, rfl, px177_⟩ := px177_
                refine sm_T_iald (n := 48) rfl rfl (by omega) (by omega) ?_
                have bx180_ : 0 ≤ S_.2.2.1 235 0 vx179_.toNat ∧ S_.2.2.1 235 0 vx179_.toNat ≤ 255 := hI_.2 235 0 _
                refine sm_T_go 4 (c1 := (250, [some (.inr (.inr (some (13, 0)))), some (.inl c_), some (.inl w_), some (.inl stuck), some (.inl pin_), some (.inr (.inl lv_)), none, some (.inl fi_), some (.inl g_), some (.inl (450 * c_ + 3 * g_)), some (.inl (S_.2.2.1 234 0 vx8_.toNat)), some (.inr (.inl lv_)), none, some (.inr (.inl 0)), none, some (.inr (.inl 0)), none], [.inr (.inl 0), .inr (.inl 0), .inr (.inl lv_), .inl (S_.2.2.1 234 0 vx8_.toNat), .inl (S_.2.2.1 235 0 vx179_.toNat), .inl (fi_ + g_), .inr (.inr (some (238, 0)))], S_)) rfl ?_
                refine sm_T_cal (d1 := 0) (Q1 := vq_429 (S_.2.2.1 235 0 vx179_.toNat) (S_.2.2.1 234 0 vx8_.toNat) lv_ 0 0 S_) rfl rfl (by decide) (vc_429 (S_.2.2.1 235 0 vx179_.toNat) (S_.2.2.1 234 0 vx8_.toNat) lv_ 0 0 S_ hI_ (by omega) (by omega)) (fun u_ Sx181_ px184_ => ?_)
                obtain ⟨vx186_, rfl, hIx182_, hFx183_, px184_⟩ := px184_
                have hFx185_ : ai_fr (sx_W vw_430) S0_ Sx181_ := ai_fr_tr hF_ (fr_le hFx183_ rfl)
                refine sm_T_last (n := 256) rfl rfl (by omega) (by omega) ?_
                have hIx187_ : gi (sm_aL Sx181_ 238 0 (fi_ + g_).toNat vx186_) := gi_aL hIx182_
                have hFx188_ : ai_fr (sx_W vw_430) S0_ (sm_aL Sx181_ 238 0 (fi_ + g_).toNat vx186_) := ai_fr_tr hFx185_ (ai_fr_aL rfl)
                refine sm_T_inc (a := 8) (z := 1) (v := g_) (w := g_ + 1) rfl rfl (by omega) (by omega) (by omega) ?_ -- pc_ 254
                refine sm_T_go 1 (c1 := (58, [some (.inr (.inr (some (13, 0)))), some (.inl c_), some (.inl w_), some (.inl stuck), some (.inl pin_), some (.inr (.inl lv_)), none, some (.inl fi_), some (.inl (g_ + 1)), some (.inl (450 * c_ + 3 * g_)), some (.inl (S_.2.2.1 234 0 vx8_.toNat)), some (.inr (.inl lv_)), none, some (.inr (.inl 0)), none, some (.inr (.inl 0)), none], [], sm_aL Sx181_ 238 0 (fi_ + g_).toNat vx186_)) rfl ?_
                refine sm_T_wk [some (.inr (.inr (some (13, 0)))), some (.inl c_), some (.inl w_), some (.inl stuck), some (.inl pin_), some (.inr (.inl lv_)), none, some (.inl fi_), some (.inl (g_ + 1)), none, none, none, none, none, none, none, none] (by exact ⟨rfl, rfl, rfl, rfl, rfl, rfl, rfl, rfl, trivial⟩) ?_
                refine ih_.2 lv_ fi_ (g_ + 1) (sm_aL Sx181_ 238 0 (fi_ + g_).toNat vx186_) hIx187_ hFx188_ ⟨?_, trivial⟩ ?_
                · omega
                · omega
              · have cx173_ : ¬ (fi_ + g_ ≠ stuck) := of_decide_eq_false cx173_
                refine sm_T_go 2 (c1 := (253, [some (.inr (.inr (some (13, 0)))), some (.inl c_), some (.inl w_), some (.inl stuck), some (.inl pin_), some (.inr (.inl lv_)), none, some (.inl fi_), some (.inl g_), some (.inl (450 * c_ + 3 * g_)), some (.inl (S_.2.2.1 234 0 vx8_.toNat)), some (.inr (.inl lv_)), none, some (.inr (.inl 0)), none, some (.inr (.inl 0)), none], [.inr (.inl lv_), .inl (fi_ + g_), .inr (.inr (some (238, 0)))], S_)) rfl ?_
                refine sm_T_last (n := 256) rfl rfl (by omega) (by omega) ?_
                have hIx189_ : gi (sm_aL S_ 238 0 (fi_ + g_).toNat lv_) := gi_aL hI_
                have hFx190_ : ai_fr (sx_W vw_430) S0_ (sm_aL S_ 238 0 (fi_ + g_).toNat lv_) := ai_fr_tr hF_ (ai_fr_aL rfl)
                refine sm_T_inc (a := 8) (z := 1) (v := g_) (w := g_ + 1) rfl rfl (by omega) (by omega) (by omega) ?_ -- pc_ 254
                refine sm_T_go 1 (c1 := (58, [some (.inr (.inr (some (13, 0)))), some (.inl c_), some (.inl w_), some (.inl stuck), some (.inl pin_), some (.inr (.inl lv_)), none, some (.inl fi_), some (.inl (g_ + 1)), some (.inl (450 * c_ + 3 * g_)), some (.inl (S_.2.2.1 234 0 vx8_.toNat)), some (.inr (.inl lv_)), none, some (.inr (.inl 0)), none, some (.inr (.inl 0)), none], [], sm_aL S_ 238 0 (fi_ + g_).toNat lv_)) rfl ?_
                refine sm_T_wk [some (.inr (.inr (some (13, 0)))), some (.inl c_), some (.inl w_), some (.inl stuck), some (.inl pin_), some (.inr (.inl lv_)), none, some (.inl fi_), some (.inl (g_ + 1)), none, none, none, none, none, none, none, none] (by exact ⟨rfl, rfl, rfl, rfl, rfl, rfl, rfl, rfl, trivial⟩) ?_
                refine ih_.2 lv_ fi_ (g_ + 1) (sm_aL S_ 238 0 (fi_ + g_).toNat lv_) hIx189_ hFx190_ ⟨?_, trivial⟩ ?_
                · omega
                · omega
set_option maxHeartbeats 400000 in
set_option maxRecDepth 20000 in
theorem vc_430 {sc_ : Nat × (Nat → Int)} (c_ : Int) (w_ : Int) (stuck : Int) (pin_ : Int) (lv_ : Int) (S0_ : sm_S) (hI_ : gi S0_) (hc_ : 0 ≤ c_ ∧ c_ ≤ 3) (hw_ : 0 ≤ w_ ∧ w_ ≤ 63) (hx_ : S0_.2.2.1 223 0 c_.toNat + S0_.2.2.1 224 0 c_.toNat ≤ 12) (hg_ : cgt c_ S0_) : sm_T (mt_P sc_) 1 430 (0, [some (.inr (.inr (some (13, 0)))), some (.inl c_), some (.inl w_), some (.inl stuck), some (.inl pin_), some (.inr (.inl lv_)), none, none, none, none, none, none, none, none, none, none, none], [], S0_) (fun ro9_ => ∃ u_ S1_, ro9_ = (.inl u_, S1_, 0) ∧ vq_430 c_ w_ stuck pin_ lv_ S0_ u_ S1_) := by
  have hF_ : ai_fr (sx_W vw_430) S0_ S0_ := ai_fr_rf
  refine sm_T_go 3 (c1 := (5, [some (.inr (.inr (some (13, 0)))), some (.inl c_), some (.inl w_), some (.inl stuck), some (.inl pin_), some (.inr (.inl lv_)), none, none, none, none, none, none, none, none, none, none, none], [.inl c_, .inr (.inr (some (223, 0)))], S0_)) rfl ?_
  refine sm_T_iald (n := 4) rfl rfl (by omega) (by omega) ?_
  have bx1_ : 0 ≤ S0_.2.2.1 223 0 c_.toNat ∧ S0_.2.2.1 223 0 c_.toNat ≤ 12 := hI_.2 223 0 _
  refine sm_T_go 3 (c1 := (11, [some (.inr (.inr (some (13, 0)))), some (.inl c_), some (.inl w_), some (.inl stuck), some (.inl pin_), some (.inr (.inl lv_)), none, none, none, none, none, none, none, none, none, none, none], [.inl c_, .inr (.inr (some (224, 0))), .inl (S0_.2.2.1 223 0 c_.toNat)], S0_)) rfl ?_
  refine sm_T_iald (n := 4) rfl rfl (by omega) (by omega) ?_
  have bx2_ : 0 ≤ S0_.2.2.1 224 0 c_.toNat ∧ S0_.2.2.1 224 0 c_.toNat ≤ 6 := hI_.2 224 0 _
  refine sm_T_bin (w := (S0_.2.2.1 223 0 c_.toNat) + (S0_.2.2.1 224 0 c_.toNat)) rfl (bi_add (by omega) (by omega) (by omega)) ?_ -- pc_ 12
  refine sm_T_go 3 (c1 := (18, [some (.inr (.inr (some (13, 0)))), some (.inl c_), some (.inl w_), some (.inl stuck), some (.inl pin_), some (.inr (.inl lv_)), none, some (.inl ((S0_.2.2.1 223 0 c_.toNat) + (S0_.2.2.1 224 0 c_.toNat))), some (.inl 0), none, none, none, none, none, none, none, none], [], S0_)) rfl ?_
  refine (vl_430 c_ w_ stuck pin_ lv_ S0_ hc_ hw_ hx_ hg_ _).1 lv_ ((S0_.2.2.1 223 0 c_.toNat) + (S0_.2.2.1 224 0 c_.toNat)) 0 S0_ hI_ hF_ ⟨?_, trivial⟩ (Nat.lt_succ_self _)
  · omega
/-! M_.bitOfNet -/
def vw_431 : sx_Wl := ([], [], [])
def vq_431 (n_ : Int) (k_ : Int) (S0_ : sm_S) (u_ : Option sm_V) (S1_ : sm_S) : Prop := S0_ = S1_ ∧ ∃ v_ : Int, u_ = some (.inl v_) ∧ (v_ = 0 ∨ v_ = 1)
set_option maxHeartbeats 400000 in
set_option maxRecDepth 20000 in
theorem vc_431 {sc_ : Nat × (Nat → Int)} (n_ : Int) (k_ : Int) (S0_ : sm_S) (hI_ : gi S0_) (hn_ : -2 ≤ n_ ∧ n_ ≤ 255) : sm_T (mt_P sc_) 0 431 (0, [some (.inr (.inr (some (13, 0)))), some (.inl n_), some (.inl k_)], [], S0_) (fun ro9_ => ∃ u_ S1_, ro9_ = (.inl u_, S1_, 0) ∧ vq_431 n_ k_ S0_ u_ S1_) := by
  have hF_ : ai_fr (sx_W vw_431) S0_ S0_ := ai_fr_rf
  refine sm_T_go 2 (c1 := (2, [some (.inr (.inr (some (13, 0)))), some (.inl n_), some (.inl k_)], [.inl (-1), .inl n_], S0_)) rfl ?_
  refine sm_T_br (a := 1) (z := 7) rfl (fun cx1_ => ?_) (fun cx1_ => ?_)
  · have cx1_ : n_ ≠ (-1) := of_decide_eq_true cx1_
    refine sm_T_go 2 (c1 := (12, [some (.inr (.inr (some (13, 0)))), some (.inl n_), some (.inl k_)], [.inl (-2), .inl n_], S0_)) rfl ?_
    refine sm_T_br (a := 1) (z := 7) rfl (fun cx2_ => ?_) (fun cx2_ => ?_)
    · have cx2_ : n_ ≠ (-2) := of_decide_eq_true cx2_
      refine sm_T_go 3 (c1 := (24, [some (.inr (.inr (some (13, 0)))), some (.inl n_), some (.inl k_)], [.inl n_, .inr (.inr (some (238, 0)))], S0_)) rfl ?_
      refine sm_T_lald (n := 256) rfl rfl (by omega) (by omega) ?_
      have bx3_ := l_l2i_n ((l_3 ((l_s2 ((S0_.2.2.2 238 0 n_.toNat)) k_)) 1))
      refine sm_T_go 5 (c1 := (30, [some (.inr (.inr (some (13, 0)))), some (.inl n_), some (.inl k_)], [.inl (l_l2i ((l_3 ((l_s2 ((S0_.2.2.2 238 0 n_.toNat)) k_)) 1)))], S0_)) rfl ?_
      refine sm_T_ri rfl ⟨_, _, rfl, rfl, _, rfl, ?_⟩
      first | exact l_bit | omega
    · have cx2_ : ¬ (n_ ≠ (-2)) := of_decide_eq_false cx2_
      refine sm_T_go 2 (c1 := (30, [some (.inr (.inr (some (13, 0)))), some (.inl n_), some (.inl k_)], [.inl 1], S0_)) rfl ?_
      refine sm_T_ri rfl ⟨_, _, rfl, rfl, _, rfl, ?_⟩
      first | exact l_bit | omega
  · have cx1_ : ¬ (n_ ≠ (-1)) := of_decide_eq_false cx1_
    refine sm_T_go 2 (c1 := (30, [some (.inr (.inr (some (13, 0)))), some (.inl n_), some (.inl k_)], [.inl 0], S0_)) rfl ?_
    refine sm_T_ri rfl ⟨_, _, rfl, rfl, _, rfl, ?_⟩
    first | exact l_bit | omega
/-! M_.layChip -/
def vw_432 : sx_Wl := ([], [190, 191, 238], [])
def vq_432 (c_ : Int) (S0_ : sm_S) (u_ : Option sm_V) (S1_ : sm_S) : Prop := u_ = none ∧ gi S1_ ∧ ai_fr (sx_W vw_432) S0_ S1_ ∧ (∀ p9_ : Nat, p9_ < 2 ^ ((S0_.2.2.1 223 0 c_.toNat).toNat + (S0_.2.2.1 224 0 c_.toNat).toNat) → 0 ≤ S1_.2.2.1 191 0 p9_ ∧ S1_.2.2.1 191 0 p9_ < 2 ^ (S0_.2.2.1 224 0 c_.toNat).toNat)
set_option maxHeartbeats 1000000 in
set_option maxRecDepth 20000 in
theorem vl_432 {sc_ : Nat × (Nat → Int)} (c_ : Int) (S0_ : sm_S) (hc_ : 0 ≤ c_ ∧ c_ ≤ 3) (hx_ : S0_.2.2.1 223 0 c_.toNat + S0_.2.2.1 224 0 c_.toNat ≤ 12) (hg_ : cgt c_ S0_) (ho_ : con c_ S0_) : ∀ nn_ : Nat, (∀ (mn : Int) (p_ : Int) (S_ : sm_S), gi S_ → ai_fr (sx_W vw_432) S0_ S_ → ((0 ≤ p_ ∧ p_ ≤ mn ∧ mn = 2 ^ ((S0_.2.2.1 223 0 c_.toNat).toNat + (S0_.2.2.1 224 0 c_.toNat).toNat)) ∧ (∀ p9_ : Nat, (p9_ : Int) < p_ → 0 ≤ S_.2.2.1 191 0 p9_ ∧ S_.2.2.1 191 0 p9_ < 2 ^ (S0_.2.2.1 224 0 c_.toNat).toNat) ∧ True) → ((1000 * (5000 - p_) + 900).toNat) < nn_ → sm_T (mt_P sc_) 2 432 (18, [some (.inr (.inr (some (13, 0)))), some (.inl c_), some (.inl mn), some (.inl p_), none], [], S_) (fun ro9_ => ∃ u_ S1_, ro9_ = (.inl u_, S1_, 0) ∧ vq_432 c_ S0_ u_ S1_)) ∧ (∀ (mn : Int) (p_ : Int) (k_ : Int) (S_ : sm_S), gi S_ → ai_fr (sx_W vw_432) S0_ S_ → ((0 ≤ p_ ∧ p_ < mn ∧ mn = 2 ^ ((S0_.2.2.1 223 0 c_.toNat).toNat + (S0_.2.2.1 224 0 c_.toNat).toNat) ∧ 0 ≤ k_ ∧ k_ ≤ 16) ∧ (S_.2.2.1 191 0 p_.toNat = 0) ∧ (∀ p9_ : Nat, (p9_ : Int) < p_ → 0 ≤ S_.2.2.1 191 0 p9_ ∧ S_.2.2.1 191 0 p9_ < 2 ^ (S0_.2.2.1 224 0 c_.toNat).toNat) ∧ True) → ((1000 * (5000 - p_) + 800 - k_).toNat) < nn_ → sm_T (mt_P sc_) 2 432 (59, [some (.inr (.inr (some (13, 0)))), some (.inl c_), some (.inl mn), some (.inl p_), some (.inl k_)], [], S_) (fun ro9_ => ∃ u_ S1_, ro9_ = (.inl u_, S1_, 0) ∧ vq_432 c_ S0_ u_ S1_)) ∧ (∀ (mn : Int) (p_ : Int) (k_ : Int) (S_ : sm_S), gi S_ → ai_fr (sx_W vw_432) S0_ S_ → ((0 ≤ p_ ∧ p_ < mn ∧ mn = 2 ^ ((S0_.2.2.1 223 0 c_.toNat).toNat + (S0_.2.2.1 224 0 c_.toNat).toNat) ∧ 0 ≤ k_ ∧ k_ ≤ 6) ∧ (0 ≤ S_.2.2.1 191 0 p_.toNat ∧ S_.2.2.1 191 0 p_.toNat < 2 ^ (S0_.2.2.1 224 0 c_.toNat).toNat) ∧ (∀ p9_ : Nat, (p9_ : Int) < p_ → 0 ≤ S_.2.2.1 191 0 p9_ ∧ S_.2.2.1 191 0 p9_ < 2 ^ (S0_.2.2.1 224 0 c_.toNat).toNat) ∧ True) → ((1000 * (5000 - p_) + 500 - k_).toNat) < nn_ → sm_T (mt_P sc_) 2 432 (111, [some (.inr (.inr (some (13, 0)))), some (.inl c_), some (.inl mn), some (.inl p_), some (.inl k_)], [], S_) (fun ro9_ => ∃ u_ S1_, ro9_ = (.inl u_, S1_, 0) ∧ vq_432 c_ S0_ u_ S1_)) := by
  intro nn_
  induction nn_ with
  | zero => exact ⟨fun _ _ _ _ _ _ h_ => absurd h_ (Nat.not_lt_zero _), fun _ _ _ _ _ _ _ h_ => absurd h_ (Nat.not_lt_zero _), fun _ _ _ _ _ _ _ h_ => absurd h_ (Nat.not_lt_zero _)⟩
  | succ nn_ ih_ =>
    refine ⟨?_, ?_, ?_⟩
    · rintro mn p_ S_ hI_ hF_ ⟨h0_, h1_, -⟩ hm_
      have cA_ : 0 ≤ S_.2.2.1 223 0 c_.toNat ∧ S_.2.2.1 223 0 c_.toNat ≤ 12 := hI_.2 223 0 _
      have cB_ : 0 ≤ S_.2.2.1 224 0 c_.toNat ∧ S_.2.2.1 224 0 c_.toNat ≤ 6 := hI_.2 224 0 _
      have cG_ : 0 ≤ S_.2.2.1 228 0 c_.toNat ∧ S_.2.2.1 228 0 c_.toNat ≤ 150 := hI_.2 228 0 _
      have f223_ : S_.2.2.1 223 0 = S0_.2.2.1 223 0 := fr_arr hF_ rfl
      have f224_ : S_.2.2.1 224 0 = S0_.2.2.1 224 0 := fr_arr hF_ rfl
      have x223_ : S_.2.2.1 223 0 c_.toNat = S0_.2.2.1 223 0 c_.toNat := congrFun f223_ _
      have x224_ : S_.2.2.1 224 0 c_.toNat = S0_.2.2.1 224 0 c_.toNat := congrFun f224_ _
      have w1_ := pw_le (n := (S0_.2.2.1 223 0 c_.toNat).toNat + (S0_.2.2.1 224 0 c_.toNat).toNat) (m := 12) (by omega)
      have w2_ := pw_pos ((S0_.2.2.1 223 0 c_.toNat).toNat + (S0_.2.2.1 224 0 c_.toNat).toNat)
      have w3_ : ((2 ^ ((S0_.2.2.1 223 0 c_.toNat).toNat + (S0_.2.2.1 224 0 c_.toNat).toNat) : Nat) : Int) = (2 : Int) ^ ((S0_.2.2.1 223 0 c_.toNat).toNat + (S0_.2.2.1 224 0 c_.toNat).toNat) := by push_cast; rfl
      have w4_ := pw_le (n := (S0_.2.2.1 224 0 c_.toNat).toNat) (m := 6) (by omega)
      have w5_ := pw_pos (S0_.2.2.1 224 0 c_.toNat).toNat
      have ho9_ := con_fr hc_.1 hI_ ho_ hF_
      have f228_ : S_.2.2.1 228 0 = S0_.2.2.1 228 0 := fr_arr hF_ rfl
      refine sm_T_go 2 (c1 := (20, [some (.inr (.inr (some (13, 0)))), some (.inl c_), some (.inl mn), some (.inl p_), none], [.inl mn, .inl p_], S_)) rfl ?_
      refine sm_T_br (a := 3) (z := 146) rfl (fun cx1_ => ?_) (fun cx1_ => ?_)
      · have cx1_ : mn ≤ p_ := of_decide_eq_true cx1_
        refine sm_T_rv rfl ⟨_, _, rfl, rfl, hI_, hF_, ?_⟩
        intro p9_ hp9_
        exact h1_ p9_ (by omega)
      · have cx1_ : ¬ (mn ≤ p_) := of_decide_eq_false cx1_
        refine sm_T_go 2 (c1 := (26, [some (.inr (.inr (some (13, 0)))), some (.inl c_), some (.inl mn), some (.inl p_), none], [.inl 63, .inl p_], S_)) rfl ?_
        refine sm_T_bin (w := (p_ % 64)) rfl (bi_msk (k := 6) (by decide)) ?_ -- pc_ 26
        refine sm_T_b0 (a := 1) (z := 15) rfl (fun cx2_ => ?_) (fun cx2_ => ?_)
        · have cx2_ : (p_ % 64) ≠ 0 := of_decide_eq_true cx2_
          refine sm_T_go 4 (c1 := (48, [some (.inr (.inr (some (13, 0)))), some (.inl c_), some (.inl mn), some (.inl p_), none], [.inl 0, .inl p_, .inr (.inr (some (190, 0)))], S_)) rfl ?_
          refine sm_T_iast (n := 4096) rfl rfl (by omega) (by omega) ?_
          have hIx3_ : gi (sm_aI S_ 190 0 p_.toNat 0) := gi_aI hI_ (show 0 ≤ 0 ∧ 0 ≤ 65535 from ⟨by omega, by omega⟩)
          have hFx4_ : ai_fr (sx_W vw_432) S0_ (sm_aI S_ 190 0 p_.toNat 0) := ai_fr_tr hF_ (ai_fr_aI rfl)
          refine sm_T_go 4 (c1 := (55, [some (.inr (.inr (some (13, 0)))), some (.inl c_), some (.inl mn), some (.inl p_), none], [.inl 0, .inl p_, .inr (.inr (some (191, 0)))], sm_aI S_ 190 0 p_.toNat 0)) rfl ?_
          refine sm_T_iast (n := 4096) rfl rfl (by omega) (by omega) ?_
          have hIx5_ : gi (sm_aI (sm_aI S_ 190 0 p_.toNat 0) 191 0 p_.toNat 0) := gi_aI hIx3_ (show 0 ≤ 0 ∧ 0 ≤ 63 from ⟨by omega, by omega⟩)
          have hFx6_ : ai_fr (sx_W vw_432) S0_ (sm_aI (sm_aI S_ 190 0 p_.toNat 0) 191 0 p_.toNat 0) := ai_fr_tr hFx4_ (ai_fr_aI rfl)
          refine sm_T_go 2 (c1 := (59, [some (.inr (.inr (some (13, 0)))), some (.inl c_), some (.inl mn), some (.inl p_), some (.inl 0)], [], sm_aI (sm_aI S_ 190 0 p_.toNat 0) 191 0 p_.toNat 0)) rfl ?_
          refine ih_.2.1 mn p_ 0 (sm_aI (sm_aI S_ 190 0 p_.toNat 0) 191 0 p_.toNat 0) hIx5_ hFx6_ ⟨?_, ?_, ?_, trivial⟩ ?_
          · omega
          · (rw [rd_eq, if_pos rfl])
          · intro p9_ hp9_
            rw [rd_eq, if_neg (by omega), rd_ne (by decide)]
            first | exact h1_ p9_ hp9_ | (rw [n39_]; exact h1_ p9_ hp9_)
          · omega
        · have cx2_ : ¬ ((p_ % 64) ≠ 0) := of_decide_eq_false cx2_
          refine sm_T_go 4 (c1 := (35, [some (.inr (.inr (some (13, 0)))), some (.inl c_), some (.inl mn), some (.inl p_), none], [.inl 6, .inl p_, .inl c_, .inr (.inr (some (13, 0)))], S_)) rfl ?_
          refine sm_T_bin (w := (p_ / 64)) rfl (bi_shr (k := 6) (by decide) (by omega) (by omega)) ?_ -- pc_ 35
          refine sm_T_go 3 (c1 := (39, [some (.inr (.inr (some (13, 0)))), some (.inl c_), some (.inl mn), some (.inl p_), none], [.inr (.inl 0), .inl (-1), .inl (-1), .inl (p_ / 64), .inl c_, .inr (.inr (some (13, 0)))], S_)) rfl ?_
          refine sm_T_cal (d1 := 1) (Q1 := vq_430 c_ (p_ / 64) (-1) (-1) 0 S_) rfl rfl (by decide) (vc_430 c_ (p_ / 64) (-1) (-1) 0 S_ hI_ (by omega) (by omega) (by (rw [f223_, f224_]; omega)) (by exact cgt_fr hc_.1 hI_ hg_ hF_)) (fun u_ Sx7_ px10_ => ?_)
          obtain ⟨rfl, hIx8_, hFx9_, px10_⟩ := px10_
          have hFx11_ : ai_fr (sx_W vw_432) S0_ Sx7_ := ai_fr_tr hF_ (fr_le hFx9_ rfl)
          have n39_ : Sx7_.2.2.1 191 0 = S_.2.2.1 191 0 := fr_arr hFx9_ rfl
          refine sm_T_go 4 (c1 := (48, [some (.inr (.inr (some (13, 0)))), some (.inl c_), some (.inl mn), some (.inl p_), none], [.inl 0, .inl p_, .inr (.inr (some (190, 0)))], Sx7_)) rfl ?_
          refine sm_T_iast (n := 4096) rfl rfl (by omega) (by omega) ?_
          have hIx12_ : gi (sm_aI Sx7_ 190 0 p_.toNat 0) := gi_aI hIx8_ (show 0 ≤ 0 ∧ 0 ≤ 65535 from ⟨by omega, by omega⟩)
          have hFx13_ : ai_fr (sx_W vw_432) S0_ (sm_aI Sx7_ 190 0 p_.toNat 0) := ai_fr_tr hFx11_ (ai_fr_aI rfl)
          refine sm_T_go 4 (c1 := (55, [some (.inr (.inr (some (13, 0)))), some (.inl c_), some (.inl mn), some (.inl p_), none], [.inl 0, .inl p_, .inr (.inr (some (191, 0)))], sm_aI Sx7_ 190 0 p_.toNat 0)) rfl ?_
          refine sm_T_iast (n := 4096) rfl rfl (by omega) (by omega) ?_
          have hIx14_ : gi (sm_aI (sm_aI Sx7_ 190 0 p_.toNat 0) 191 0 p_.toNat 0) := gi_aI hIx12_ (show 0 ≤ 0 ∧ 0 ≤ 63 from ⟨by omega, by omega⟩)
          have hFx15_ : ai_fr (sx_W vw_432) S0_ (sm_aI (sm_aI Sx7_ 190 0 p_.toNat 0) 191 0 p_.toNat 0) := ai_fr_tr hFx13_ (ai_fr_aI rfl)
          refine sm_T_go 2 (c1 := (59, [some (.inr (.inr (some (13, 0)))), some (.inl c_), some (.inl mn), some (.inl p_), some (.inl 0)], [], sm_aI (sm_aI Sx7_ 190 0 p_.toNat 0) 191 0 p_.toNat 0)) rfl ?_
          refine ih_.2.1 mn p_ 0 (sm_aI (sm_aI Sx7_ 190 0 p_.toNat 0) 191 0 p_.toNat 0) hIx14_ hFx15_ ⟨?_, ?_, ?_, trivial⟩ ?_
          · omega
          · (rw [rd_eq, if_pos rfl])
          · intro p9_ hp9_
            rw [rd_eq, if_neg (by omega), rd_ne (by decide)]
            first | exact h1_ p9_ hp9_ | (rw [n39_]; exact h1_ p9_ hp9_)
          · omega
    · rintro mn p_ k_ S_ hI_ hF_ ⟨h0_, h2_, h1_, -⟩ hm_
      have cA_ : 0 ≤ S_.2.2.1 223 0 c_.toNat ∧ S_.2.2.1 223 0 c_.toNat ≤ 12 := hI_.2 223 0 _
      have cB_ : 0 ≤ S_.2.2.1 224 0 c_.toNat ∧ S_.2.2.1 224 0 c_.toNat ≤ 6 := hI_.2 224 0 _
      have cG_ : 0 ≤ S_.2.2.1 228 0 c_.toNat ∧ S_.2.2.1 228 0 c_.toNat ≤ 150 := hI_.2 228 0 _
      have f223_ : S_.2.2.1 223 0 = S0_.2.2.1 223 0 := fr_arr hF_ rfl
      have f224_ : S_.2.2.1 224 0 = S0_.2.2.1 224 0 := fr_arr hF_ rfl
      have x223_ : S_.2.2.1 223 0 c_.toNat = S0_.2.2.1 223 0 c_.toNat := congrFun f223_ _
      have x224_ : S_.2.2.1 224 0 c_.toNat = S0_.2.2.1 224 0 c_.toNat := congrFun f224_ _
      have w1_ := pw_le (n := (S0_.2.2.1 223 0 c_.toNat).toNat + (S0_.2.2.1 224 0 c_.toNat).toNat) (m := 12) (by omega)
      have w2_ := pw_pos ((S0_.2.2.1 223 0 c_.toNat).toNat + (S0_.2.2.1 224 0 c_.toNat).toNat)
      have w3_ : ((2 ^ ((S0_.2.2.1 223 0 c_.toNat).toNat + (S0_.2.2.1 224 0 c_.toNat).toNat) : Nat) : Int) = (2 : Int) ^ ((S0_.2.2.1 223 0 c_.toNat).toNat + (S0_.2.2.1 224 0 c_.toNat).toNat) := by push_cast; rfl
      have w4_ := pw_le (n := (S0_.2.2.1 224 0 c_.toNat).toNat) (m := 6) (by omega)
      have w5_ := pw_pos (S0_.2.2.1 224 0 c_.toNat).toNat
      have ho9_ := con_fr hc_.1 hI_ ho_ hF_
      have f228_ : S_.2.2.1 228 0 = S0_.2.2.1 228 0 := fr_arr hF_ rfl
      refine sm_T_go 4 (c1 := (66, [some (.inr (.inr (some (13, 0)))), some (.inl c_), some (.inl mn), some (.inl p_), some (.inl k_)], [.inl c_, .inr (.inr (some (225, 0))), .inl k_], S_)) rfl ?_
      refine sm_T_iald (n := 4) rfl rfl (by omega) (by omega) ?_
      have bx1_ : 0 ≤ S_.2.2.1 225 0 c_.toNat ∧ S_.2.2.1 225 0 c_.toNat ≤ 16 := hI_.2 225 0 _
      refine sm_T_br (a := 3) (z := 41) rfl (fun cx2_ => ?_) (fun cx2_ => ?_)
      · have cx2_ : (S_.2.2.1 225 0 c_.toNat) ≤ k_ := of_decide_eq_true cx2_
        refine sm_T_go 2 (c1 := (111, [some (.inr (.inr (some (13, 0)))), some (.inl c_), some (.inl mn), some (.inl p_), some (.inl 0)], [], S_)) rfl ?_
        refine ih_.2.2 mn p_ 0 S_ hI_ hF_ ⟨?_, ?_, ?_, trivial⟩ ?_
        · omega
        · (rw [h2_]; exact ⟨by decide, w5_⟩)
        · exact h1_
        · omega
      · have cx2_ : ¬ ((S_.2.2.1 225 0 c_.toNat) ≤ k_) := of_decide_eq_false cx2_
        have o9_ := ho9_.1 k_ (by omega) (by omega)
        refine sm_T_go 4 (c1 := (76, [some (.inr (.inr (some (13, 0)))), some (.inl c_), some (.inl mn), some (.inl p_), some (.inl k_)], [.inl p_, .inr (.inr (some (190, 0))), .inl p_, .inr (.inr (some (190, 0)))], S_)) rfl ?_
        refine sm_T_iald (n := 4096) rfl rfl (by omega) (by omega) ?_
        have bx3_ : 0 ≤ S_.2.2.1 190 0 p_.toNat ∧ S_.2.2.1 190 0 p_.toNat ≤ 65535 := hI_.2 190 0 _
        refine sm_T_go 5 (c1 := (85, [some (.inr (.inr (some (13, 0)))), some (.inl c_), some (.inl mn), some (.inl p_), some (.inl k_)], [.inl c_, .inl 16, .inr (.inr (some (231, 0))), .inr (.inr (some (13, 0))), .inl (S_.2.2.1 190 0 p_.toNat), .inl p_, .inr (.inr (some (190, 0)))], S_)) rfl ?_
        refine sm_T_bin (w := 16 * c_) rfl (bi_mul (by omega) (by omega) (by omega)) ?_ -- pc_ 85
        refine sm_T_go 1 (c1 := (88, [some (.inr (.inr (some (13, 0)))), some (.inl c_), some (.inl mn), some (.inl p_), some (.inl k_)], [.inl k_, .inl (16 * c_), .inr (.inr (some (231, 0))), .inr (.inr (some (13, 0))), .inl (S_.2.2.1 190 0 p_.toNat), .inl p_, .inr (.inr (some (190, 0)))], S_)) rfl ?_
        refine sm_T_bin (w := 16 * c_ + k_) rfl (bi_add (by omega) (by omega) (by omega)) ?_ -- pc_ 88
        refine sm_T_iald (n := 64) rfl rfl (by omega) (by omega) ?_
        have bx4_ : (-2) ≤ S_.2.2.1 231 0 (16 * c_ + k_).toNat ∧ S_.2.2.1 231 0 (16 * c_ + k_).toNat ≤ 9000 := hI_.2 231 0 _
        refine sm_T_go 2 (c1 := (93, [some (.inr (.inr (some (13, 0)))), some (.inl c_), some (.inl mn), some (.inl p_), some (.inl k_)], [.inl 63, .inl p_, .inl (S_.2.2.1 231 0 (16 * c_ + k_).toNat), .inr (.inr (some (13, 0))), .inl (S_.2.2.1 190 0 p_.toNat), .inl p_, .inr (.inr (some (190, 0)))], S_)) rfl ?_
        refine sm_T_bin (w := (p_ % 64)) rfl (bi_msk (k := 6) (by decide)) ?_ -- pc_ 93
        refine sm_T_cal (d1 := 0) (Q1 := vq_431 (S_.2.2.1 231 0 (16 * c_ + k_).toNat) (p_ % 64) S_) rfl rfl (by decide) (vc_431 (S_.2.2.1 231 0 (16 * c_ + k_).toNat) (p_ % 64) S_ hI_ (by omega)) (fun u_ Sx5_ px8_ => ?_)
        obtain ⟨rfl, vx10_, rfl, px8_⟩ := px8_
        have e94_ := px8_
        refine sm_T_go 1 (c1 := (99, [some (.inr (.inr (some (13, 0)))), some (.inl c_), some (.inl mn), some (.inl p_), some (.inl k_)], [.inl k_, .inl vx10_, .inl (S_.2.2.1 190 0 p_.toNat), .inl p_, .inr (.inr (some (190, 0)))], S_)) rfl ?_
        refine sm_T_bin (w := (i_shl vx10_ k_)) rfl rfl ?_ -- pc_ 99
        have bx11_ := bsh (k_ := 16) e94_ (show 0 ≤ k_ by omega) (by omega) (by decide)
        refine sm_T_bin (w := (i_or (S_.2.2.1 190 0 p_.toNat) (i_shl vx10_ k_))) rfl rfl ?_ -- pc_ 100
        have bx12_ := i_orp (x_ := (S_.2.2.1 190 0 p_.toNat)) (y_ := (i_shl vx10_ k_)) (k_ := 16) (by decide) (by omega) (by omega)
        refine sm_T_iast (n := 4096) rfl rfl (by omega) (by omega) ?_
        have hIx13_ : gi (sm_aI S_ 190 0 p_.toNat (i_or (S_.2.2.1 190 0 p_.toNat) (i_shl vx10_ k_))) := gi_aI hI_ (show 0 ≤ (i_or (S_.2.2.1 190 0 p_.toNat) (i_shl vx10_ k_)) ∧ (i_or (S_.2.2.1 190 0 p_.toNat) (i_shl vx10_ k_)) ≤ 65535 from ⟨by omega, by omega⟩)
        have hFx14_ : ai_fr (sx_W vw_432) S0_ (sm_aI S_ 190 0 p_.toNat (i_or (S_.2.2.1 190 0 p_.toNat) (i_shl vx10_ k_))) := ai_fr_tr hF_ (ai_fr_aI rfl)
        refine sm_T_inc (a := 4) (z := 1) (v := k_) (w := k_ + 1) rfl rfl (by omega) (by omega) (by omega) ?_ -- pc_ 102
        refine sm_T_go 1 (c1 := (59, [some (.inr (.inr (some (13, 0)))), some (.inl c_), some (.inl mn), some (.inl p_), some (.inl (k_ + 1))], [], sm_aI S_ 190 0 p_.toNat (i_or (S_.2.2.1 190 0 p_.toNat) (i_shl vx10_ k_)))) rfl ?_
        refine ih_.2.1 mn p_ (k_ + 1) (sm_aI S_ 190 0 p_.toNat (i_or (S_.2.2.1 190 0 p_.toNat) (i_shl vx10_ k_))) hIx13_ hFx14_ ⟨?_, ?_, ?_, trivial⟩ ?_
        · omega
        · (rw [rd_ne (by decide)]; exact h2_)
        · (intro p9_ hp9_; rw [rd_ne (by decide)]; exact h1_ p9_ hp9_)
        · omega
    · rintro mn p_ k_ S_ hI_ hF_ ⟨h0_, h2_, h1_, -⟩ hm_
      have cA_ : 0 ≤ S_.2.2.1 223 0 c_.toNat ∧ S_.2.2.1 223 0 c_.toNat ≤ 12 := hI_.2 223 0 _
      have cB_ : 0 ≤ S_.2.2.1 224 0 c_.toNat ∧ S_.2.2.1 224 0 c_.toNat ≤ 6 := hI_.2 224 0 _
      have cG_ : 0 ≤ S_.2.2.1 228 0 c_.toNat ∧ S_.2.2.1 228 0 c_.toNat ≤ 150 := hI_.2 228 0 _
      have f223_ : S_.2.2.1 223 0 = S0_.2.2.1 223 0 := fr_arr hF_ rfl
      have f224_ : S_.2.2.1 224 0 = S0_.2.2.1 224 0 := fr_arr hF_ rfl
      have x223_ : S_.2.2.1 223 0 c_.toNat = S0_.2.2.1 223 0 c_.toNat := congrFun f223_ _
      have x224_ : S_.2.2.1 224 0 c_.toNat = S0_.2.2.1 224 0 c_.toNat := congrFun f224_ _
      have w1_ := pw_le (n := (S0_.2.2.1 223 0 c_.toNat).toNat + (S0_.2.2.1 224 0 c_.toNat).toNat) (m := 12) (by omega)
      have w2_ := pw_pos ((S0_.2.2.1 223 0 c_.toNat).toNat + (S0_.2.2.1 224 0 c_.toNat).toNat)
      have w3_ : ((2 ^ ((S0_.2.2.1 223 0 c_.toNat).toNat + (S0_.2.2.1 224 0 c_.toNat).toNat) : Nat) : Int) = (2 : Int) ^ ((S0_.2.2.1 223 0 c_.toNat).toNat + (S0_.2.2.1 224 0 c_.toNat).toNat) := by push_cast; rfl
      have w4_ := pw_le (n := (S0_.2.2.1 224 0 c_.toNat).toNat) (m := 6) (by omega)
      have w5_ := pw_pos (S0_.2.2.1 224 0 c_.toNat).toNat
      have ho9_ := con_fr hc_.1 hI_ ho_ hF_
      have f228_ : S_.2.2.1 228 0 = S0_.2.2.1 228 0 := fr_arr hF_ rfl
      refine sm_T_go 4 (c1 := (118, [some (.inr (.inr (some (13, 0)))), some (.inl c_), some (.inl mn), some (.inl p_), some (.inl k_)], [.inl c_, .inr (.inr (some (224, 0))), .inl k_], S_)) rfl ?_
      refine sm_T_iald (n := 4) rfl rfl (by omega) (by omega) ?_
      have bx1_ : 0 ≤ S_.2.2.1 224 0 c_.toNat ∧ S_.2.2.1 224 0 c_.toNat ≤ 6 := hI_.2 224 0 _
      refine sm_T_br (a := 3) (z := 41) rfl (fun cx2_ => ?_) (fun cx2_ => ?_)
      · have cx2_ : (S_.2.2.1 224 0 c_.toNat) ≤ k_ := of_decide_eq_true cx2_
        refine sm_T_inc (a := 3) (z := 1) (v := p_) (w := p_ + 1) rfl rfl (by omega) (by omega) (by omega) ?_ -- pc_ 160
        refine sm_T_go 1 (c1 := (18, [some (.inr (.inr (some (13, 0)))), some (.inl c_), some (.inl mn), some (.inl (p_ + 1)), some (.inl k_)], [], S_)) rfl ?_
        refine sm_T_wk [some (.inr (.inr (some (13, 0)))), some (.inl c_), some (.inl mn), some (.inl (p_ + 1)), none] (by exact ⟨rfl, rfl, rfl, rfl, trivial⟩) ?_
        refine ih_.1 mn (p_ + 1) S_ hI_ hF_ ⟨?_, ?_, trivial⟩ ?_
        · omega
        · intro p9_ hp9_
          by_cases z9_ : p9_ = p_.toNat
          · rw [z9_]; exact h2_
          · exact h1_ p9_ (by omega)
        · omega
      · have cx2_ : ¬ ((S_.2.2.1 224 0 c_.toNat) ≤ k_) := of_decide_eq_false cx2_
        have o9_ := ho9_.2 k_ (by omega) (by omega)
        refine sm_T_go 4 (c1 := (128, [some (.inr (.inr (some (13, 0)))), some (.inl c_), some (.inl mn), some (.inl p_), some (.inl k_)], [.inl p_, .inr (.inr (some (191, 0))), .inl p_, .inr (.inr (some (191, 0)))], S_)) rfl ?_
        refine sm_T_iald (n := 4096) rfl rfl (by omega) (by omega) ?_
        have bx3_ : 0 ≤ S_.2.2.1 191 0 p_.toNat ∧ S_.2.2.1 191 0 p_.toNat ≤ 63 := hI_.2 191 0 _
        refine sm_T_go 5 (c1 := (137, [some (.inr (.inr (some (13, 0)))), some (.inl c_), some (.inl mn), some (.inl p_), some (.inl k_)], [.inl c_, .inl 6, .inr (.inr (some (232, 0))), .inr (.inr (some (13, 0))), .inl (S_.2.2.1 191 0 p_.toNat), .inl p_, .inr (.inr (some (191, 0)))], S_)) rfl ?_
        refine sm_T_bin (w := 6 * c_) rfl (bi_mul (by omega) (by omega) (by omega)) ?_ -- pc_ 137
        refine sm_T_go 1 (c1 := (140, [some (.inr (.inr (some (13, 0)))), some (.inl c_), some (.inl mn), some (.inl p_), some (.inl k_)], [.inl k_, .inl (6 * c_), .inr (.inr (some (232, 0))), .inr (.inr (some (13, 0))), .inl (S_.2.2.1 191 0 p_.toNat), .inl p_, .inr (.inr (some (191, 0)))], S_)) rfl ?_
        refine sm_T_bin (w := 6 * c_ + k_) rfl (bi_add (by omega) (by omega) (by omega)) ?_ -- pc_ 140
        refine sm_T_iald (n := 24) rfl rfl (by omega) (by omega) ?_
        have bx4_ : (-2) ≤ S_.2.2.1 232 0 (6 * c_ + k_).toNat ∧ S_.2.2.1 232 0 (6 * c_ + k_).toNat ≤ 9000 := hI_.2 232 0 _
        refine sm_T_go 2 (c1 := (145, [some (.inr (.inr (some (13, 0)))), some (.inl c_), some (.inl mn), some (.inl p_), some (.inl k_)], [.inl 63, .inl p_, .inl (S_.2.2.1 232 0 (6 * c_ + k_).toNat), .inr (.inr (some (13, 0))), .inl (S_.2.2.1 191 0 p_.toNat), .inl p_, .inr (.inr (some (191, 0)))], S_)) rfl ?_
        refine sm_T_bin (w := (p_ % 64)) rfl (bi_msk (k := 6) (by decide)) ?_ -- pc_ 145
        refine sm_T_cal (d1 := 0) (Q1 := vq_431 (S_.2.2.1 232 0 (6 * c_ + k_).toNat) (p_ % 64) S_) rfl rfl (by decide) (vc_431 (S_.2.2.1 232 0 (6 * c_ + k_).toNat) (p_ % 64) S_ hI_ (by omega)) (fun u_ Sx5_ px8_ => ?_)
        obtain ⟨rfl, vx10_, rfl, px8_⟩ := px8_
        have e146_ := px8_
        refine sm_T_go 1 (c1 := (151, [some (.inr (.inr (some (13, 0)))), some (.inl c_), some (.inl mn), some (.inl p_), some (.inl k_)], [.inl k_, .inl vx10_, .inl (S_.2.2.1 191 0 p_.toNat), .inl p_, .inr (.inr (some (191, 0)))], S_)) rfl ?_
        refine sm_T_bin (w := (i_shl vx10_ k_)) rfl rfl ?_ -- pc_ 151
        have bs9_ := bsh (k_ := (S0_.2.2.1 224 0 c_.toNat).toNat) e146_ (show 0 ≤ k_ by omega) (by omega) (by omega)
        refine sm_T_bin (w := (i_or (S_.2.2.1 191 0 p_.toNat) (i_shl vx10_ k_))) rfl rfl ?_ -- pc_ 152
        have or9_ := i_orp (x_ := (S_.2.2.1 191 0 p_.toNat)) (y_ := (i_shl vx10_ k_)) (k_ := (S0_.2.2.1 224 0 c_.toNat).toNat) (by omega) h2_ bs9_
        refine sm_T_iast (n := 4096) rfl rfl (by omega) (by omega) ?_
        have hIx13_ : gi (sm_aI S_ 191 0 p_.toNat (i_or (S_.2.2.1 191 0 p_.toNat) (i_shl vx10_ k_))) := gi_aI hI_ (show 0 ≤ (i_or (S_.2.2.1 191 0 p_.toNat) (i_shl vx10_ k_)) ∧ (i_or (S_.2.2.1 191 0 p_.toNat) (i_shl vx10_ k_)) ≤ 63 from ⟨by omega, by omega⟩)
        have hFx14_ : ai_fr (sx_W vw_432) S0_ (sm_aI S_ 191 0 p_.toNat (i_or (S_.2.2.1 191 0 p_.toNat) (i_shl vx10_ k_))) := ai_fr_tr hF_ (ai_fr_aI rfl)
        refine sm_T_inc (a := 4) (z := 1) (v := k_) (w := k_ + 1) rfl rfl (by omega) (by omega) (by omega) ?_ -- pc_ 154
        refine sm_T_go 1 (c1 := (111, [some (.inr (.inr (some (13, 0)))), some (.inl c_), some (.inl mn), some (.inl p_), some (.inl (k_ + 1))], [], sm_aI S_ 191 0 p_.toNat (i_or (S_.2.2.1 191 0 p_.toNat) (i_shl vx10_ k_)))) rfl ?_
        refine ih_.2.2 mn p_ (k_ + 1) (sm_aI S_ 191 0 p_.toNat (i_or (S_.2.2.1 191 0 p_.toNat) (i_shl vx10_ k_))) hIx13_ hFx14_ ⟨?_, ?_, ?_, trivial⟩ ?_
        · omega
        · (rw [rd_eq, if_pos rfl]; exact or9_)
        · (intro p9_ hp9_; rw [rd_eq, if_neg (by omega)]; exact h1_ p9_ hp9_)
        · omega
set_option maxHeartbeats 1000000 in
set_option maxRecDepth 20000 in
theorem vc_432 {sc_ : Nat × (Nat → Int)} (c_ : Int) (S0_ : sm_S) (hI_ : gi S0_) (hc_ : 0 ≤ c_ ∧ c_ ≤ 3) (hx_ : S0_.2.2.1 223 0 c_.toNat + S0_.2.2.1 224 0 c_.toNat ≤ 12) (hg_ : cgt c_ S0_) (ho_ : con c_ S0_) : sm_T (mt_P sc_) 2 432 (0, [some (.inr (.inr (some (13, 0)))), some (.inl c_), none, none, none], [], S0_) (fun ro9_ => ∃ u_ S1_, ro9_ = (.inl u_, S1_, 0) ∧ vq_432 c_ S0_ u_ S1_) := by
  have hF_ : ai_fr (sx_W vw_432) S0_ S0_ := ai_fr_rf
  have cA_ : 0 ≤ S0_.2.2.1 223 0 c_.toNat ∧ S0_.2.2.1 223 0 c_.toNat ≤ 12 := hI_.2 223 0 _
  have cB_ : 0 ≤ S0_.2.2.1 224 0 c_.toNat ∧ S0_.2.2.1 224 0 c_.toNat ≤ 6 := hI_.2 224 0 _
  have cG_ : 0 ≤ S0_.2.2.1 228 0 c_.toNat ∧ S0_.2.2.1 228 0 c_.toNat ≤ 150 := hI_.2 228 0 _
  have w1_ := pw_le (n := (S0_.2.2.1 223 0 c_.toNat).toNat + (S0_.2.2.1 224 0 c_.toNat).toNat) (m := 12) (by omega)
  have w2_ := pw_pos ((S0_.2.2.1 223 0 c_.toNat).toNat + (S0_.2.2.1 224 0 c_.toNat).toNat)
  have w3_ : ((2 ^ ((S0_.2.2.1 223 0 c_.toNat).toNat + (S0_.2.2.1 224 0 c_.toNat).toNat) : Nat) : Int) = (2 : Int) ^ ((S0_.2.2.1 223 0 c_.toNat).toNat + (S0_.2.2.1 224 0 c_.toNat).toNat) := by push_cast; rfl
  have w4_ := pw_le (n := (S0_.2.2.1 224 0 c_.toNat).toNat) (m := 6) (by omega)
  have w5_ := pw_pos (S0_.2.2.1 224 0 c_.toNat).toNat
  have s9_ : i_shl 1 (S0_.2.2.1 223 0 c_.toNat + S0_.2.2.1 224 0 c_.toNat) = 2 ^ ((S0_.2.2.1 223 0 c_.toNat).toNat + (S0_.2.2.1 224 0 c_.toNat).toNat) := by (rw [i_shl1 (by omega) (by omega), show (S0_.2.2.1 223 0 c_.toNat + S0_.2.2.1 224 0 c_.toNat).toNat = (S0_.2.2.1 223 0 c_.toNat).toNat + (S0_.2.2.1 224 0 c_.toNat).toNat by omega])
  refine sm_T_go 4 (c1 := (6, [some (.inr (.inr (some (13, 0)))), some (.inl c_), none, none, none], [.inl c_, .inr (.inr (some (223, 0))), .inl 1], S0_)) rfl ?_
  refine sm_T_iald (n := 4) rfl rfl (by omega) (by omega) ?_
  have bx1_ : 0 ≤ S0_.2.2.1 223 0 c_.toNat ∧ S0_.2.2.1 223 0 c_.toNat ≤ 12 := hI_.2 223 0 _
  refine sm_T_go 3 (c1 := (12, [some (.inr (.inr (some (13, 0)))), some (.inl c_), none, none, none], [.inl c_, .inr (.inr (some (224, 0))), .inl (S0_.2.2.1 223 0 c_.toNat), .inl 1], S0_)) rfl ?_
  refine sm_T_iald (n := 4) rfl rfl (by omega) (by omega) ?_
  have bx2_ : 0 ≤ S0_.2.2.1 224 0 c_.toNat ∧ S0_.2.2.1 224 0 c_.toNat ≤ 6 := hI_.2 224 0 _
  refine sm_T_bin (w := (S0_.2.2.1 223 0 c_.toNat) + (S0_.2.2.1 224 0 c_.toNat)) rfl (bi_add (by omega) (by omega) (by omega)) ?_ -- pc_ 13
  refine sm_T_bin (w := (i_shl 1 ((S0_.2.2.1 223 0 c_.toNat) + (S0_.2.2.1 224 0 c_.toNat)))) rfl rfl ?_ -- pc_ 14
  refine sm_T_go 3 (c1 := (18, [some (.inr (.inr (some (13, 0)))), some (.inl c_), some (.inl (i_shl 1 ((S0_.2.2.1 223 0 c_.toNat) + (S0_.2.2.1 224 0 c_.toNat)))), some (.inl 0), none], [], S0_)) rfl ?_
  refine (vl_432 c_ S0_ hc_ hx_ hg_ ho_ _).1 (i_shl 1 ((S0_.2.2.1 223 0 c_.toNat) + (S0_.2.2.1 224 0 c_.toNat))) 0 S0_ hI_ hF_ ⟨?_, ?_, trivial⟩ (Nat.lt_succ_self _)
  · omega
  · (intro p9_ hp9_; exfalso; omega)
/-! M_.run -/
/-! M_.reset -/
/-! M_.proves -/
def vw_435 : sx_Wl := ([(13, 0), (13, 95)], [189, 190, 191, 192, 193, 194, 195, 196, 197, 198, 238], [])
def vq_435 (a1_ : Int) (a2_ : Int) (S0_ : sm_S) (u_ : Option sm_V) (S1_ : sm_S) : Prop := ∃ v_ : Int, u_ = some (.inl v_) ∧ gi S1_ ∧ ai_fr (sx_W vw_435) S0_ S1_ ∧ (((-2147483648) ≤ v_ ∧ v_ ≤ 2147483647) ∧ (jR S1_))
set_option maxHeartbeats 400000 in
set_option maxRecDepth 20000 in
theorem vc_435 {sc_ : Nat × (Nat → Int)} (a1_ : Int) (a2_ : Int) (S0_ : sm_S) (hI_ : gi S0_) (ha1_ : (-2147483648) ≤ a1_ ∧ a1_ ≤ 2147483647) (ha2_ : (-2147483648) ≤ a2_ ∧ a2_ ≤ 2147483647) (hJ_ : jR S0_) : sm_T (mt_P sc_) 3 435 (0, [some (.inr (.inr (some (13, 0)))), some (.inl a1_), some (.inl a2_)], [], S0_) (fun ro9_ => ∃ u_ S1_, ro9_ = (.inl u_, S1_, 0) ∧ vq_435 a1_ a2_ S0_ u_ S1_) := by
  have hF_ : ai_fr (sx_W vw_435) S0_ S0_ := ai_fr_rf
  refine sm_T_go 3 (c1 := (3, [some (.inr (.inr (some (13, 0)))), some (.inl a1_), some (.inl a2_)], [.inl a1_, .inr (.inr (some (13, 0))), .inr (.inr (some (13, 0)))], S0_)) rfl ?_
  refine sm_T_cal (d1 := 0) (Q1 := vq_371 a1_ S0_) rfl rfl (by decide) (vc_371 a1_ S0_ hI_ (by omega)) (fun u_ Sx1_ px4_ => ?_)
  obtain ⟨rfl, vx6_, rfl, px4_⟩ := px4_
  have d3_ := px4_
  refine sm_T_b0 (a := 0) (z := 11) rfl (fun cx7_ => ?_) (fun cx7_ => ?_)
  · have cx7_ : vx6_ = 0 := of_decide_eq_true cx7_
    have hIx8_ : gi (sm_pI S0_ 13 0 0 1) := gi_pI hI_ (show 0 ≤ 1 ∧ 1 ≤ 4 from ⟨by omega, by omega⟩)
    have hFx9_ : ai_fr (sx_W vw_435) S0_ (sm_pI S0_ 13 0 0 1) := ai_fr_tr hF_ (ai_fr_pI rfl)
    refine sm_T_go 7 (c1 := (67, [some (.inr (.inr (some (13, 0)))), some (.inl a1_), some (.inl a2_)], [.inl 0], sm_pI S0_ 13 0 0 1)) rfl ?_
    refine sm_T_ri rfl ⟨_, _, rfl, _, rfl, hIx8_, hFx9_, ?_⟩
    refine ⟨⟨by omega, by omega⟩, jR_fr hJ_ hIx8_ hFx9_⟩
  · have cx7_ : ¬ (vx6_ = 0) := of_decide_eq_false cx7_
    refine sm_T_go 2 (c1 := (11, [some (.inr (.inr (some (13, 0)))), some (.inl a1_), some (.inl a2_)], [.inl a2_, .inr (.inr (some (13, 0))), .inr (.inr (some (13, 0)))], S0_)) rfl ?_
    refine sm_T_cal (d1 := 0) (Q1 := vq_369 a2_ S0_) rfl rfl (by decide) (vc_369 a2_ S0_ hI_ (by omega)) (fun u_ Sx10_ px13_ => ?_)
    obtain ⟨rfl, vx15_, rfl, px13_⟩ := px13_
    have d11_ := px13_
    refine sm_T_b0 (a := 1) (z := 7) rfl (fun cx16_ => ?_) (fun cx16_ => ?_)
    · have cx16_ : vx15_ ≠ 0 := of_decide_eq_true cx16_
      refine sm_T_go 3 (c1 := (26, [some (.inr (.inr (some (13, 0)))), some (.inl a1_), some (.inl a2_)], [.inl a1_, .inr (.inr (some (223, 0))), .inr (.inr (some (13, 0)))], S0_)) rfl ?_
      refine sm_T_iald (n := 4) rfl rfl (by omega) (by omega) ?_
      have bx17_ : 0 ≤ S0_.2.2.1 223 0 a1_.toNat ∧ S0_.2.2.1 223 0 a1_.toNat ≤ 12 := hI_.2 223 0 _
      refine sm_T_go 3 (c1 := (32, [some (.inr (.inr (some (13, 0)))), some (.inl a1_), some (.inl a2_)], [.inl a2_, .inr (.inr (some (154, 0))), .inl (S0_.2.2.1 223 0 a1_.toNat), .inr (.inr (some (13, 0)))], S0_)) rfl ?_
      refine sm_T_iald (n := 6) rfl rfl (by omega) (by omega) ?_
      have bx18_ : 0 ≤ S0_.2.2.1 154 0 a2_.toNat ∧ S0_.2.2.1 154 0 a2_.toNat ≤ 12 := hI_.2 154 0 _
      refine sm_T_br (a := 1) (z := 18) rfl (fun cx19_ => ?_) (fun cx19_ => ?_)
      · have cx19_ : (S0_.2.2.1 223 0 a1_.toNat) ≠ (S0_.2.2.1 154 0 a2_.toNat) := of_decide_eq_true cx19_
        have hIx20_ : gi (sm_pI S0_ 13 0 0 2) := gi_pI hI_ (show 0 ≤ 2 ∧ 2 ≤ 4 from ⟨by omega, by omega⟩)
        have hFx21_ : ai_fr (sx_W vw_435) S0_ (sm_pI S0_ 13 0 0 2) := ai_fr_tr hF_ (ai_fr_pI rfl)
        refine sm_T_go 7 (c1 := (67, [some (.inr (.inr (some (13, 0)))), some (.inl a1_), some (.inl a2_)], [.inl 0], sm_pI S0_ 13 0 0 2)) rfl ?_
        refine sm_T_ri rfl ⟨_, _, rfl, _, rfl, hIx20_, hFx21_, ?_⟩
        refine ⟨⟨by omega, by omega⟩, jR_fr hJ_ hIx20_ hFx21_⟩
      · have cx19_ : ¬ ((S0_.2.2.1 223 0 a1_.toNat) ≠ (S0_.2.2.1 154 0 a2_.toNat)) := of_decide_eq_false cx19_
        refine sm_T_go 3 (c1 := (41, [some (.inr (.inr (some (13, 0)))), some (.inl a1_), some (.inl a2_)], [.inl a1_, .inr (.inr (some (225, 0))), .inr (.inr (some (13, 0)))], S0_)) rfl ?_
        refine sm_T_iald (n := 4) rfl rfl (by omega) (by omega) ?_
        have bx22_ : 0 ≤ S0_.2.2.1 225 0 a1_.toNat ∧ S0_.2.2.1 225 0 a1_.toNat ≤ 16 := hI_.2 225 0 _
        refine sm_T_go 3 (c1 := (47, [some (.inr (.inr (some (13, 0)))), some (.inl a1_), some (.inl a2_)], [.inl a2_, .inr (.inr (some (156, 0))), .inl (S0_.2.2.1 225 0 a1_.toNat), .inr (.inr (some (13, 0)))], S0_)) rfl ?_
        refine sm_T_iald (n := 6) rfl rfl (by omega) (by omega) ?_
        have bx23_ : 0 ≤ S0_.2.2.1 156 0 a2_.toNat ∧ S0_.2.2.1 156 0 a2_.toNat ≤ 16 := hI_.2 156 0 _
        refine sm_T_br (a := 0) (z := 7) rfl (fun cx24_ => ?_) (fun cx24_ => ?_)
        · have cx24_ : (S0_.2.2.1 225 0 a1_.toNat) = (S0_.2.2.1 156 0 a2_.toNat) := of_decide_eq_true cx24_
          have K9_ : cRk a1_ S0_ := hJ_.2 a1_ (by omega) (by omega) (by omega)
          obtain ⟨K1_, K2_, K3_, K4_, K5_, K6_, K7_⟩ := K9_
          have c24_ : 0 ≤ S0_.2.2.1 224 0 a1_.toNat ∧ S0_.2.2.1 224 0 a1_.toNat ≤ 6 := hI_.2 224 0 _
          have c26_ : 0 ≤ S0_.2.2.1 226 0 a1_.toNat := (hI_.2 226 0 _).1
          have Da2_ : dRk a2_.toNat S0_ := hJ_.1 a2_.toNat (by omega) (by omega)
          obtain ⟨Ja21_, Ja22_, Ja23_, Ja24_⟩ := dRk_b Da2_
          have hIx25_ : gi (sm_pI S0_ 13 0 0 0) := gi_pI hI_ (show 0 ≤ 0 ∧ 0 ≤ 4 from ⟨by omega, by omega⟩)
          have hFx26_ : ai_fr (sx_W vw_435) S0_ (sm_pI S0_ 13 0 0 0) := ai_fr_tr hF_ (ai_fr_pI rfl)
          refine sm_T_go 7 (c1 := (70, [some (.inr (.inr (some (13, 0)))), some (.inl a1_), some (.inl a2_)], [.inl a1_, .inr (.inr (some (13, 0)))], sm_pI S0_ 13 0 0 0)) rfl ?_
          refine sm_T_cal (d1 := 2) (Q1 := vq_432 a1_ (sm_pI S0_ 13 0 0 0)) rfl rfl (by decide) (vc_432 a1_ (sm_pI S0_ 13 0 0 0) hIx25_ (by omega) (by exact K1_) (by exact K4_) (by exact K5_)) (fun u_ Sx27_ px30_ => ?_)
          obtain ⟨rfl, hIx28_, hFx29_, px30_⟩ := px30_
          have hFx31_ : ai_fr (sx_W vw_435) S0_ Sx27_ := ai_fr_tr hFx26_ (fr_le hFx29_ rfl)
          have t70_ := px30_
          have g154_ : Sx27_.2.2.1 154 0 = S0_.2.2.1 154 0 := fr_arr hFx31_ rfl
          have g155_ : Sx27_.2.2.1 155 0 = S0_.2.2.1 155 0 := fr_arr hFx31_ rfl
          refine sm_T_go 2 (c1 := (75, [some (.inr (.inr (some (13, 0)))), some (.inl a1_), some (.inl a2_)], [.inl a2_, .inr (.inr (some (13, 0)))], Sx27_)) rfl ?_
          refine sm_T_cal (d1 := 0) (Q1 := vq_388 a2_ Sx27_) rfl rfl (by decide) (vc_388 a2_ Sx27_ hIx28_ (by omega) (by exact dRk_fr Da2_ hFx31_ (by decide))) (fun u_ Sx32_ px35_ => ?_)
          obtain ⟨rfl, hIx33_, hFx34_, px35_⟩ := px35_
          have hFx36_ : ai_fr (sx_W vw_435) S0_ Sx32_ := ai_fr_tr hFx31_ (fr_le hFx34_ rfl)
          have t75_ := px35_
          rw [g154_, g155_] at t75_
          have n75_ : Sx32_.2.2.1 191 0 = _ := fr_arr hFx34_ rfl
          have y223_ : Sx32_.2.2.1 223 0 a1_.toNat = S0_.2.2.1 223 0 a1_.toNat := congrFun (fr_arr hFx36_ rfl) _
          have y224_ : Sx32_.2.2.1 224 0 a1_.toNat = S0_.2.2.1 224 0 a1_.toNat := congrFun (fr_arr hFx36_ rfl) _
          have y226_ : Sx32_.2.2.1 226 0 a1_.toNat = S0_.2.2.1 226 0 a1_.toNat := congrFun (fr_arr hFx36_ rfl) _
          have ea2154_ : Sx32_.2.2.1 154 0 a2_.toNat = S0_.2.2.1 154 0 a2_.toNat := congrFun (fr_arr hFx36_ rfl) _
          have ea2155_ : Sx32_.2.2.1 155 0 a2_.toNat = S0_.2.2.1 155 0 a2_.toNat := congrFun (fr_arr hFx36_ rfl) _
          have ea2157_ : Sx32_.2.2.1 157 0 a2_.toNat = S0_.2.2.1 157 0 a2_.toNat := congrFun (fr_arr hFx36_ rfl) _
          refine sm_T_go 4 (c1 := (84, [some (.inr (.inr (some (13, 0)))), some (.inl a1_), some (.inl a2_)], [.inl a1_, .inr (.inr (some (223, 0))), .inr (.inr (some (13, 0)))], Sx32_)) rfl ?_
          refine sm_T_iald (n := 4) rfl rfl (by omega) (by omega) ?_
          have bx37_ : 0 ≤ Sx32_.2.2.1 223 0 a1_.toNat ∧ Sx32_.2.2.1 223 0 a1_.toNat ≤ 12 := hIx33_.2 223 0 _
          refine sm_T_go 3 (c1 := (90, [some (.inr (.inr (some (13, 0)))), some (.inl a1_), some (.inl a2_)], [.inl a1_, .inr (.inr (some (226, 0))), .inl (Sx32_.2.2.1 223 0 a1_.toNat), .inr (.inr (some (13, 0)))], Sx32_)) rfl ?_
          refine sm_T_iald (n := 4) rfl rfl (by omega) (by omega) ?_
          have bx38_ : 0 ≤ Sx32_.2.2.1 226 0 a1_.toNat ∧ Sx32_.2.2.1 226 0 a1_.toNat ≤ 63 := hIx33_.2 226 0 _
          refine sm_T_go 3 (c1 := (96, [some (.inr (.inr (some (13, 0)))), some (.inl a1_), some (.inl a2_)], [.inl a2_, .inr (.inr (some (157, 0))), .inl (Sx32_.2.2.1 226 0 a1_.toNat), .inl (Sx32_.2.2.1 223 0 a1_.toNat), .inr (.inr (some (13, 0)))], Sx32_)) rfl ?_
          refine sm_T_iald (n := 6) rfl rfl (by omega) (by omega) ?_
          have bx39_ : 0 ≤ Sx32_.2.2.1 157 0 a2_.toNat ∧ Sx32_.2.2.1 157 0 a2_.toNat ≤ 63 := hIx33_.2 157 0 _
          refine sm_T_cal (d1 := 1) (Q1 := vq_386 (Sx32_.2.2.1 223 0 a1_.toNat) (Sx32_.2.2.1 226 0 a1_.toNat) (Sx32_.2.2.1 157 0 a2_.toNat) (S0_.2.2.1 224 0 a1_.toNat).toNat (S0_.2.2.1 155 0 a2_.toNat).toNat Sx32_) rfl rfl (by decide) (vc_386 (Sx32_.2.2.1 223 0 a1_.toNat) (Sx32_.2.2.1 226 0 a1_.toNat) (Sx32_.2.2.1 157 0 a2_.toNat) (S0_.2.2.1 224 0 a1_.toNat).toNat (S0_.2.2.1 155 0 a2_.toNat).toNat Sx32_ hIx33_ (by omega) (by (rw [y226_]; exact ⟨by omega, K2_⟩)) (by (rw [ea2157_]; exact Ja22_)) (by (rw [y223_, n75_]; exact t70_)) (by (rw [y223_, show S0_.2.2.1 223 0 a1_.toNat = S0_.2.2.1 154 0 a2_.toNat by omega]; exact t75_))) (fun u_ Sx40_ px43_ => ?_)
          obtain ⟨vx45_, rfl, hIx41_, hFx42_, px43_⟩ := px43_
          have hFx44_ : ai_fr (sx_W vw_435) S0_ Sx40_ := ai_fr_tr hFx36_ (fr_le hFx42_ rfl)
          refine sm_T_ri rfl ⟨_, _, rfl, _, rfl, hIx41_, hFx44_, ?_⟩
          refine ⟨⟨by omega, by omega⟩, jR_fr hJ_ hIx41_ hFx44_⟩
        · have cx24_ : ¬ ((S0_.2.2.1 225 0 a1_.toNat) = (S0_.2.2.1 156 0 a2_.toNat)) := of_decide_eq_false cx24_
          have hIx46_ : gi (sm_pI S0_ 13 0 0 2) := gi_pI hI_ (show 0 ≤ 2 ∧ 2 ≤ 4 from ⟨by omega, by omega⟩)
          have hFx47_ : ai_fr (sx_W vw_435) S0_ (sm_pI S0_ 13 0 0 2) := ai_fr_tr hF_ (ai_fr_pI rfl)
          refine sm_T_go 7 (c1 := (67, [some (.inr (.inr (some (13, 0)))), some (.inl a1_), some (.inl a2_)], [.inl 0], sm_pI S0_ 13 0 0 2)) rfl ?_
          refine sm_T_ri rfl ⟨_, _, rfl, _, rfl, hIx46_, hFx47_, ?_⟩
          refine ⟨⟨by omega, by omega⟩, jR_fr hJ_ hIx46_ hFx47_⟩
    · have cx16_ : ¬ (vx15_ ≠ 0) := of_decide_eq_false cx16_
      have hIx48_ : gi (sm_pI S0_ 13 0 0 1) := gi_pI hI_ (show 0 ≤ 1 ∧ 1 ≤ 4 from ⟨by omega, by omega⟩)
      have hFx49_ : ai_fr (sx_W vw_435) S0_ (sm_pI S0_ 13 0 0 1) := ai_fr_tr hF_ (ai_fr_pI rfl)
      refine sm_T_go 7 (c1 := (67, [some (.inr (.inr (some (13, 0)))), some (.inl a1_), some (.inl a2_)], [.inl 0], sm_pI S0_ 13 0 0 1)) rfl ?_
      refine sm_T_ri rfl ⟨_, _, rfl, _, rfl, hIx48_, hFx49_, ?_⟩
      refine ⟨⟨by omega, by omega⟩, jR_fr hJ_ hIx48_ hFx49_⟩
/-! M_.chip -/
def vw_425 : sx_Wl := ([(13, 0)], [], [])
def vq_425 (a1_ : Int) (a2_ : Int) (S0_ : sm_S) (u_ : Option sm_V) (S1_ : sm_S) : Prop := ∃ v_ : Int, u_ = some (.inl v_) ∧ gi S1_ ∧ ai_fr (sx_W vw_425) S0_ S1_ ∧ ((-2147483648 ≤ v_ ∧ v_ ≤ 2147483647) ∧ jR S1_)
set_option maxHeartbeats 400000 in
set_option maxRecDepth 20000 in
theorem vl_425 {sc_ : Nat × (Nat → Int)} (a1_ : Int) (a2_ : Int) (S0_ : sm_S) (ha1_ : (-2147483648) ≤ a1_ ∧ a1_ ≤ 2147483647) (ha2_ : (-2147483648) ≤ a2_ ∧ a2_ ≤ 2147483647) (hJ_ : jR S0_) : ∀ nn_ : Nat, (∀ (ar_ : Int) (g_ : Int) (S_ : sm_S), gi S_ → ai_fr (sx_W vw_425) S0_ S_ → ((0 ≤ a1_ ∧ a1_ < 4 ∧ 0 ≤ g_ ∧ 0 ≤ a2_ ∧ a2_ ≤ 7 ∧ -2147483648 ≤ ar_ ∧ ar_ ≤ 2147483647) ∧ True) → ((500 - g_).toNat) < nn_ → sm_T (mt_P sc_) 2 425 (45, [some (.inr (.inr (some (13, 0)))), some (.inl a1_), some (.inl a2_), some (.inl ar_), some (.inl g_)], [], S_) (fun ro9_ => ∃ u_ S1_, ro9_ = (.inl u_, S1_, 0) ∧ vq_425 a1_ a2_ S0_ u_ S1_)) := by
  intro nn_
  induction nn_ with
  | zero => exact fun _ _ _ _ _ _ h_ => absurd h_ (Nat.not_lt_zero _)
  | succ nn_ ih_ =>
    rintro ar_ g_ S_ hI_ hF_ ⟨h0_, -⟩ hm_
    refine sm_T_go 4 (c1 := (52, [some (.inr (.inr (some (13, 0)))), some (.inl a1_), some (.inl a2_), some (.inl ar_), some (.inl g_)], [.inl a1_, .inr (.inr (some (228, 0))), .inl g_], S_)) rfl ?_
    refine sm_T_iald (n := 4) rfl rfl (by omega) (by omega) ?_
    have bx1_ : 0 ≤ S_.2.2.1 228 0 a1_.toNat ∧ S_.2.2.1 228 0 a1_.toNat ≤ 150 := hI_.2 228 0 _
    refine sm_T_br (a := 3) (z := 24) rfl (fun cx2_ => ?_) (fun cx2_ => ?_)
    · have cx2_ : (S_.2.2.1 228 0 a1_.toNat) ≤ g_ := of_decide_eq_true cx2_
      refine sm_T_go 1 (c1 := (78, [some (.inr (.inr (some (13, 0)))), some (.inl a1_), some (.inl a2_), some (.inl ar_), some (.inl g_)], [.inl a2_], S_)) rfl ?_
      by_cases cx3_ : a2_ = 0
      · refine sm_T_sw (t := 120) rfl rfl (by rw [cx3_]; rfl) ?_
        refine sm_T_go 3 (c1 := (125, [some (.inr (.inr (some (13, 0)))), some (.inl a1_), some (.inl a2_), some (.inl ar_), some (.inl g_)], [.inl a1_, .inr (.inr (some (228, 0)))], S_)) rfl ?_
        refine sm_T_iald (n := 4) rfl rfl (by omega) (by omega) ?_
        refine sm_T_ri rfl ⟨_, _, rfl, _, rfl, hI_, hF_, ?_⟩
        exact ⟨⟨by omega, by omega⟩, jR_fr hJ_ hI_ hF_⟩
      by_cases cx4_ : a2_ = 1
      · refine sm_T_sw (t := 127) rfl rfl (by rw [cx4_]; rfl) ?_
        refine sm_T_go 2 (c1 := (129, [some (.inr (.inr (some (13, 0)))), some (.inl a1_), some (.inl a2_), some (.inl ar_), some (.inl g_)], [.inl a1_, .inr (.inr (some (13, 0)))], S_)) rfl ?_
        refine sm_T_cal (d1 := 0) (Q1 := vq_422 a1_ S_) rfl rfl (by decide) (vc_422 a1_ S_ hI_ (by omega)) (fun u_ Sx5_ px8_ => ?_)
        obtain ⟨rfl, vx10_, rfl, px8_⟩ := px8_
        refine sm_T_ri rfl ⟨_, _, rfl, _, rfl, hI_, hF_, ?_⟩
        exact ⟨⟨by omega, by omega⟩, jR_fr hJ_ hI_ hF_⟩
      by_cases cx11_ : a2_ = 2
      · refine sm_T_sw (t := 133) rfl rfl (by rw [cx11_]; rfl) ?_
        refine sm_T_go 3 (c1 := (138, [some (.inr (.inr (some (13, 0)))), some (.inl a1_), some (.inl a2_), some (.inl ar_), some (.inl g_)], [.inl a1_, .inr (.inr (some (224, 0)))], S_)) rfl ?_
        refine sm_T_iald (n := 4) rfl rfl (by omega) (by omega) ?_
        have bx12_ : 0 ≤ S_.2.2.1 224 0 a1_.toNat ∧ S_.2.2.1 224 0 a1_.toNat ≤ 6 := hI_.2 224 0 _
        refine sm_T_ri rfl ⟨_, _, rfl, _, rfl, hI_, hF_, ?_⟩
        exact ⟨⟨by omega, by omega⟩, jR_fr hJ_ hI_ hF_⟩
      by_cases cx13_ : a2_ = 3
      · refine sm_T_sw (t := 140) rfl rfl (by rw [cx13_]; rfl) ?_
        refine sm_T_go 1 (c1 := (141, [some (.inr (.inr (some (13, 0)))), some (.inl a1_), some (.inl a2_), some (.inl ar_), some (.inl g_)], [.inl ar_], S_)) rfl ?_
        refine sm_T_ri rfl ⟨_, _, rfl, _, rfl, hI_, hF_, ?_⟩
        exact ⟨⟨by omega, by omega⟩, jR_fr hJ_ hI_ hF_⟩
      by_cases cx14_ : a2_ = 4
      · refine sm_T_sw (t := 142) rfl rfl (by rw [cx14_]; rfl) ?_
        refine sm_T_go 2 (c1 := (144, [some (.inr (.inr (some (13, 0)))), some (.inl a1_), some (.inl a2_), some (.inl ar_), some (.inl g_)], [.inl a1_, .inr (.inr (some (13, 0)))], S_)) rfl ?_
        refine sm_T_cal (d1 := 0) (Q1 := vq_423 a1_ S_) rfl rfl (by decide) (vc_423 a1_ S_ hI_ (by omega)) (fun u_ Sx15_ px18_ => ?_)
        obtain ⟨rfl, vx20_, rfl, px18_⟩ := px18_
        refine sm_T_ri rfl ⟨_, _, rfl, _, rfl, hI_, hF_, ?_⟩
        exact ⟨⟨by omega, by omega⟩, jR_fr hJ_ hI_ hF_⟩
      by_cases cx21_ : a2_ = 5
      · refine sm_T_sw (t := 148) rfl rfl (by rw [cx21_]; rfl) ?_
        refine sm_T_go 3 (c1 := (153, [some (.inr (.inr (some (13, 0)))), some (.inl a1_), some (.inl a2_), some (.inl ar_), some (.inl g_)], [.inl a1_, .inr (.inr (some (240, 0)))], S_)) rfl ?_
        refine sm_T_iald (n := 4) rfl rfl (by omega) (by omega) ?_
        have bx22_ : 0 ≤ S_.2.2.1 240 0 a1_.toNat ∧ S_.2.2.1 240 0 a1_.toNat ≤ 12 := hI_.2 240 0 _
        refine sm_T_ri rfl ⟨_, _, rfl, _, rfl, hI_, hF_, ?_⟩
        exact ⟨⟨by omega, by omega⟩, jR_fr hJ_ hI_ hF_⟩
      by_cases cx23_ : a2_ = 6
      · refine sm_T_sw (t := 155) rfl rfl (by rw [cx23_]; rfl) ?_
        refine sm_T_go 3 (c1 := (160, [some (.inr (.inr (some (13, 0)))), some (.inl a1_), some (.inl a2_), some (.inl ar_), some (.inl g_)], [.inl a1_, .inr (.inr (some (240, 0)))], S_)) rfl ?_
        refine sm_T_iald (n := 4) rfl rfl (by omega) (by omega) ?_
        have bx24_ : 0 ≤ S_.2.2.1 240 0 a1_.toNat ∧ S_.2.2.1 240 0 a1_.toNat ≤ 12 := hI_.2 240 0 _
        refine sm_T_b0 (a := 5) (z := 11) rfl (fun cx25_ => ?_) (fun cx25_ => ?_)
        · have cx25_ : (S_.2.2.1 240 0 a1_.toNat) ≤ 0 := of_decide_eq_true cx25_
          refine sm_T_go 1 (c1 := (173, [some (.inr (.inr (some (13, 0)))), some (.inl a1_), some (.inl a2_), some (.inl ar_), some (.inl g_)], [.inl 0], S_)) rfl ?_
          refine sm_T_ri rfl ⟨_, _, rfl, _, rfl, hI_, hF_, ?_⟩
          exact ⟨⟨by omega, by omega⟩, jR_fr hJ_ hI_ hF_⟩
        · have cx25_ : ¬ ((S_.2.2.1 240 0 a1_.toNat) ≤ 0) := of_decide_eq_false cx25_
          refine sm_T_go 2 (c1 := (166, [some (.inr (.inr (some (13, 0)))), some (.inl a1_), some (.inl a2_), some (.inl ar_), some (.inl g_)], [.inl a1_, .inr (.inr (some (13, 0)))], S_)) rfl ?_
          refine sm_T_cal (d1 := 0) (Q1 := vq_424 a1_ S_) rfl rfl (by decide) (vc_424 a1_ S_ hI_ (by omega)) (fun u_ Sx26_ px29_ => ?_)
          obtain ⟨rfl, vx31_, rfl, px29_⟩ := px29_
          refine sm_T_go 1 (c1 := (173, [some (.inr (.inr (some (13, 0)))), some (.inl a1_), some (.inl a2_), some (.inl ar_), some (.inl g_)], [.inl vx31_], S_)) rfl ?_
          refine sm_T_ri rfl ⟨_, _, rfl, _, rfl, hI_, hF_, ?_⟩
          exact ⟨⟨by omega, by omega⟩, jR_fr hJ_ hI_ hF_⟩
      refine sm_T_sw (t := 174) rfl rfl (by (have hh_ : a2_ < 0 ∨ 7 ≤ a2_ := by omega); rcases hh_ with hh_ | hh_; (exact sm_swd (Or.inl hh_)); (exact sm_swd (Or.inr (by simp only [List.length_cons, List.length_nil]; omega)))) ?_
      refine sm_T_go 3 (c1 := (179, [some (.inr (.inr (some (13, 0)))), some (.inl a1_), some (.inl a2_), some (.inl ar_), some (.inl g_)], [.inl a1_, .inr (.inr (some (240, 0)))], S_)) rfl ?_
      refine sm_T_iald (n := 4) rfl rfl (by omega) (by omega) ?_
      have bx32_ : 0 ≤ S_.2.2.1 240 0 a1_.toNat ∧ S_.2.2.1 240 0 a1_.toNat ≤ 12 := hI_.2 240 0 _
      refine sm_T_b0 (a := 5) (z := 12) rfl (fun cx33_ => ?_) (fun cx33_ => ?_)
      · have cx33_ : (S_.2.2.1 240 0 a1_.toNat) ≤ 0 := of_decide_eq_true cx33_
        refine sm_T_go 1 (c1 := (193, [some (.inr (.inr (some (13, 0)))), some (.inl a1_), some (.inl a2_), some (.inl ar_), some (.inl g_)], [.inl 0], S_)) rfl ?_
        refine sm_T_ri rfl ⟨_, _, rfl, _, rfl, hI_, hF_, ?_⟩
        exact ⟨⟨by omega, by omega⟩, jR_fr hJ_ hI_ hF_⟩
      · have cx33_ : ¬ ((S_.2.2.1 240 0 a1_.toNat) ≤ 0) := of_decide_eq_false cx33_
        refine sm_T_go 3 (c1 := (188, [some (.inr (.inr (some (13, 0)))), some (.inl a1_), some (.inl a2_), some (.inl ar_), some (.inl g_)], [.inl a1_, .inr (.inr (some (239, 0)))], S_)) rfl ?_
        refine sm_T_iald (n := 4) rfl rfl (by omega) (by omega) ?_
        have bx34_ : 0 ≤ S_.2.2.1 239 0 a1_.toNat ∧ S_.2.2.1 239 0 a1_.toNat ≤ 60 := hI_.2 239 0 _
        refine sm_T_go 1 (c1 := (193, [some (.inr (.inr (some (13, 0)))), some (.inl a1_), some (.inl a2_), some (.inl ar_), some (.inl g_)], [.inl (S_.2.2.1 239 0 a1_.toNat)], S_)) rfl ?_
        refine sm_T_ri rfl ⟨_, _, rfl, _, rfl, hI_, hF_, ?_⟩
        exact ⟨⟨by omega, by omega⟩, jR_fr hJ_ hI_ hF_⟩
    · have cx2_ : ¬ ((S_.2.2.1 228 0 a1_.toNat) ≤ g_) := of_decide_eq_false cx2_
      refine sm_T_go 6 (c1 := (65, [some (.inr (.inr (some (13, 0)))), some (.inl a1_), some (.inl a2_), some (.inl ar_), some (.inl g_)], [.inl g_, .inl a1_, .inr (.inr (some (13, 0))), .inr (.inr (some (236, 0))), .inl ar_], S_)) rfl ?_
      refine sm_T_cal (d1 := 0) (Q1 := vq_421 a1_ g_ S_) rfl rfl (by decide) (vc_421 a1_ g_ S_ hI_ (by omega) (by omega)) (fun u_ Sx35_ px38_ => ?_)
      obtain ⟨rfl, vx40_, rfl, px38_⟩ := px38_
      refine sm_T_iald (n := 48) rfl rfl (by omega) (by omega) ?_
      have bx41_ : 0 ≤ S_.2.2.1 236 0 vx40_.toNat ∧ S_.2.2.1 236 0 vx40_.toNat ≤ 1000 := hI_.2 236 0 _
      refine sm_T_bin (w := (i_add ar_ (S_.2.2.1 236 0 vx40_.toNat))) rfl rfl ?_ -- pc_ 69
      have bx42_ := i_add_r ar_ (S_.2.2.1 236 0 vx40_.toNat)
      refine sm_T_go 1 (c1 := (71, [some (.inr (.inr (some (13, 0)))), some (.inl a1_), some (.inl a2_), some (.inl (i_add ar_ (S_.2.2.1 236 0 vx40_.toNat))), some (.inl g_)], [], S_)) rfl ?_
      refine sm_T_inc (a := 4) (z := 1) (v := g_) (w := g_ + 1) rfl rfl (by omega) (by omega) (by omega) ?_ -- pc_ 71
      refine sm_T_go 1 (c1 := (45, [some (.inr (.inr (some (13, 0)))), some (.inl a1_), some (.inl a2_), some (.inl (i_add ar_ (S_.2.2.1 236 0 vx40_.toNat))), some (.inl (g_ + 1))], [], S_)) rfl ?_
      refine ih_ (i_add ar_ (S_.2.2.1 236 0 vx40_.toNat)) (g_ + 1) S_ hI_ hF_ ⟨?_, trivial⟩ ?_
      · omega
      · omega
set_option maxHeartbeats 400000 in
set_option maxRecDepth 20000 in
theorem vc_425 {sc_ : Nat × (Nat → Int)} (a1_ : Int) (a2_ : Int) (S0_ : sm_S) (hI_ : gi S0_) (ha1_ : (-2147483648) ≤ a1_ ∧ a1_ ≤ 2147483647) (ha2_ : (-2147483648) ≤ a2_ ∧ a2_ ≤ 2147483647) (hJ_ : jR S0_) : sm_T (mt_P sc_) 2 425 (0, [some (.inr (.inr (some (13, 0)))), some (.inl a1_), some (.inl a2_), none, none], [], S0_) (fun ro9_ => ∃ u_ S1_, ro9_ = (.inl u_, S1_, 0) ∧ vq_425 a1_ a2_ S0_ u_ S1_) := by
  have hF_ : ai_fr (sx_W vw_425) S0_ S0_ := ai_fr_rf
  refine sm_T_go 3 (c1 := (3, [some (.inr (.inr (some (13, 0)))), some (.inl a1_), some (.inl a2_), none, none], [.inl a1_, .inr (.inr (some (13, 0))), .inr (.inr (some (13, 0)))], S0_)) rfl ?_
  refine sm_T_cal (d1 := 0) (Q1 := vq_371 a1_ S0_) rfl rfl (by decide) (vc_371 a1_ S0_ hI_ (by omega)) (fun u_ Sx1_ px4_ => ?_)
  obtain ⟨rfl, vx6_, rfl, px4_⟩ := px4_
  refine sm_T_b0 (a := 1) (z := 7) rfl (fun cx7_ => ?_) (fun cx7_ => ?_)
  · have cx7_ : vx6_ ≠ 0 := of_decide_eq_true cx7_
    refine sm_T_go 3 (c1 := (17, [some (.inr (.inr (some (13, 0)))), some (.inl a1_), some (.inl a2_), none, none], [.inl 7, .inl 0, .inl a2_, .inr (.inr (some (13, 0)))], S0_)) rfl ?_
    refine sm_T_cal (d1 := 0) (Q1 := vq_278 a2_ 0 7 S0_) rfl rfl (by decide) (vc_278 a2_ 0 7 S0_ hI_ ) (fun u_ Sx8_ px11_ => ?_)
    obtain ⟨rfl, vx13_, rfl, px11_⟩ := px11_
    refine sm_T_b0 (a := 1) (z := 7) rfl (fun cx14_ => ?_) (fun cx14_ => ?_)
    · have cx14_ : vx13_ ≠ 0 := of_decide_eq_true cx14_
      have hIx15_ : gi (sm_pI S0_ 13 0 0 0) := gi_pI hI_ (show 0 ≤ 0 ∧ 0 ≤ 4 from ⟨by omega, by omega⟩)
      have hFx16_ : ai_fr (sx_W vw_425) S0_ (sm_pI S0_ 13 0 0 0) := ai_fr_tr hF_ (ai_fr_pI rfl)
      refine sm_T_go 9 (c1 := (45, [some (.inr (.inr (some (13, 0)))), some (.inl a1_), some (.inl a2_), some (.inl 0), some (.inl 0)], [], sm_pI S0_ 13 0 0 0)) rfl ?_
      refine (vl_425 a1_ a2_ S0_ ha1_ ha2_ hJ_ _) 0 0 (sm_pI S0_ 13 0 0 0) hIx15_ hFx16_ ⟨?_, trivial⟩ (Nat.lt_succ_self _)
      · omega
    · have cx14_ : ¬ (vx13_ ≠ 0) := of_decide_eq_false cx14_
      have hIx17_ : gi (sm_pI S0_ 13 0 0 2) := gi_pI hI_ (show 0 ≤ 2 ∧ 2 ≤ 4 from ⟨by omega, by omega⟩)
      have hFx18_ : ai_fr (sx_W vw_425) S0_ (sm_pI S0_ 13 0 0 2) := ai_fr_tr hF_ (ai_fr_pI rfl)
      refine sm_T_go 7 (c1 := (39, [some (.inr (.inr (some (13, 0)))), some (.inl a1_), some (.inl a2_), none, none], [.inl 0], sm_pI S0_ 13 0 0 2)) rfl ?_
      refine sm_T_ri rfl ⟨_, _, rfl, _, rfl, hIx17_, hFx18_, ?_⟩
      exact ⟨⟨by omega, by omega⟩, jR_fr hJ_ hIx17_ hFx18_⟩
  · have cx7_ : ¬ (vx6_ ≠ 0) := of_decide_eq_false cx7_
    have hIx19_ : gi (sm_pI S0_ 13 0 0 1) := gi_pI hI_ (show 0 ≤ 1 ∧ 1 ≤ 4 from ⟨by omega, by omega⟩)
    have hFx20_ : ai_fr (sx_W vw_425) S0_ (sm_pI S0_ 13 0 0 1) := ai_fr_tr hF_ (ai_fr_pI rfl)
    refine sm_T_go 7 (c1 := (39, [some (.inr (.inr (some (13, 0)))), some (.inl a1_), some (.inl a2_), none, none], [.inl 0], sm_pI S0_ 13 0 0 1)) rfl ?_
    refine sm_T_ri rfl ⟨_, _, rfl, _, rfl, hIx19_, hFx20_, ?_⟩
    exact ⟨⟨by omega, by omega⟩, jR_fr hJ_ hIx19_ hFx20_⟩
/-! M_.gate -/
def vw_426 : sx_Wl := ([(13, 0)], [], [])
def vq_426 (a1_ : Int) (a2_ : Int) (a3_ : Int) (S0_ : sm_S) (u_ : Option sm_V) (S1_ : sm_S) : Prop := ∃ v_ : Int, u_ = some (.inl v_) ∧ gi S1_ ∧ ai_fr (sx_W vw_426) S0_ S1_ ∧ (((-2147483648) ≤ v_ ∧ v_ ≤ 2147483647) ∧ (jR S1_))
set_option maxHeartbeats 400000 in
set_option maxRecDepth 20000 in
theorem vc_426 {sc_ : Nat × (Nat → Int)} (a1_ : Int) (a2_ : Int) (a3_ : Int) (S0_ : sm_S) (hI_ : gi S0_) (ha1_ : (-2147483648) ≤ a1_ ∧ a1_ ≤ 2147483647) (ha2_ : (-2147483648) ≤ a2_ ∧ a2_ ≤ 2147483647) (ha3_ : (-2147483648) ≤ a3_ ∧ a3_ ≤ 2147483647) (hJ_ : jR S0_) : sm_T (mt_P sc_) 1 426 (0, [some (.inr (.inr (some (13, 0)))), some (.inl a1_), some (.inl a2_), some (.inl a3_)], [], S0_) (fun ro9_ => ∃ u_ S1_, ro9_ = (.inl u_, S1_, 0) ∧ vq_426 a1_ a2_ a3_ S0_ u_ S1_) := by
  have hF_ : ai_fr (sx_W vw_426) S0_ S0_ := ai_fr_rf
  refine sm_T_go 3 (c1 := (3, [some (.inr (.inr (some (13, 0)))), some (.inl a1_), some (.inl a2_), some (.inl a3_)], [.inl a1_, .inr (.inr (some (13, 0))), .inr (.inr (some (13, 0)))], S0_)) rfl ?_
  refine sm_T_cal (d1 := 0) (Q1 := vq_371 a1_ S0_) rfl rfl (by decide) (vc_371 a1_ S0_ hI_ (by omega)) (fun u_ Sx1_ px4_ => ?_)
  obtain ⟨rfl, vx6_, rfl, px4_⟩ := px4_
  refine sm_T_b0 (a := 0) (z := 17) rfl (fun cx7_ => ?_) (fun cx7_ => ?_)
  · have cx7_ : vx6_ = 0 := of_decide_eq_true cx7_
    have hIx8_ : gi (sm_pI S0_ 13 0 0 1) := gi_pI hI_ (show 0 ≤ 1 ∧ 1 ≤ 4 from ⟨by omega, by omega⟩)
    have hFx9_ : ai_fr (sx_W vw_426) S0_ (sm_pI S0_ 13 0 0 1) := ai_fr_tr hF_ (ai_fr_pI rfl)
    refine sm_T_go 7 (c1 := (52, [some (.inr (.inr (some (13, 0)))), some (.inl a1_), some (.inl a2_), some (.inl a3_)], [.inl 0], sm_pI S0_ 13 0 0 1)) rfl ?_
    refine sm_T_ri rfl ⟨_, _, rfl, _, rfl, hIx8_, hFx9_, ?_⟩
    refine ⟨⟨by omega, by omega⟩, jR_fr hJ_ hIx8_ hFx9_⟩
  · have cx7_ : ¬ (vx6_ = 0) := of_decide_eq_false cx7_
    refine sm_T_go 1 (c1 := (10, [some (.inr (.inr (some (13, 0)))), some (.inl a1_), some (.inl a2_), some (.inl a3_)], [.inl a2_, .inr (.inr (some (13, 0)))], S0_)) rfl ?_
    refine sm_T_b0 (a := 2) (z := 13) rfl (fun cx10_ => ?_) (fun cx10_ => ?_)
    · have cx10_ : a2_ < 0 := of_decide_eq_true cx10_
      have hIx11_ : gi (sm_pI S0_ 13 0 0 1) := gi_pI hI_ (show 0 ≤ 1 ∧ 1 ≤ 4 from ⟨by omega, by omega⟩)
      have hFx12_ : ai_fr (sx_W vw_426) S0_ (sm_pI S0_ 13 0 0 1) := ai_fr_tr hF_ (ai_fr_pI rfl)
      refine sm_T_go 7 (c1 := (52, [some (.inr (.inr (some (13, 0)))), some (.inl a1_), some (.inl a2_), some (.inl a3_)], [.inl 0], sm_pI S0_ 13 0 0 1)) rfl ?_
      refine sm_T_ri rfl ⟨_, _, rfl, _, rfl, hIx11_, hFx12_, ?_⟩
      refine ⟨⟨by omega, by omega⟩, jR_fr hJ_ hIx11_ hFx12_⟩
    · have cx10_ : ¬ (a2_ < 0) := of_decide_eq_false cx10_
      refine sm_T_go 4 (c1 := (19, [some (.inr (.inr (some (13, 0)))), some (.inl a1_), some (.inl a2_), some (.inl a3_)], [.inl a1_, .inr (.inr (some (228, 0))), .inl a2_, .inr (.inr (some (13, 0)))], S0_)) rfl ?_
      refine sm_T_iald (n := 4) rfl rfl (by omega) (by omega) ?_
      have bx13_ : 0 ≤ S0_.2.2.1 228 0 a1_.toNat ∧ S0_.2.2.1 228 0 a1_.toNat ≤ 150 := hI_.2 228 0 _
      refine sm_T_br (a := 2) (z := 7) rfl (fun cx14_ => ?_) (fun cx14_ => ?_)
      · have cx14_ : a2_ < (S0_.2.2.1 228 0 a1_.toNat) := of_decide_eq_true cx14_
        refine sm_T_go 3 (c1 := (30, [some (.inr (.inr (some (13, 0)))), some (.inl a1_), some (.inl a2_), some (.inl a3_)], [.inl 4, .inl 0, .inl a3_, .inr (.inr (some (13, 0)))], S0_)) rfl ?_
        refine sm_T_cal (d1 := 0) (Q1 := vq_278 a3_ 0 4 S0_) rfl rfl (by decide) (vc_278 a3_ 0 4 S0_ hI_ ) (fun u_ Sx15_ px18_ => ?_)
        obtain ⟨rfl, vx20_, rfl, px18_⟩ := px18_
        refine sm_T_b0 (a := 1) (z := 7) rfl (fun cx21_ => ?_) (fun cx21_ => ?_)
        · have cx21_ : vx20_ ≠ 0 := of_decide_eq_true cx21_
          have hIx22_ : gi (sm_pI S0_ 13 0 0 0) := gi_pI hI_ (show 0 ≤ 0 ∧ 0 ≤ 4 from ⟨by omega, by omega⟩)
          have hFx23_ : ai_fr (sx_W vw_426) S0_ (sm_pI S0_ 13 0 0 0) := ai_fr_tr hF_ (ai_fr_pI rfl)
          refine sm_T_go 6 (c1 := (54, [some (.inr (.inr (some (13, 0)))), some (.inl a1_), some (.inl a2_), some (.inl a3_)], [.inl a3_], sm_pI S0_ 13 0 0 0)) rfl ?_
          refine sm_T_b0 (a := 1) (z := 18) rfl (fun cx24_ => ?_) (fun cx24_ => ?_)
          · have cx24_ : a3_ ≠ 0 := of_decide_eq_true cx24_
            refine sm_T_go 2 (c1 := (74, [some (.inr (.inr (some (13, 0)))), some (.inl a1_), some (.inl a2_), some (.inl a3_)], [.inl 4, .inl a3_], sm_pI S0_ 13 0 0 0)) rfl ?_
            refine sm_T_br (a := 1) (z := 21) rfl (fun cx25_ => ?_) (fun cx25_ => ?_)
            · have cx25_ : a3_ ≠ 4 := of_decide_eq_true cx25_
              refine sm_T_go 5 (c1 := (104, [some (.inr (.inr (some (13, 0)))), some (.inl a1_), some (.inl a2_), some (.inl a3_)], [.inl a1_, .inl 150, .inl 3, .inr (.inr (some (230, 0)))], sm_pI S0_ 13 0 0 0)) rfl ?_
              refine sm_T_bin (w := 150 * a1_) rfl (bi_mul (by omega) (by omega) (by omega)) ?_ -- pc_ 104
              refine sm_T_go 1 (c1 := (106, [some (.inr (.inr (some (13, 0)))), some (.inl a1_), some (.inl a2_), some (.inl a3_)], [.inl a2_, .inl (150 * a1_), .inl 3, .inr (.inr (some (230, 0)))], sm_pI S0_ 13 0 0 0)) rfl ?_
              refine sm_T_bin (w := 150 * a1_ + a2_) rfl (bi_add (by omega) (by omega) (by omega)) ?_ -- pc_ 106
              refine sm_T_bin (w := 450 * a1_ + 3 * a2_) rfl (bi_mul (by omega) (by omega) (by omega)) ?_ -- pc_ 107
              refine sm_T_go 1 (c1 := (109, [some (.inr (.inr (some (13, 0)))), some (.inl a1_), some (.inl a2_), some (.inl a3_)], [.inl a3_, .inl (450 * a1_ + 3 * a2_), .inr (.inr (some (230, 0)))], sm_pI S0_ 13 0 0 0)) rfl ?_
              refine sm_T_bin (w := 450 * a1_ + 3 * a2_ + a3_) rfl (bi_add (by omega) (by omega) (by omega)) ?_ -- pc_ 109
              refine sm_T_go 1 (c1 := (111, [some (.inr (.inr (some (13, 0)))), some (.inl a1_), some (.inl a2_), some (.inl a3_)], [.inl 1, .inl (450 * a1_ + 3 * a2_ + a3_), .inr (.inr (some (230, 0)))], sm_pI S0_ 13 0 0 0)) rfl ?_
              refine sm_T_bin (w := 450 * a1_ + 3 * a2_ + a3_ - 1) rfl (bi_sub (by omega) (by omega) (by omega)) ?_ -- pc_ 111
              refine sm_T_iald (n := 1800) rfl rfl (by omega) (by omega) ?_
              have bx26_ : (-1) ≤ S0_.2.2.1 230 0 (450 * a1_ + 3 * a2_ + a3_ - 1).toNat ∧ S0_.2.2.1 230 0 (450 * a1_ + 3 * a2_ + a3_ - 1).toNat ≤ 161 := hI_.2 230 0 _
              refine sm_T_go 0 (c1 := (113, [some (.inr (.inr (some (13, 0)))), some (.inl a1_), some (.inl a2_), some (.inl a3_)], [.inl (S0_.2.2.1 230 0 (450 * a1_ + 3 * a2_ + a3_ - 1).toNat)], sm_pI S0_ 13 0 0 0)) rfl ?_
              refine sm_T_ri rfl ⟨_, _, rfl, _, rfl, hIx22_, hFx23_, ?_⟩
              refine ⟨⟨by omega, by omega⟩, jR_fr hJ_ hIx22_ hFx23_⟩
            · have cx25_ : ¬ (a3_ ≠ 4) := of_decide_eq_false cx25_
              refine sm_T_go 3 (c1 := (82, [some (.inr (.inr (some (13, 0)))), some (.inl a1_), some (.inl a2_), some (.inl a3_)], [.inl a1_, .inr (.inr (some (223, 0)))], sm_pI S0_ 13 0 0 0)) rfl ?_
              refine sm_T_iald (n := 4) rfl rfl (by omega) (by omega) ?_
              have bx27_ : 0 ≤ S0_.2.2.1 223 0 a1_.toNat ∧ S0_.2.2.1 223 0 a1_.toNat ≤ 12 := hI_.2 223 0 _
              refine sm_T_go 3 (c1 := (88, [some (.inr (.inr (some (13, 0)))), some (.inl a1_), some (.inl a2_), some (.inl a3_)], [.inl a1_, .inr (.inr (some (224, 0))), .inl (S0_.2.2.1 223 0 a1_.toNat)], sm_pI S0_ 13 0 0 0)) rfl ?_
              refine sm_T_iald (n := 4) rfl rfl (by omega) (by omega) ?_
              have bx28_ : 0 ≤ S0_.2.2.1 224 0 a1_.toNat ∧ S0_.2.2.1 224 0 a1_.toNat ≤ 6 := hI_.2 224 0 _
              refine sm_T_go 0 (c1 := (89, [some (.inr (.inr (some (13, 0)))), some (.inl a1_), some (.inl a2_), some (.inl a3_)], [.inl (S0_.2.2.1 224 0 a1_.toNat), .inl (S0_.2.2.1 223 0 a1_.toNat)], sm_pI S0_ 13 0 0 0)) rfl ?_
              refine sm_T_bin (w := (S0_.2.2.1 223 0 a1_.toNat) + (S0_.2.2.1 224 0 a1_.toNat)) rfl (bi_add (by omega) (by omega) (by omega)) ?_ -- pc_ 89
              refine sm_T_go 1 (c1 := (91, [some (.inr (.inr (some (13, 0)))), some (.inl a1_), some (.inl a2_), some (.inl a3_)], [.inl a2_, .inl ((S0_.2.2.1 223 0 a1_.toNat) + (S0_.2.2.1 224 0 a1_.toNat))], sm_pI S0_ 13 0 0 0)) rfl ?_
              refine sm_T_bin (w := (S0_.2.2.1 223 0 a1_.toNat) + (S0_.2.2.1 224 0 a1_.toNat) + a2_) rfl (bi_add (by omega) (by omega) (by omega)) ?_ -- pc_ 91
              refine sm_T_go 1 (c1 := (113, [some (.inr (.inr (some (13, 0)))), some (.inl a1_), some (.inl a2_), some (.inl a3_)], [.inl ((S0_.2.2.1 223 0 a1_.toNat) + (S0_.2.2.1 224 0 a1_.toNat) + a2_)], sm_pI S0_ 13 0 0 0)) rfl ?_
              refine sm_T_ri rfl ⟨_, _, rfl, _, rfl, hIx22_, hFx23_, ?_⟩
              refine ⟨⟨by omega, by omega⟩, jR_fr hJ_ hIx22_ hFx23_⟩
          · have cx24_ : ¬ (a3_ ≠ 0) := of_decide_eq_false cx24_
            refine sm_T_go 4 (c1 := (65, [some (.inr (.inr (some (13, 0)))), some (.inl a1_), some (.inl a2_), some (.inl a3_)], [.inl a1_, .inl 150, .inr (.inr (some (229, 0)))], sm_pI S0_ 13 0 0 0)) rfl ?_
            refine sm_T_bin (w := 150 * a1_) rfl (bi_mul (by omega) (by omega) (by omega)) ?_ -- pc_ 65
            refine sm_T_go 1 (c1 := (67, [some (.inr (.inr (some (13, 0)))), some (.inl a1_), some (.inl a2_), some (.inl a3_)], [.inl a2_, .inl (150 * a1_), .inr (.inr (some (229, 0)))], sm_pI S0_ 13 0 0 0)) rfl ?_
            refine sm_T_bin (w := 150 * a1_ + a2_) rfl (bi_add (by omega) (by omega) (by omega)) ?_ -- pc_ 67
            refine sm_T_iald (n := 600) rfl rfl (by omega) (by omega) ?_
            have bx29_ : 0 ≤ S0_.2.2.1 229 0 (150 * a1_ + a2_).toNat ∧ S0_.2.2.1 229 0 (150 * a1_ + a2_).toNat ≤ 11 := hI_.2 229 0 _
            refine sm_T_go 1 (c1 := (113, [some (.inr (.inr (some (13, 0)))), some (.inl a1_), some (.inl a2_), some (.inl a3_)], [.inl (S0_.2.2.1 229 0 (150 * a1_ + a2_).toNat)], sm_pI S0_ 13 0 0 0)) rfl ?_
            refine sm_T_ri rfl ⟨_, _, rfl, _, rfl, hIx22_, hFx23_, ?_⟩
            refine ⟨⟨by omega, by omega⟩, jR_fr hJ_ hIx22_ hFx23_⟩
        · have cx21_ : ¬ (vx20_ ≠ 0) := of_decide_eq_false cx21_
          have hIx30_ : gi (sm_pI S0_ 13 0 0 2) := gi_pI hI_ (show 0 ≤ 2 ∧ 2 ≤ 4 from ⟨by omega, by omega⟩)
          have hFx31_ : ai_fr (sx_W vw_426) S0_ (sm_pI S0_ 13 0 0 2) := ai_fr_tr hF_ (ai_fr_pI rfl)
          refine sm_T_go 7 (c1 := (52, [some (.inr (.inr (some (13, 0)))), some (.inl a1_), some (.inl a2_), some (.inl a3_)], [.inl 0], sm_pI S0_ 13 0 0 2)) rfl ?_
          refine sm_T_ri rfl ⟨_, _, rfl, _, rfl, hIx30_, hFx31_, ?_⟩
          refine ⟨⟨by omega, by omega⟩, jR_fr hJ_ hIx30_ hFx31_⟩
      · have cx14_ : ¬ (a2_ < (S0_.2.2.1 228 0 a1_.toNat)) := of_decide_eq_false cx14_
        have hIx32_ : gi (sm_pI S0_ 13 0 0 1) := gi_pI hI_ (show 0 ≤ 1 ∧ 1 ≤ 4 from ⟨by omega, by omega⟩)
        have hFx33_ : ai_fr (sx_W vw_426) S0_ (sm_pI S0_ 13 0 0 1) := ai_fr_tr hF_ (ai_fr_pI rfl)
        refine sm_T_go 7 (c1 := (52, [some (.inr (.inr (some (13, 0)))), some (.inl a1_), some (.inl a2_), some (.inl a3_)], [.inl 0], sm_pI S0_ 13 0 0 1)) rfl ?_
        refine sm_T_ri rfl ⟨_, _, rfl, _, rfl, hIx32_, hFx33_, ?_⟩
        refine ⟨⟨by omega, by omega⟩, jR_fr hJ_ hIx32_ hFx33_⟩
/-! M_.netOf -/
def vw_427 : sx_Wl := ([(13, 0)], [], [])
def vq_427 (a1_ : Int) (a2_ : Int) (a3_ : Int) (S0_ : sm_S) (u_ : Option sm_V) (S1_ : sm_S) : Prop := ∃ v_ : Int, u_ = some (.inl v_) ∧ gi S1_ ∧ ai_fr (sx_W vw_427) S0_ S1_ ∧ (((-2147483648) ≤ v_ ∧ v_ ≤ 2147483647) ∧ (jR S1_))
set_option maxHeartbeats 400000 in
set_option maxRecDepth 20000 in
theorem vc_427 {sc_ : Nat × (Nat → Int)} (a1_ : Int) (a2_ : Int) (a3_ : Int) (S0_ : sm_S) (hI_ : gi S0_) (ha1_ : (-2147483648) ≤ a1_ ∧ a1_ ≤ 2147483647) (ha2_ : (-2147483648) ≤ a2_ ∧ a2_ ≤ 2147483647) (ha3_ : (-2147483648) ≤ a3_ ∧ a3_ ≤ 2147483647) (hJ_ : jR S0_) : sm_T (mt_P sc_) 1 427 (0, [some (.inr (.inr (some (13, 0)))), some (.inl a1_), some (.inl a2_), some (.inl a3_)], [], S0_) (fun ro9_ => ∃ u_ S1_, ro9_ = (.inl u_, S1_, 0) ∧ vq_427 a1_ a2_ a3_ S0_ u_ S1_) := by
  have hF_ : ai_fr (sx_W vw_427) S0_ S0_ := ai_fr_rf
  refine sm_T_go 3 (c1 := (3, [some (.inr (.inr (some (13, 0)))), some (.inl a1_), some (.inl a2_), some (.inl a3_)], [.inl a1_, .inr (.inr (some (13, 0))), .inr (.inr (some (13, 0)))], S0_)) rfl ?_
  refine sm_T_cal (d1 := 0) (Q1 := vq_371 a1_ S0_) rfl rfl (by decide) (vc_371 a1_ S0_ hI_ (by omega)) (fun u_ Sx1_ px4_ => ?_)
  obtain ⟨rfl, vx6_, rfl, px4_⟩ := px4_
  refine sm_T_b0 (a := 0) (z := 30) rfl (fun cx7_ => ?_) (fun cx7_ => ?_)
  · have cx7_ : vx6_ = 0 := of_decide_eq_true cx7_
    have hIx8_ : gi (sm_pI S0_ 13 0 0 1) := gi_pI hI_ (show 0 ≤ 1 ∧ 1 ≤ 4 from ⟨by omega, by omega⟩)
    have hFx9_ : ai_fr (sx_W vw_427) S0_ (sm_pI S0_ 13 0 0 1) := ai_fr_tr hF_ (ai_fr_pI rfl)
    refine sm_T_go 7 (c1 := (52, [some (.inr (.inr (some (13, 0)))), some (.inl a1_), some (.inl a2_), some (.inl a3_)], [.inl 0], sm_pI S0_ 13 0 0 1)) rfl ?_
    refine sm_T_ri rfl ⟨_, _, rfl, _, rfl, hIx8_, hFx9_, ?_⟩
    refine ⟨⟨by omega, by omega⟩, jR_fr hJ_ hIx8_ hFx9_⟩
  · have cx7_ : ¬ (vx6_ = 0) := of_decide_eq_false cx7_
    refine sm_T_go 1 (c1 := (10, [some (.inr (.inr (some (13, 0)))), some (.inl a1_), some (.inl a2_), some (.inl a3_)], [.inl a2_, .inr (.inr (some (13, 0)))], S0_)) rfl ?_
    refine sm_T_b0 (a := 2) (z := 26) rfl (fun cx10_ => ?_) (fun cx10_ => ?_)
    · have cx10_ : a2_ < 0 := of_decide_eq_true cx10_
      have hIx11_ : gi (sm_pI S0_ 13 0 0 1) := gi_pI hI_ (show 0 ≤ 1 ∧ 1 ≤ 4 from ⟨by omega, by omega⟩)
      have hFx12_ : ai_fr (sx_W vw_427) S0_ (sm_pI S0_ 13 0 0 1) := ai_fr_tr hF_ (ai_fr_pI rfl)
      refine sm_T_go 7 (c1 := (52, [some (.inr (.inr (some (13, 0)))), some (.inl a1_), some (.inl a2_), some (.inl a3_)], [.inl 0], sm_pI S0_ 13 0 0 1)) rfl ?_
      refine sm_T_ri rfl ⟨_, _, rfl, _, rfl, hIx11_, hFx12_, ?_⟩
      refine ⟨⟨by omega, by omega⟩, jR_fr hJ_ hIx11_ hFx12_⟩
    · have cx10_ : ¬ (a2_ < 0) := of_decide_eq_false cx10_
      refine sm_T_go 2 (c1 := (15, [some (.inr (.inr (some (13, 0)))), some (.inl a1_), some (.inl a2_), some (.inl a3_)], [.inl a3_, .inl a2_, .inr (.inr (some (13, 0)))], S0_)) rfl ?_
      refine sm_T_b0 (a := 0) (z := 12) rfl (fun cx13_ => ?_) (fun cx13_ => ?_)
      · have cx13_ : a3_ = 0 := of_decide_eq_true cx13_
        refine sm_T_go 3 (c1 := (32, [some (.inr (.inr (some (13, 0)))), some (.inl a1_), some (.inl a2_), some (.inl a3_)], [.inl a1_, .inr (.inr (some (225, 0))), .inl a2_, .inr (.inr (some (13, 0)))], S0_)) rfl ?_
        refine sm_T_iald (n := 4) rfl rfl (by omega) (by omega) ?_
        have bx14_ : 0 ≤ S0_.2.2.1 225 0 a1_.toNat ∧ S0_.2.2.1 225 0 a1_.toNat ≤ 16 := hI_.2 225 0 _
        refine sm_T_br (a := 2) (z := 7) rfl (fun cx15_ => ?_) (fun cx15_ => ?_)
        · have cx15_ : a2_ < (S0_.2.2.1 225 0 a1_.toNat) := of_decide_eq_true cx15_
          have hIx16_ : gi (sm_pI S0_ 13 0 0 0) := gi_pI hI_ (show 0 ≤ 0 ∧ 0 ≤ 4 from ⟨by omega, by omega⟩)
          have hFx17_ : ai_fr (sx_W vw_427) S0_ (sm_pI S0_ 13 0 0 0) := ai_fr_tr hF_ (ai_fr_pI rfl)
          refine sm_T_go 6 (c1 := (54, [some (.inr (.inr (some (13, 0)))), some (.inl a1_), some (.inl a2_), some (.inl a3_)], [.inl a3_], sm_pI S0_ 13 0 0 0)) rfl ?_
          refine sm_T_b0 (a := 0) (z := 17) rfl (fun cx18_ => ?_) (fun cx18_ => ?_)
          · have cx18_ : a3_ = 0 := of_decide_eq_true cx18_
            refine sm_T_go 4 (c1 := (78, [some (.inr (.inr (some (13, 0)))), some (.inl a1_), some (.inl a2_), some (.inl a3_)], [.inl a1_, .inl 16, .inr (.inr (some (231, 0)))], sm_pI S0_ 13 0 0 0)) rfl ?_
            refine sm_T_bin (w := 16 * a1_) rfl (bi_mul (by omega) (by omega) (by omega)) ?_ -- pc_ 78
            refine sm_T_go 1 (c1 := (80, [some (.inr (.inr (some (13, 0)))), some (.inl a1_), some (.inl a2_), some (.inl a3_)], [.inl a2_, .inl (16 * a1_), .inr (.inr (some (231, 0)))], sm_pI S0_ 13 0 0 0)) rfl ?_
            refine sm_T_bin (w := 16 * a1_ + a2_) rfl (bi_add (by omega) (by omega) (by omega)) ?_ -- pc_ 80
            refine sm_T_iald (n := 64) rfl rfl (by omega) (by omega) ?_
            have bx19_ : (-2) ≤ S0_.2.2.1 231 0 (16 * a1_ + a2_).toNat ∧ S0_.2.2.1 231 0 (16 * a1_ + a2_).toNat ≤ 9000 := hI_.2 231 0 _
            refine sm_T_go 0 (c1 := (82, [some (.inr (.inr (some (13, 0)))), some (.inl a1_), some (.inl a2_), some (.inl a3_)], [.inl (S0_.2.2.1 231 0 (16 * a1_ + a2_).toNat)], sm_pI S0_ 13 0 0 0)) rfl ?_
            refine sm_T_ri rfl ⟨_, _, rfl, _, rfl, hIx16_, hFx17_, ?_⟩
            refine ⟨⟨by omega, by omega⟩, jR_fr hJ_ hIx16_ hFx17_⟩
          · have cx18_ : ¬ (a3_ = 0) := of_decide_eq_false cx18_
            exfalso; omega
        · have cx15_ : ¬ (a2_ < (S0_.2.2.1 225 0 a1_.toNat)) := of_decide_eq_false cx15_
          have hIx20_ : gi (sm_pI S0_ 13 0 0 1) := gi_pI hI_ (show 0 ≤ 1 ∧ 1 ≤ 4 from ⟨by omega, by omega⟩)
          have hFx21_ : ai_fr (sx_W vw_427) S0_ (sm_pI S0_ 13 0 0 1) := ai_fr_tr hF_ (ai_fr_pI rfl)
          refine sm_T_go 7 (c1 := (52, [some (.inr (.inr (some (13, 0)))), some (.inl a1_), some (.inl a2_), some (.inl a3_)], [.inl 0], sm_pI S0_ 13 0 0 1)) rfl ?_
          refine sm_T_ri rfl ⟨_, _, rfl, _, rfl, hIx20_, hFx21_, ?_⟩
          refine ⟨⟨by omega, by omega⟩, jR_fr hJ_ hIx20_ hFx21_⟩
      · have cx13_ : ¬ (a3_ = 0) := of_decide_eq_false cx13_
        refine sm_T_go 3 (c1 := (23, [some (.inr (.inr (some (13, 0)))), some (.inl a1_), some (.inl a2_), some (.inl a3_)], [.inl a1_, .inr (.inr (some (224, 0))), .inl a2_, .inr (.inr (some (13, 0)))], S0_)) rfl ?_
        refine sm_T_iald (n := 4) rfl rfl (by omega) (by omega) ?_
        have bx22_ : 0 ≤ S0_.2.2.1 224 0 a1_.toNat ∧ S0_.2.2.1 224 0 a1_.toNat ≤ 6 := hI_.2 224 0 _
        refine sm_T_go 1 (c1 := (33, [some (.inr (.inr (some (13, 0)))), some (.inl a1_), some (.inl a2_), some (.inl a3_)], [.inl (S0_.2.2.1 224 0 a1_.toNat), .inl a2_, .inr (.inr (some (13, 0)))], S0_)) rfl ?_
        refine sm_T_br (a := 2) (z := 7) rfl (fun cx23_ => ?_) (fun cx23_ => ?_)
        · have cx23_ : a2_ < (S0_.2.2.1 224 0 a1_.toNat) := of_decide_eq_true cx23_
          have hIx24_ : gi (sm_pI S0_ 13 0 0 0) := gi_pI hI_ (show 0 ≤ 0 ∧ 0 ≤ 4 from ⟨by omega, by omega⟩)
          have hFx25_ : ai_fr (sx_W vw_427) S0_ (sm_pI S0_ 13 0 0 0) := ai_fr_tr hF_ (ai_fr_pI rfl)
          refine sm_T_go 6 (c1 := (54, [some (.inr (.inr (some (13, 0)))), some (.inl a1_), some (.inl a2_), some (.inl a3_)], [.inl a3_], sm_pI S0_ 13 0 0 0)) rfl ?_
          refine sm_T_b0 (a := 0) (z := 17) rfl (fun cx26_ => ?_) (fun cx26_ => ?_)
          · have cx26_ : a3_ = 0 := of_decide_eq_true cx26_
            refine sm_T_go 4 (c1 := (78, [some (.inr (.inr (some (13, 0)))), some (.inl a1_), some (.inl a2_), some (.inl a3_)], [.inl a1_, .inl 16, .inr (.inr (some (231, 0)))], sm_pI S0_ 13 0 0 0)) rfl ?_
            refine sm_T_bin (w := 16 * a1_) rfl (bi_mul (by omega) (by omega) (by omega)) ?_ -- pc_ 78
            refine sm_T_go 1 (c1 := (80, [some (.inr (.inr (some (13, 0)))), some (.inl a1_), some (.inl a2_), some (.inl a3_)], [.inl a2_, .inl (16 * a1_), .inr (.inr (some (231, 0)))], sm_pI S0_ 13 0 0 0)) rfl ?_
            refine sm_T_bin (w := 16 * a1_ + a2_) rfl (bi_add (by omega) (by omega) (by omega)) ?_ -- pc_ 80
            refine sm_T_iald (n := 64) rfl rfl (by omega) (by omega) ?_
            have bx27_ : (-2) ≤ S0_.2.2.1 231 0 (16 * a1_ + a2_).toNat ∧ S0_.2.2.1 231 0 (16 * a1_ + a2_).toNat ≤ 9000 := hI_.2 231 0 _
            refine sm_T_go 0 (c1 := (82, [some (.inr (.inr (some (13, 0)))), some (.inl a1_), some (.inl a2_), some (.inl a3_)], [.inl (S0_.2.2.1 231 0 (16 * a1_ + a2_).toNat)], sm_pI S0_ 13 0 0 0)) rfl ?_
            refine sm_T_ri rfl ⟨_, _, rfl, _, rfl, hIx24_, hFx25_, ?_⟩
            refine ⟨⟨by omega, by omega⟩, jR_fr hJ_ hIx24_ hFx25_⟩
          · have cx26_ : ¬ (a3_ = 0) := of_decide_eq_false cx26_
            refine sm_T_go 4 (c1 := (64, [some (.inr (.inr (some (13, 0)))), some (.inl a1_), some (.inl a2_), some (.inl a3_)], [.inl a1_, .inl 6, .inr (.inr (some (232, 0)))], sm_pI S0_ 13 0 0 0)) rfl ?_
            refine sm_T_bin (w := 6 * a1_) rfl (bi_mul (by omega) (by omega) (by omega)) ?_ -- pc_ 64
            refine sm_T_go 1 (c1 := (66, [some (.inr (.inr (some (13, 0)))), some (.inl a1_), some (.inl a2_), some (.inl a3_)], [.inl a2_, .inl (6 * a1_), .inr (.inr (some (232, 0)))], sm_pI S0_ 13 0 0 0)) rfl ?_
            refine sm_T_bin (w := 6 * a1_ + a2_) rfl (bi_add (by omega) (by omega) (by omega)) ?_ -- pc_ 66
            refine sm_T_iald (n := 24) rfl rfl (by omega) (by omega) ?_
            have bx28_ : (-2) ≤ S0_.2.2.1 232 0 (6 * a1_ + a2_).toNat ∧ S0_.2.2.1 232 0 (6 * a1_ + a2_).toNat ≤ 9000 := hI_.2 232 0 _
            refine sm_T_go 1 (c1 := (82, [some (.inr (.inr (some (13, 0)))), some (.inl a1_), some (.inl a2_), some (.inl a3_)], [.inl (S0_.2.2.1 232 0 (6 * a1_ + a2_).toNat)], sm_pI S0_ 13 0 0 0)) rfl ?_
            refine sm_T_ri rfl ⟨_, _, rfl, _, rfl, hIx24_, hFx25_, ?_⟩
            refine ⟨⟨by omega, by omega⟩, jR_fr hJ_ hIx24_ hFx25_⟩
        · have cx23_ : ¬ (a2_ < (S0_.2.2.1 224 0 a1_.toNat)) := of_decide_eq_false cx23_
          have hIx29_ : gi (sm_pI S0_ 13 0 0 1) := gi_pI hI_ (show 0 ≤ 1 ∧ 1 ≤ 4 from ⟨by omega, by omega⟩)
          have hFx30_ : ai_fr (sx_W vw_427) S0_ (sm_pI S0_ 13 0 0 1) := ai_fr_tr hF_ (ai_fr_pI rfl)
          refine sm_T_go 7 (c1 := (52, [some (.inr (.inr (some (13, 0)))), some (.inl a1_), some (.inl a2_), some (.inl a3_)], [.inl 0], sm_pI S0_ 13 0 0 1)) rfl ?_
          refine sm_T_ri rfl ⟨_, _, rfl, _, rfl, hIx29_, hFx30_, ?_⟩
          refine ⟨⟨by omega, by omega⟩, jR_fr hJ_ hIx29_ hFx30_⟩
/-! M_.forgetLeast -/
/-! M_.alter -/
end
