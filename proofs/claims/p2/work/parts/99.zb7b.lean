/-! Builder.execute -/
def vw_36 : sx_Wl := ([(1, 3), (1, 6), (1, 8), (1, 9), (3, 4), (3, 5)], [26, 27, 28, 29, 42, 43, 46], [])
def vq_36 (m_ : Int) (f_ : Int) (dp_ : Int) (tb_ : Nat → Int) (tn_ : Nat) (A_ : pA) (C_ : Nat → List Int) (mm_ : Nat) (ff_ : Nat) (dd_ : Nat) (F_ : Nat) (I_ : Nat) (q_ : gQ) (e_ : gE) (r_ : gQ × gE) (nf_ : Nat) (S0_ : sm_S) (u_ : Option sm_V) (S1_ : sm_S) : Prop := u_ = none ∧ gi S1_ ∧ ai_fr (sx_W vw_36) S0_ S1_ ∧ (idf dd_ S0_ S1_ ∧ (cgl dd_ F_ r_.1.1 S1_ ∧ (imq (r_.1.1.length ≤ 1000) (cxo dd_ ff_ q_ r_ S1_ ∧ fun_ ff_ q_.2.2 (S0_.2.2.1 26 0) (S1_.2.2.1 26 0)))))
set_option maxHeartbeats 2000000 in
theorem vl_36 {sc_ : Nat × (Nat → Int)} (m_ : Int) (f_ : Int) (dp_ : Int) (tb_ : Nat → Int) (tn_ : Nat) (A_ : pA) (C_ : Nat → List Int) (mm_ : Nat) (ff_ : Nat) (dd_ : Nat) (F_ : Nat) (I_ : Nat) (q_ : gQ) (e_ : gE) (r_ : gQ × gE) (nf_ : Nat) (S0_ : sm_S) (hI0_ : gi S0_) (hd_ : S0_.2.1 1 0 1 = some dd_) (hm1_ : m_ = (mm_ : Int) ∧ mm_ ≤ 15) (hf1_ : f_ = (ff_ : Int)) (hdp_ : 0 ≤ dp_ ∧ dp_ + mm_ ≤ 15) (her_ : ∀ k9_, k9_ ≤ mm_ → er1 tb_ tn_ A_ k9_ S0_) (hA_ : a_ok tb_ tn_ A_ mm_) (hC_ : ccd C_ mm_ S0_) (hx_ : cxs dd_ F_ I_ ff_ q_.2.2 (q_, e_, fun _ => none, []) S0_) (hok_ : q_.1.length ≤ 1000) (hRF_ : 1 + I_ + r_.1.2.1 ≤ F_) (hG_ : gwf F_ q_.1) (hlw_ : ∀ a9_, lwl (F_ + q_.1.length) (e_ a9_)) (he_ : exm F_ I_ A_ C_ (nf_ + 1) mm_ q_ e_ = some r_) (ihx_ : ∀ (m_ f_ dp_ : Int) (tb_ : Nat → Int) (tn_ : Nat) (A_ : pA) (C_ : Nat → List Int) (mm_ : Nat) (ff_ : Nat) (dd_ : Nat) (F_ : Nat) (I_ : Nat) (q_ : gQ) (e_ : gE) (r_ : gQ × gE) (nz : Nat) (S0_ : sm_S) (hI_ : gi S0_) (hI0_ : gi S0_) (hd_ : S0_.2.1 1 0 1 = some dd_) (hm1_ : m_ = (mm_ : Int) ∧ mm_ ≤ 15) (hf1_ : f_ = (ff_ : Int)) (hdp_ : 0 ≤ dp_ ∧ dp_ + mm_ ≤ 15) (her_ : ∀ k9_, k9_ ≤ mm_ → er1 tb_ tn_ A_ k9_ S0_) (hA_ : a_ok tb_ tn_ A_ mm_) (hC_ : ccd C_ mm_ S0_) (hx_ : cxs dd_ F_ I_ ff_ q_.2.2 (q_, e_, fun _ => none, []) S0_) (hok_ : q_.1.length ≤ 1000) (hRF_ : 1 + I_ + r_.1.2.1 ≤ F_) (hG_ : gwf F_ q_.1) (hlw_ : ∀ a9_, lwl (F_ + q_.1.length) (e_ a9_)) (he_ : exm F_ I_ A_ C_ nf_ mm_ q_ e_ = some r_), sm_T (mt_P sc_) (nf_ + 10) 36 (0, [some (.inr (.inr (some (1, 0)))), some (.inl m_), some (.inl f_), some (.inl dp_), none, none, none, none, none, none], [], S0_) (fun r9_ => ∃ u_ S1_, r9_ = (.inl u_, S1_, 0) ∧ vq_36 m_ f_ dp_ tb_ tn_ A_ C_ mm_ ff_ dd_ F_ I_ q_ e_ r_ nz S0_ u_ S1_)) : ∀ nn_ : Nat, (∀ (to_ : Int) (pc_ : Int) (S_ : sm_S), gi S_ → ai_fr (sx_W vw_36) S0_ S_ → ((0 ≤ pc_ ∧ pc_ ≤ to_ ∧ to_ ≤ 65536) ∧ (∃ (s_ s9_ : gS) (c_ : List Int), ec F_ I_ A_ (exm F_ I_ A_ C_ nf_) mm_ c_ s_ = some s9_ ∧ s9_.2.2.2 = [] ∧ r_ = (s9_.1, s9_.2.1) ∧ pc_ + c_.length = to_ ∧ rwv (S0_.2.2.1 74 0) pc_.toNat c_ ∧ cgl dd_ F_ s_.1.1 S_ ∧ (imq (s_.1.1.length ≤ 1000) (cxs dd_ F_ I_ ff_ q_.2.2 s_ S_ ∧ fun_ ff_ q_.2.2 (S0_.2.2.1 26 0) (S_.2.2.1 26 0) ∧ lwS F_ s_))) ∧ (idf dd_ S0_ S_) ∧ True) → ((to_ - pc_).toNat) < nn_ → sm_T (mt_P sc_) (nf_ + 1 + 10) 36 (24, [some (.inr (.inr (some (1, 0)))), some (.inl m_), some (.inl f_), some (.inl dp_), some (.inl to_), some (.inl pc_), none, none, none, none], [], S_) (fun ro9_ => ∃ u_ S1_, ro9_ = (.inl u_, S1_, 0) ∧ vq_36 m_ f_ dp_ tb_ tn_ A_ C_ mm_ ff_ dd_ F_ I_ q_ e_ r_ nf_ S0_ u_ S1_)) := by
  intro nn_
  induction nn_ with
  | zero => exact fun _ _ _ _ _ _ h_ => absurd h_ (Nat.not_lt_zero _)
  | succ nn_ ih_ =>
    rintro to_ pc_ S_ hI_ hF_ ⟨h0_, h1_, hD_, -⟩ hm_
    obtain ⟨s_, s9_, c_, z1_, z2_, z3_, z4_, z5_, z6_, z7_⟩ := h1_
    refine sm_T_go 2 (c1 := (28, [some (.inr (.inr (some (1, 0)))), some (.inl m_), some (.inl f_), some (.inl dp_), some (.inl to_), some (.inl pc_), none, none, none, none], [.inl to_, .inl pc_], S_)) rfl ?_
    refine sm_T_br (a := 3) (z := 137) rfl (fun cx1_ => ?_) (fun cx1_ => ?_)
    · have cx1_ : to_ ≤ pc_ := of_decide_eq_true cx1_
      refine sm_T_rv rfl ⟨_, _, rfl, rfl, hI_, hF_, ?_⟩
      refine ⟨hD_, ?_⟩
      first | (have c0_ : c_ = [] := List.eq_nil_of_length_eq_zero (by omega); subst c0_; have es9_ : s_ = s9_ := Option.some.inj z1_; subst es9_; rw [z3_]; refine ⟨z6_, fun z9_ => ?_⟩; obtain ⟨cx_, cf_, -⟩ := z7_ z9_; refine ⟨⟨cx_.2.2.2.2.2.2.2.2.2, cx_.2.1, cx_.2.2.1, cx_.2.2.2.1, cx_.2.2.2.2.2.1, ?_, cx_.2.2.2.2.2.2.1.1⟩, cf_⟩; have q9_ := cx_.2.2.2.2.2.2.2.1.1; rw [z2_] at q9_; exact q9_) | (have nok_ : 1000 < s_.1.1.length := (by by_cases z9_ : s_.1.1.length ≤ 1000; (exact absurd ((cgl_f z6_).1.mpr z9_) (by omega)); omega); have le9_ := ec_le (fun d9_ q9_ e9_ x9_ => exm_le nf_ d9_ q9_ e9_ x9_) c_ s_ s9_ z1_; rw [z3_]; refine ⟨cgl_big z6_ nok_ (by show 1000 < s9_.1.1.length; omega), fun z9_ => absurd z9_ (by show ¬ s9_.1.1.length ≤ 1000; omega)⟩)
    · have cx1_ : ¬ (to_ ≤ pc_) := of_decide_eq_false cx1_
      have bx2_ : 0 ≤ S_.1 1 0 8 ∧ S_.1 1 0 8 ≤ 1 := hI_.1 1 0 8 rfl
      refine sm_T_go 2 (c1 := (35, [some (.inr (.inr (some (1, 0)))), some (.inl m_), some (.inl f_), some (.inl dp_), some (.inl to_), some (.inl pc_), none, none, none, none], [.inl (S_.1 1 0 8)], S_)) rfl ?_
      refine sm_T_b0 (a := 1) (z := 130) rfl (fun cx3_ => ?_) (fun cx3_ => ?_)
      · have cx3_ : (S_.1 1 0 8) ≠ 0 := of_decide_eq_true cx3_
        refine sm_T_rv rfl ⟨_, _, rfl, rfl, hI_, hF_, ?_⟩
        refine ⟨hD_, ?_⟩
        first | (have c0_ : c_ = [] := List.eq_nil_of_length_eq_zero (by omega); subst c0_; have es9_ : s_ = s9_ := Option.some.inj z1_; subst es9_; rw [z3_]; refine ⟨z6_, fun z9_ => ?_⟩; obtain ⟨cx_, cf_, -⟩ := z7_ z9_; refine ⟨⟨cx_.2.2.2.2.2.2.2.2.2, cx_.2.1, cx_.2.2.1, cx_.2.2.2.1, cx_.2.2.2.2.2.1, ?_, cx_.2.2.2.2.2.2.1.1⟩, cf_⟩; have q9_ := cx_.2.2.2.2.2.2.2.1.1; rw [z2_] at q9_; exact q9_) | (have nok_ : 1000 < s_.1.1.length := (by by_cases z9_ : s_.1.1.length ≤ 1000; (exact absurd ((cgl_f z6_).1.mpr z9_) (by omega)); omega); have le9_ := ec_le (fun d9_ q9_ e9_ x9_ => exm_le nf_ d9_ q9_ e9_ x9_) c_ s_ s9_ z1_; rw [z3_]; refine ⟨cgl_big z6_ nok_ (by show 1000 < s9_.1.1.length; omega), fun z9_ => absurd z9_ (by show ¬ s9_.1.1.length ≤ 1000; omega)⟩)
      · have cx3_ : ¬ ((S_.1 1 0 8) ≠ 0) := of_decide_eq_false cx3_
        obtain ⟨w_, c_, rfl⟩ : ∃ w_ c1_, c_ = w_ :: c1_ := by cases c_ with | nil => (simp only [List.length_nil] at z4_; omega) | cons p9_ q9_ => exact ⟨p9_, q9_, rfl⟩
        have hw_ : S_.2.2.1 74 0 pc_.toNat = w_ := by rw [fr_arr (t := 74) (i := 0) hF_ rfl]; exact z5_ 0 w_ rfl
        have sok_ : s_.1.1.length ≤ 1000 := (cgl_f z6_).1.mp (by omega)
        obtain ⟨cx_, cf_, cl_⟩ := z7_ sok_
        obtain ⟨s1_, hew_, hec_⟩ : ∃ s1_, ew F_ I_ A_ (exm F_ I_ A_ C_ nf_) mm_ w_ s_ = some s1_ ∧ ec F_ I_ A_ (exm F_ I_ A_ C_ nf_) mm_ c_ s1_ = some s9_ := by rw [ec] at z1_; (split at z1_); (rename_i s1_ q1_; exact ⟨s1_, q1_, z1_⟩); (cases z1_)
        rw [← hw_] at hew_
        have F13_ := (cgl_b z6_).2
        have R9_ := ec_R (exm_w nf_) c_ s1_ s9_ hec_
        have R8_ : 1 + I_ + s9_.1.2.1 ≤ F_ := by rw [z3_] at hRF_; exact hRF_
        have lw1_ : s1_.1.1.length ≤ 1000 → lwS F_ s1_ := fun q9_ => ew_w (exm_w nf_) hew_ (by omega) (by omega) cl_
        have z4b : pc_ + 1 + c_.length = to_ := by simp only [List.length_cons] at z4_; push_cast at z4_; omega
        have cx8_ := cx_.2.2.2.2.2.2.2.1
        have A40_ := (hA_.2 mm_ (Nat.le_refl _)).1
        have her1_ : ∀ k9_, k9_ ≤ mm_ → er1 tb_ tn_ A_ k9_ S_ := fun k9_ h9_ => er1_fr (her_ k9_ h9_) hF_ rfl rfl rfl rfl rfl
        refine sm_T_go 4 (c1 := (47, [some (.inr (.inr (some (1, 0)))), some (.inl m_), some (.inl f_), some (.inl dp_), some (.inl to_), some (.inl pc_), none, none, none, none], [.inl pc_, .inr (.inr (some (74, 0)))], S_)) rfl ?_
        refine sm_T_iald (n := 65536) rfl rfl (by omega) (by omega) ?_
        have bx4_ : 0 ≤ S_.2.2.1 74 0 pc_.toNat ∧ S_.2.2.1 74 0 pc_.toNat ≤ 2147483647 := hI_.2 74 0 _
        refine sm_T_go 3 (c1 := (54, [some (.inr (.inr (some (1, 0)))), some (.inl m_), some (.inl f_), some (.inl dp_), some (.inl to_), some (.inl pc_), some (.inl (S_.2.2.1 74 0 pc_.toNat)), none, none, none], [.inl 31, .inl (S_.2.2.1 74 0 pc_.toNat)], S_)) rfl ?_
        refine sm_T_bin (w := ((S_.2.2.1 74 0 pc_.toNat) % 32)) rfl (bi_msk (k := 5) (by decide)) ?_
        refine sm_T_go 3 (c1 := (60, [some (.inr (.inr (some (1, 0)))), some (.inl m_), some (.inl f_), some (.inl dp_), some (.inl to_), some (.inl pc_), some (.inl (S_.2.2.1 74 0 pc_.toNat)), some (.inl ((S_.2.2.1 74 0 pc_.toNat) % 32)), none, none], [.inl 5, .inl (S_.2.2.1 74 0 pc_.toNat)], S_)) rfl ?_
        refine sm_T_bin (w := ((S_.2.2.1 74 0 pc_.toNat) / 32)) rfl (bi_shr (k := 5) (by decide) (by omega) (by omega)) ?_
        refine sm_T_go 1 (c1 := (63, [some (.inr (.inr (some (1, 0)))), some (.inl m_), some (.inl f_), some (.inl dp_), some (.inl to_), some (.inl pc_), some (.inl (S_.2.2.1 74 0 pc_.toNat)), some (.inl ((S_.2.2.1 74 0 pc_.toNat) % 32)), none, none], [.inl 63, .inl ((S_.2.2.1 74 0 pc_.toNat) / 32)], S_)) rfl ?_
        refine sm_T_bin (w := (((S_.2.2.1 74 0 pc_.toNat) / 32) % 64)) rfl (bi_msk (k := 6) (by decide)) ?_
        refine sm_T_go 3 (c1 := (70, [some (.inr (.inr (some (1, 0)))), some (.inl m_), some (.inl f_), some (.inl dp_), some (.inl to_), some (.inl pc_), some (.inl (S_.2.2.1 74 0 pc_.toNat)), some (.inl ((S_.2.2.1 74 0 pc_.toNat) % 32)), some (.inl (((S_.2.2.1 74 0 pc_.toNat) / 32) % 64)), none], [.inl 11, .inl (S_.2.2.1 74 0 pc_.toNat)], S_)) rfl ?_
        refine sm_T_bin (w := ((S_.2.2.1 74 0 pc_.toNat) / 2048)) rfl (bi_shr (k := 11) (by decide) (by omega) (by omega)) ?_
        refine sm_T_go 3 (c1 := (77, [some (.inr (.inr (some (1, 0)))), some (.inl m_), some (.inl f_), some (.inl dp_), some (.inl to_), some (.inl pc_), some (.inl (S_.2.2.1 74 0 pc_.toNat)), some (.inl ((S_.2.2.1 74 0 pc_.toNat) % 32)), some (.inl (((S_.2.2.1 74 0 pc_.toNat) / 32) % 64)), some (.inl ((S_.2.2.1 74 0 pc_.toNat) / 2048))], [.inl 17, .inl ((S_.2.2.1 74 0 pc_.toNat) % 32)], S_)) rfl ?_
        refine sm_T_br (a := 1) (z := 32) rfl (fun cx5_ => ?_) (fun cx5_ => ?_)
        · have cx5_ : ((S_.2.2.1 74 0 pc_.toNat) % 32) ≠ 17 := of_decide_eq_true cx5_
          refine sm_T_go 2 (c1 := (113, [some (.inr (.inr (some (1, 0)))), some (.inl m_), some (.inl f_), some (.inl dp_), some (.inl to_), some (.inl pc_), some (.inl (S_.2.2.1 74 0 pc_.toNat)), some (.inl ((S_.2.2.1 74 0 pc_.toNat) % 32)), some (.inl (((S_.2.2.1 74 0 pc_.toNat) / 32) % 64)), some (.inl ((S_.2.2.1 74 0 pc_.toNat) / 2048))], [.inl 7, .inl ((S_.2.2.1 74 0 pc_.toNat) % 32)], S_)) rfl ?_
          refine sm_T_br (a := 4) (z := 12) rfl (fun cx6_ => ?_) (fun cx6_ => ?_)
          · have cx6_ : 7 < ((S_.2.2.1 74 0 pc_.toNat) % 32) := of_decide_eq_true cx6_
            refine sm_T_go 2 (c1 := (129, [some (.inr (.inr (some (1, 0)))), some (.inl m_), some (.inl f_), some (.inl dp_), some (.inl to_), some (.inl pc_), some (.inl (S_.2.2.1 74 0 pc_.toNat)), some (.inl ((S_.2.2.1 74 0 pc_.toNat) % 32)), some (.inl (((S_.2.2.1 74 0 pc_.toNat) / 32) % 64)), some (.inl ((S_.2.2.1 74 0 pc_.toNat) / 2048))], [.inl 11, .inl ((S_.2.2.1 74 0 pc_.toNat) % 32)], S_)) rfl ?_
            refine sm_T_br (a := 4) (z := 18) rfl (fun cx7_ => ?_) (fun cx7_ => ?_)
            · have cx7_ : 11 < ((S_.2.2.1 74 0 pc_.toNat) % 32) := of_decide_eq_true cx7_
              have ho_ := ew_s hew_ (by omega) (by omega)
              have hk16_ := e_st_k ho_
              refine sm_T_go 6 (c1 := (156, [some (.inr (.inr (some (1, 0)))), some (.inl m_), some (.inl f_), some (.inl dp_), some (.inl to_), some (.inl pc_), some (.inl (S_.2.2.1 74 0 pc_.toNat)), some (.inl ((S_.2.2.1 74 0 pc_.toNat) % 32)), some (.inl (((S_.2.2.1 74 0 pc_.toNat) / 32) % 64)), some (.inl ((S_.2.2.1 74 0 pc_.toNat) / 2048))], [.inl ((S_.2.2.1 74 0 pc_.toNat) / 2048), .inl (((S_.2.2.1 74 0 pc_.toNat) / 32) % 64), .inl f_, .inl m_, .inl ((S_.2.2.1 74 0 pc_.toNat) % 32), .inr (.inr (some (1, 0)))], S_)) rfl ?_
              refine sm_T_cal (d1 := 1) (Q1 := vq_38 ((S_.2.2.1 74 0 pc_.toNat) % 32) m_ f_ (((S_.2.2.1 74 0 pc_.toNat) / 32) % 64) ((S_.2.2.1 74 0 pc_.toNat) / 2048) tb_ tn_ A_ mm_ ff_ (S_.2.2.1 74 0 pc_.toNat / 32 % 64).toNat dd_ F_ I_ s_ s1_ q_.2.2 S_) rfl rfl (by omega) (vc_38 ((S_.2.2.1 74 0 pc_.toNat) % 32) m_ f_ (((S_.2.2.1 74 0 pc_.toNat) / 32) % 64) ((S_.2.2.1 74 0 pc_.toNat) / 2048) tb_ tn_ A_ mm_ ff_ (S_.2.2.1 74 0 pc_.toNat / 32 % 64).toNat dd_ F_ I_ s_ s1_ q_.2.2 S_ hI_ (by exact hI_) (by exact cgl_d z6_) (by omega) (by omega) (by exact hm1_) (by exact hf1_) (by omega) (by exact her1_) (by exact hA_) (by exact cx_) (by exact sok_) (by exact ho_) (by exact cl_) (by omega)) (fun u_ Sx8_ px11_ => ?_)
              obtain ⟨rfl, hIx9_, hFx10_, px11_⟩ := px11_
              have hFx12_ : ai_fr (sx_W vw_36) S0_ Sx8_ := ai_fr_tr hF_ (fr_le hFx10_ rfl)
              obtain ⟨dx14_, px11_⟩ := px11_
              have hDx13_ : idf dd_ S0_ Sx8_ := idf_tr hD_ dx14_
              have ex15_ : Sx8_.1 1 0 8 = S_.1 1 0 8 := hFx10_.1 1 0 8 rfl
              have e156_ := px11_
              have new_ : cgl dd_ F_ s1_.1.1 Sx8_ ∧ (imq (s1_.1.1.length ≤ 1000) (cxs dd_ F_ I_ ff_ q_.2.2 s1_ Sx8_ ∧ fun_ ff_ q_.2.2 (S0_.2.2.1 26 0) (Sx8_.2.2.1 26 0) ∧ lwS F_ s1_)) := ⟨e156_.1.1, fun z9_ => ⟨e156_.1, fun_tr cf_ e156_.2, lw1_ z9_⟩⟩
              refine sm_T_inc (a := 5) (z := 1) (v := pc_) (w := pc_ + 1) rfl rfl (by omega) (by omega) (by omega) ?_
              refine sm_T_go 1 (c1 := (24, [some (.inr (.inr (some (1, 0)))), some (.inl m_), some (.inl f_), some (.inl dp_), some (.inl to_), some (.inl (pc_ + 1)), some (.inl (S_.2.2.1 74 0 pc_.toNat)), some (.inl ((S_.2.2.1 74 0 pc_.toNat) % 32)), some (.inl (((S_.2.2.1 74 0 pc_.toNat) / 32) % 64)), some (.inl ((S_.2.2.1 74 0 pc_.toNat) / 2048))], [], Sx8_)) rfl ?_
              refine sm_T_wk [some (.inr (.inr (some (1, 0)))), some (.inl m_), some (.inl f_), some (.inl dp_), some (.inl to_), some (.inl (pc_ + 1)), none, none, none, none] (by exact ⟨rfl, rfl, rfl, rfl, rfl, rfl, trivial⟩) ?_
              refine ih_ to_ (pc_ + 1) Sx8_ hIx9_ hFx12_ ⟨?_, ?_, ?_, trivial⟩ ?_
              · omega
              · exact ⟨s1_, s9_, c_, hec_, z2_, z3_, z4b, by rw [show (pc_ + 1).toNat = pc_.toNat + 1 by omega]; exact rwv_tl z5_, new_.1, new_.2⟩
              · exact hDx13_
              · omega
            · have cx7_ : ¬ (11 < ((S_.2.2.1 74 0 pc_.toNat) % 32)) := of_decide_eq_false cx7_
              obtain ⟨z_, ho_, es_⟩ := ew_l hew_ (by omega) (by omega) (by omega)
              refine sm_T_go 6 (c1 := (141, [some (.inr (.inr (some (1, 0)))), some (.inl m_), some (.inl f_), some (.inl dp_), some (.inl to_), some (.inl pc_), some (.inl (S_.2.2.1 74 0 pc_.toNat)), some (.inl ((S_.2.2.1 74 0 pc_.toNat) % 32)), some (.inl (((S_.2.2.1 74 0 pc_.toNat) / 32) % 64)), some (.inl ((S_.2.2.1 74 0 pc_.toNat) / 2048))], [.inl ((S_.2.2.1 74 0 pc_.toNat) / 2048), .inl (((S_.2.2.1 74 0 pc_.toNat) / 32) % 64), .inl f_, .inl m_, .inl ((S_.2.2.1 74 0 pc_.toNat) % 32), .inr (.inr (some (1, 0)))], S_)) rfl ?_
              refine sm_T_cal (d1 := 1) (Q1 := vq_37 ((S_.2.2.1 74 0 pc_.toNat) % 32) m_ f_ (((S_.2.2.1 74 0 pc_.toNat) / 32) % 64) ((S_.2.2.1 74 0 pc_.toNat) / 2048) tb_ tn_ A_ mm_ ff_ (S_.2.2.1 74 0 pc_.toNat / 32 % 64).toNat s_.1.1 s_.2.1 s_.2.2.1 s_.2.2.2 z_ q_.2.2 s_.1.2.2 S_) rfl rfl (by omega) (vc_37 ((S_.2.2.1 74 0 pc_.toNat) % 32) m_ f_ (((S_.2.2.1 74 0 pc_.toNat) / 32) % 64) ((S_.2.2.1 74 0 pc_.toNat) / 2048) tb_ tn_ A_ mm_ ff_ (S_.2.2.1 74 0 pc_.toNat / 32 % 64).toNat s_.1.1 s_.2.1 s_.2.2.1 s_.2.2.2 z_ q_.2.2 s_.1.2.2 S_ hI_ (by exact hI_) (by omega) (by omega) (by exact hm1_) (by (have c4_ := cx_.2.2.2.1); (have c5_ := cx_.2.2.2.2.1); (have c6_ := cx_.2.2.2.2.2.1); omega) (by omega) (by exact her1_) (by exact hA_) (by exact cx_.2.2.2.2.2.2.1) (by exact cx8_) (by exact sok_) (by exact ho_)) (fun u_ Sx16_ px19_ => ?_)
              obtain ⟨rfl, hIx17_, hFx18_, px19_⟩ := px19_
              have hFx20_ : ai_fr (sx_W vw_36) S0_ Sx16_ := ai_fr_tr hF_ (fr_le hFx18_ rfl)
              have hDx21_ : idf dd_ S0_ Sx16_ := idf_tr hD_ (idf_fr hFx18_ (by decide) (by decide))
              have ex22_ : Sx16_.1 1 0 8 = S_.1 1 0 8 := hFx18_.1 1 0 8 rfl
              have e141_ := px19_
              have g141_ := cgl_fr z6_ hFx18_ rfl rfl rfl rfl rfl rfl rfl rfl
              have new_ : cgl dd_ F_ s1_.1.1 Sx16_ ∧ (imq (s1_.1.1.length ≤ 1000) (cxs dd_ F_ I_ ff_ q_.2.2 s1_ Sx16_ ∧ fun_ ff_ q_.2.2 (S0_.2.2.1 26 0) (Sx16_.2.2.1 26 0) ∧ lwS F_ s1_)) := by rw [es_]; refine ⟨g141_, fun z9_ => ⟨⟨g141_, (hFx18_.1 1 0 9 rfl).trans cx_.2.1, (hFx18_.1 1 0 3 rfl).trans cx_.2.2.1, cx_.2.2.2.1, cx_.2.2.2.2.1, cx_.2.2.2.2.2.1, by rw [fr_arr (t := 26) (i := 0) hFx18_ rfl]; exact cx_.2.2.2.2.2.2.1, e141_, cxe_fr cx_.2.2.2.2.2.2.2.2 hFx18_ rfl rfl rfl rfl⟩, by rw [fr_arr (t := 26) (i := 0) hFx18_ rfl]; exact cf_, by rw [← es_]; exact lw1_ (by rw [es_]; exact z9_)⟩⟩
              refine sm_T_go 1 (c1 := (159, [some (.inr (.inr (some (1, 0)))), some (.inl m_), some (.inl f_), some (.inl dp_), some (.inl to_), some (.inl pc_), some (.inl (S_.2.2.1 74 0 pc_.toNat)), some (.inl ((S_.2.2.1 74 0 pc_.toNat) % 32)), some (.inl (((S_.2.2.1 74 0 pc_.toNat) / 32) % 64)), some (.inl ((S_.2.2.1 74 0 pc_.toNat) / 2048))], [], Sx16_)) rfl ?_
              refine sm_T_inc (a := 5) (z := 1) (v := pc_) (w := pc_ + 1) rfl rfl (by omega) (by omega) (by omega) ?_
              refine sm_T_go 1 (c1 := (24, [some (.inr (.inr (some (1, 0)))), some (.inl m_), some (.inl f_), some (.inl dp_), some (.inl to_), some (.inl (pc_ + 1)), some (.inl (S_.2.2.1 74 0 pc_.toNat)), some (.inl ((S_.2.2.1 74 0 pc_.toNat) % 32)), some (.inl (((S_.2.2.1 74 0 pc_.toNat) / 32) % 64)), some (.inl ((S_.2.2.1 74 0 pc_.toNat) / 2048))], [], Sx16_)) rfl ?_
              refine sm_T_wk [some (.inr (.inr (some (1, 0)))), some (.inl m_), some (.inl f_), some (.inl dp_), some (.inl to_), some (.inl (pc_ + 1)), none, none, none, none] (by exact ⟨rfl, rfl, rfl, rfl, rfl, rfl, trivial⟩) ?_
              refine ih_ to_ (pc_ + 1) Sx16_ hIx17_ hFx20_ ⟨?_, ?_, ?_, trivial⟩ ?_
              · omega
              · exact ⟨s1_, s9_, c_, hec_, z2_, z3_, z4b, by rw [show (pc_ + 1).toNat = pc_.toNat + 1 by omega]; exact rwv_tl z5_, new_.1, new_.2⟩
              · exact hDx21_
              · omega
          · have cx6_ : ¬ (7 < ((S_.2.2.1 74 0 pc_.toNat) % 32)) := of_decide_eq_false cx6_
            obtain ⟨z_, ho_, es_⟩ := ew_o hew_ (by omega) (by omega)
            refine sm_T_go 2 (c1 := (119, [some (.inr (.inr (some (1, 0)))), some (.inl m_), some (.inl f_), some (.inl dp_), some (.inl to_), some (.inl pc_), some (.inl (S_.2.2.1 74 0 pc_.toNat)), some (.inl ((S_.2.2.1 74 0 pc_.toNat) % 32)), some (.inl (((S_.2.2.1 74 0 pc_.toNat) / 32) % 64)), some (.inl ((S_.2.2.1 74 0 pc_.toNat) / 2048))], [.inl ((S_.2.2.1 74 0 pc_.toNat) % 32), .inr (.inr (some (1, 0)))], S_)) rfl ?_
            refine sm_T_cal (d1 := 4) (Q1 := vq_39 ((S_.2.2.1 74 0 pc_.toNat) % 32) dd_ F_ s_.1.1 s_.2.2.2 z_ S_) rfl rfl (by omega) (vc_39 ((S_.2.2.1 74 0 pc_.toNat) % 32) dd_ F_ s_.1.1 s_.2.2.2 z_ S_ hI_ (by exact hI_) (by exact cgl_d z6_) (by exact z6_) (by exact cx8_) (by exact ho_)) (fun u_ Sx23_ px26_ => ?_)
            obtain ⟨rfl, hIx24_, hFx25_, px26_⟩ := px26_
            have hFx27_ : ai_fr (sx_W vw_36) S0_ Sx23_ := ai_fr_tr hF_ (fr_le hFx25_ rfl)
            obtain ⟨dx29_, px26_⟩ := px26_
            have hDx28_ : idf dd_ S0_ Sx23_ := idf_tr hD_ dx29_
            have e119_ := px26_
            have new_ : cgl dd_ F_ s1_.1.1 Sx23_ ∧ (imq (s1_.1.1.length ≤ 1000) (cxs dd_ F_ I_ ff_ q_.2.2 s1_ Sx23_ ∧ fun_ ff_ q_.2.2 (S0_.2.2.1 26 0) (Sx23_.2.2.1 26 0) ∧ lwS F_ s1_)) := by rw [es_]; refine ⟨e119_.1, fun z9_ => ⟨⟨e119_.1, (hFx25_.1 1 0 9 rfl).trans cx_.2.1, (hFx25_.1 1 0 3 rfl).trans cx_.2.2.1, cx_.2.2.2.1, cx_.2.2.2.2.1, cx_.2.2.2.2.2.1, by rw [fr_arr (t := 26) (i := 0) hFx25_ rfl]; exact cx_.2.2.2.2.2.2.1, e119_.2, ⟨(hFx25_.1 3 dd_ 1 rfl).trans cx_.2.2.2.2.2.2.2.2.1, by rw [hFx25_.1 3 dd_ 5 rfl]; exact cx_.2.2.2.2.2.2.2.2.2.1, nxb_up cx_.2.2.2.2.2.2.2.2.2.2 (fr_arr hFx25_ rfl) (by have n9_ := cgl_n z6_ sok_; have n8_ := cgl_n e119_.1 z9_; have n7_ := e_op_le ho_; omega)⟩⟩, by rw [fr_arr (t := 26) (i := 0) hFx25_ rfl]; exact cf_, by rw [← es_]; exact lw1_ (by rw [es_]; exact z9_)⟩⟩
            refine sm_T_go 1 (c1 := (159, [some (.inr (.inr (some (1, 0)))), some (.inl m_), some (.inl f_), some (.inl dp_), some (.inl to_), some (.inl pc_), some (.inl (S_.2.2.1 74 0 pc_.toNat)), some (.inl ((S_.2.2.1 74 0 pc_.toNat) % 32)), some (.inl (((S_.2.2.1 74 0 pc_.toNat) / 32) % 64)), some (.inl ((S_.2.2.1 74 0 pc_.toNat) / 2048))], [], Sx23_)) rfl ?_
            refine sm_T_inc (a := 5) (z := 1) (v := pc_) (w := pc_ + 1) rfl rfl (by omega) (by omega) (by omega) ?_
            refine sm_T_go 1 (c1 := (24, [some (.inr (.inr (some (1, 0)))), some (.inl m_), some (.inl f_), some (.inl dp_), some (.inl to_), some (.inl (pc_ + 1)), some (.inl (S_.2.2.1 74 0 pc_.toNat)), some (.inl ((S_.2.2.1 74 0 pc_.toNat) % 32)), some (.inl (((S_.2.2.1 74 0 pc_.toNat) / 32) % 64)), some (.inl ((S_.2.2.1 74 0 pc_.toNat) / 2048))], [], Sx23_)) rfl ?_
            refine sm_T_wk [some (.inr (.inr (some (1, 0)))), some (.inl m_), some (.inl f_), some (.inl dp_), some (.inl to_), some (.inl (pc_ + 1)), none, none, none, none] (by exact ⟨rfl, rfl, rfl, rfl, rfl, rfl, trivial⟩) ?_
            refine ih_ to_ (pc_ + 1) Sx23_ hIx24_ hFx27_ ⟨?_, ?_, ?_, trivial⟩ ?_
            · omega
            · exact ⟨s1_, s9_, c_, hec_, z2_, z3_, z4b, by rw [show (pc_ + 1).toNat = pc_.toNat + 1 by omega]; exact rwv_tl z5_, new_.1, new_.2⟩
            · exact hDx28_
            · omega
        · have cx5_ : ¬ (((S_.2.2.1 74 0 pc_.toNat) % 32) ≠ 17) := of_decide_eq_false cx5_
          obtain ⟨o_, z_, hO_, hV_, aM_, d0_, dM_, hX_, es_⟩ := ew17 hew_ (by omega)
          obtain ⟨xE_, P_, xP_⟩ := id cx_.2.2.2.2.2.2.1
          have yP_ := xP_ (S_.2.2.1 74 0 pc_.toNat / 32 % 64).toNat (by omega) o_ hO_
          have y2_ := yP_.2.1
          have c201_ := cx_.2.2.2.1
          have ccl_ := cxs_cl cx_ hV_ (by omega) hO_ yP_.1
          have c6_ := cx_.2.2.2.2.2.1
          have c5_ := cx_.2.2.2.2.1
          refine sm_T_go 2 (c1 := (83, [some (.inr (.inr (some (1, 0)))), some (.inl m_), some (.inl f_), some (.inl dp_), some (.inl to_), some (.inl pc_), some (.inl (S_.2.2.1 74 0 pc_.toNat)), some (.inl ((S_.2.2.1 74 0 pc_.toNat) % 32)), some (.inl (((S_.2.2.1 74 0 pc_.toNat) / 32) % 64)), some (.inl ((S_.2.2.1 74 0 pc_.toNat) / 2048))], [.inl 16, .inl dp_], S_)) rfl ?_
          refine sm_T_br (a := 3) (z := 76) rfl (fun cx30_ => ?_) (fun cx30_ => ?_)
          · have cx30_ : 16 ≤ dp_ := of_decide_eq_true cx30_
            exfalso; omega
          · have cx30_ : ¬ (16 ≤ dp_) := of_decide_eq_false cx30_
            refine sm_T_go 6 (c1 := (96, [some (.inr (.inr (some (1, 0)))), some (.inl m_), some (.inl f_), some (.inl dp_), some (.inl to_), some (.inl pc_), some (.inl (S_.2.2.1 74 0 pc_.toNat)), some (.inl ((S_.2.2.1 74 0 pc_.toNat) % 32)), some (.inl (((S_.2.2.1 74 0 pc_.toNat) / 32) % 64)), some (.inl ((S_.2.2.1 74 0 pc_.toNat) / 2048))], [.inl (((S_.2.2.1 74 0 pc_.toNat) / 32) % 64), .inl f_, .inr (.inr (some (26, 0))), .inl ((S_.2.2.1 74 0 pc_.toNat) / 2048), .inr (.inr (some (1, 0)))], S_)) rfl ?_
            refine sm_T_cal (d1 := 0) (Q1 := vq_35 f_ (((S_.2.2.1 74 0 pc_.toNat) / 32) % 64) S_) rfl rfl (by omega) (vc_35 f_ (((S_.2.2.1 74 0 pc_.toNat) / 32) % 64) S_ hI_ (by omega) (by omega)) (fun u_ Sx31_ px34_ => ?_)
            obtain ⟨rfl, vx36_, rfl, px34_⟩ := px34_
            have e96_ := px34_
            have pt_ : S_.2.2.1 26 0 vx36_.toNat = (P_ (S_.2.2.1 74 0 pc_.toNat / 32 % 64).toNat : Int) := by rw [e96_, show (8 * (40 * f_ + S_.2.2.1 74 0 pc_.toNat / 32 % 64)).toNat = 8 * (40 * ff_ + (S_.2.2.1 74 0 pc_.toNat / 32 % 64).toNat) by omega]; exact yP_.1
            refine sm_T_iald (n := 64320) rfl rfl (by omega) (by omega) ?_
            have bx37_ : 0 ≤ S_.2.2.1 26 0 vx36_.toNat ∧ S_.2.2.1 26 0 vx36_.toNat ≤ 2025 := hI_.2 26 0 _
            refine sm_T_go 2 (c1 := (102, [some (.inr (.inr (some (1, 0)))), some (.inl m_), some (.inl f_), some (.inl dp_), some (.inl to_), some (.inl pc_), some (.inl (S_.2.2.1 74 0 pc_.toNat)), some (.inl ((S_.2.2.1 74 0 pc_.toNat) % 32)), some (.inl (((S_.2.2.1 74 0 pc_.toNat) / 32) % 64)), some (.inl ((S_.2.2.1 74 0 pc_.toNat) / 2048))], [.inl 1, .inl dp_, .inl (S_.2.2.1 26 0 vx36_.toNat), .inl ((S_.2.2.1 74 0 pc_.toNat) / 2048), .inr (.inr (some (1, 0)))], S_)) rfl ?_
            refine sm_T_bin (w := dp_ + 1) rfl (bi_add (by omega) (by omega) (by omega)) ?_
            refine sm_T_cal (d1 := (nf_ + 10)) (Q1 := vq_36 ((S_.2.2.1 74 0 pc_.toNat) / 2048) (S_.2.2.1 26 0 vx36_.toNat) (dp_ + 1) tb_ tn_ A_ C_ (S_.2.2.1 74 0 pc_.toNat / 2048).toNat (P_ (S_.2.2.1 74 0 pc_.toNat / 32 % 64).toNat) dd_ F_ I_ s_.1 o_ z_ nf_ S_) rfl rfl (by omega) (ihx_ ((S_.2.2.1 74 0 pc_.toNat) / 2048) (S_.2.2.1 26 0 vx36_.toNat) (dp_ + 1) tb_ tn_ A_ C_ (S_.2.2.1 74 0 pc_.toNat / 2048).toNat (P_ (S_.2.2.1 74 0 pc_.toNat / 32 % 64).toNat) dd_ F_ I_ s_.1 o_ z_ nf_ S_ hI_ (by exact hI_) (by exact cgl_d z6_) (by omega) (by exact pt_) (by omega) (by (intro k9_ h9_; exact her1_ k9_ (by omega))) (by exact a_ok_le hA_ (by omega)) (by exact ccd_fr hC_ (by omega) hF_ rfl rfl) (by exact ccl_.1) (by exact sok_) (by (have q9_ : s1_.1.2.1 = z_.1.2.1 := by rw [es_]); omega) (by exact cl_.1) (by exact cl_.2.2.1 _ o_ hO_) (by exact hX_)) (fun u_ Sx38_ px41_ => ?_)
            obtain ⟨rfl, hIx39_, hFx40_, px41_⟩ := px41_
            have hFx42_ : ai_fr (sx_W vw_36) S0_ Sx38_ := ai_fr_tr hF_ (fr_le hFx40_ rfl)
            obtain ⟨dx44_, px41_⟩ := px41_
            have hDx43_ : idf dd_ S0_ Sx38_ := idf_tr hD_ dx44_
            have e103_ := px41_
            have new_ : cgl dd_ F_ s1_.1.1 Sx38_ ∧ (imq (s1_.1.1.length ≤ 1000) (cxs dd_ F_ I_ ff_ q_.2.2 s1_ Sx38_ ∧ fun_ ff_ q_.2.2 (S0_.2.2.1 26 0) (Sx38_.2.2.1 26 0) ∧ lwS F_ s1_)) := by rw [es_]; refine ⟨e103_.1, fun z9_ => ?_⟩; obtain ⟨o1_, o2_⟩ := e103_.2 z9_; exact ⟨cxs_ba cx_ (by omega) hO_ yP_.1 e103_.1 o1_ o2_ (hFx40_.1 3 dd_ 1 rfl), fun_tr cf_ (fun j_ q1_ q2_ => o2_ j_ (by omega) (by omega)), by rw [← es_]; exact lw1_ (by rw [es_]; exact z9_)⟩
            refine sm_T_go 1 (c1 := (159, [some (.inr (.inr (some (1, 0)))), some (.inl m_), some (.inl f_), some (.inl dp_), some (.inl to_), some (.inl pc_), some (.inl (S_.2.2.1 74 0 pc_.toNat)), some (.inl ((S_.2.2.1 74 0 pc_.toNat) % 32)), some (.inl (((S_.2.2.1 74 0 pc_.toNat) / 32) % 64)), some (.inl ((S_.2.2.1 74 0 pc_.toNat) / 2048))], [], Sx38_)) rfl ?_
            refine sm_T_inc (a := 5) (z := 1) (v := pc_) (w := pc_ + 1) rfl rfl (by omega) (by omega) (by omega) ?_
            refine sm_T_go 1 (c1 := (24, [some (.inr (.inr (some (1, 0)))), some (.inl m_), some (.inl f_), some (.inl dp_), some (.inl to_), some (.inl (pc_ + 1)), some (.inl (S_.2.2.1 74 0 pc_.toNat)), some (.inl ((S_.2.2.1 74 0 pc_.toNat) % 32)), some (.inl (((S_.2.2.1 74 0 pc_.toNat) / 32) % 64)), some (.inl ((S_.2.2.1 74 0 pc_.toNat) / 2048))], [], Sx38_)) rfl ?_
            refine sm_T_wk [some (.inr (.inr (some (1, 0)))), some (.inl m_), some (.inl f_), some (.inl dp_), some (.inl to_), some (.inl (pc_ + 1)), none, none, none, none] (by exact ⟨rfl, rfl, rfl, rfl, rfl, rfl, trivial⟩) ?_
            refine ih_ to_ (pc_ + 1) Sx38_ hIx39_ hFx42_ ⟨?_, ?_, ?_, trivial⟩ ?_
            · omega
            · exact ⟨s1_, s9_, c_, hec_, z2_, z3_, z4b, by rw [show (pc_ + 1).toNat = pc_.toNat + 1 by omega]; exact rwv_tl z5_, new_.1, new_.2⟩
            · exact hDx43_
            · omega
set_option maxHeartbeats 2000000 in
theorem vc_36 {sc_ : Nat × (Nat → Int)} (m_ : Int) (f_ : Int) (dp_ : Int) (tb_ : Nat → Int) (tn_ : Nat) (A_ : pA) (C_ : Nat → List Int) (mm_ : Nat) (ff_ : Nat) (dd_ : Nat) (F_ : Nat) (I_ : Nat) (q_ : gQ) (e_ : gE) (r_ : gQ × gE) (nf_ : Nat) (S0_ : sm_S) (hI_ : gi S0_) (hI0_ : gi S0_) (hd_ : S0_.2.1 1 0 1 = some dd_) (hm1_ : m_ = (mm_ : Int) ∧ mm_ ≤ 15) (hf1_ : f_ = (ff_ : Int)) (hdp_ : 0 ≤ dp_ ∧ dp_ + mm_ ≤ 15) (her_ : ∀ k9_, k9_ ≤ mm_ → er1 tb_ tn_ A_ k9_ S0_) (hA_ : a_ok tb_ tn_ A_ mm_) (hC_ : ccd C_ mm_ S0_) (hx_ : cxs dd_ F_ I_ ff_ q_.2.2 (q_, e_, fun _ => none, []) S0_) (hok_ : q_.1.length ≤ 1000) (hRF_ : 1 + I_ + r_.1.2.1 ≤ F_) (hG_ : gwf F_ q_.1) (hlw_ : ∀ a9_, lwl (F_ + q_.1.length) (e_ a9_)) (he_ : exm F_ I_ A_ C_ (nf_ + 1) mm_ q_ e_ = some r_) (ihx_ : ∀ (m_ f_ dp_ : Int) (tb_ : Nat → Int) (tn_ : Nat) (A_ : pA) (C_ : Nat → List Int) (mm_ : Nat) (ff_ : Nat) (dd_ : Nat) (F_ : Nat) (I_ : Nat) (q_ : gQ) (e_ : gE) (r_ : gQ × gE) (nz : Nat) (S0_ : sm_S) (hI_ : gi S0_) (hI0_ : gi S0_) (hd_ : S0_.2.1 1 0 1 = some dd_) (hm1_ : m_ = (mm_ : Int) ∧ mm_ ≤ 15) (hf1_ : f_ = (ff_ : Int)) (hdp_ : 0 ≤ dp_ ∧ dp_ + mm_ ≤ 15) (her_ : ∀ k9_, k9_ ≤ mm_ → er1 tb_ tn_ A_ k9_ S0_) (hA_ : a_ok tb_ tn_ A_ mm_) (hC_ : ccd C_ mm_ S0_) (hx_ : cxs dd_ F_ I_ ff_ q_.2.2 (q_, e_, fun _ => none, []) S0_) (hok_ : q_.1.length ≤ 1000) (hRF_ : 1 + I_ + r_.1.2.1 ≤ F_) (hG_ : gwf F_ q_.1) (hlw_ : ∀ a9_, lwl (F_ + q_.1.length) (e_ a9_)) (he_ : exm F_ I_ A_ C_ nf_ mm_ q_ e_ = some r_), sm_T (mt_P sc_) (nf_ + 10) 36 (0, [some (.inr (.inr (some (1, 0)))), some (.inl m_), some (.inl f_), some (.inl dp_), none, none, none, none, none, none], [], S0_) (fun r9_ => ∃ u_ S1_, r9_ = (.inl u_, S1_, 0) ∧ vq_36 m_ f_ dp_ tb_ tn_ A_ C_ mm_ ff_ dd_ F_ I_ q_ e_ r_ nz S0_ u_ S1_)) : sm_T (mt_P sc_) (nf_ + 1 + 10) 36 (0, [some (.inr (.inr (some (1, 0)))), some (.inl m_), some (.inl f_), some (.inl dp_), none, none, none, none, none, none], [], S0_) (fun ro9_ => ∃ u_ S1_, ro9_ = (.inl u_, S1_, 0) ∧ vq_36 m_ f_ dp_ tb_ tn_ A_ C_ mm_ ff_ dd_ F_ I_ q_ e_ r_ nf_ S0_ u_ S1_) := by
  have hF_ : ai_fr (sx_W vw_36) S0_ S0_ := ai_fr_rf
  have hD_ : idf dd_ S0_ S0_ := idf_rf
  obtain ⟨p0_, hp1_, hp2_, hp3_, hp4_⟩ := hC_ mm_ (Nat.le_refl _)
  have c0_ : S0_.2.2.1 76 0 m_.toNat = (p0_ : Int) := by rw [show m_.toNat = mm_ by omega]; exact hp1_
  have c1_ : S0_.2.2.1 76 0 (m_ + 1).toNat = ((p0_ + (C_ mm_).length : Nat) : Int) := by rw [show (m_ + 1).toNat = mm_ + 1 by omega]; exact hp2_
  obtain ⟨s9_, hec_, hs9_, hr9_⟩ : ∃ s9_, ec F_ I_ A_ (exm F_ I_ A_ C_ nf_) mm_ (C_ mm_) (q_, e_, fun _ => none, []) = some s9_ ∧ s9_.2.2.2 = [] ∧ r_ = (s9_.1, s9_.2.1) := by rw [exm] at he_; (split at he_); (rename_i s9_ q9_; (split at he_); (rename_i v9_; cases he_; exact ⟨s9_, q9_, v9_, rfl⟩); (cases he_)); (cases he_)
  refine sm_T_go 5 (c1 := (9, [some (.inr (.inr (some (1, 0)))), some (.inl m_), some (.inl f_), some (.inl dp_), none, none, none, none, none, none], [.inl 1, .inl m_, .inr (.inr (some (76, 0)))], S0_)) rfl ?_
  refine sm_T_bin (w := m_ + 1) rfl (bi_add (by omega) (by omega) (by omega)) ?_
  refine sm_T_iald (n := 17) rfl rfl (by omega) (by omega) ?_
  have bx1_ : 0 ≤ S0_.2.2.1 76 0 (m_ + 1).toNat ∧ S0_.2.2.1 76 0 (m_ + 1).toNat ≤ 65536 := hI_.2 76 0 _
  refine sm_T_go 5 (c1 := (21, [some (.inr (.inr (some (1, 0)))), some (.inl m_), some (.inl f_), some (.inl dp_), some (.inl (S0_.2.2.1 76 0 (m_ + 1).toNat)), none, none, none, none, none], [.inl m_, .inr (.inr (some (76, 0)))], S0_)) rfl ?_
  refine sm_T_iald (n := 17) rfl rfl (by omega) (by omega) ?_
  have bx2_ : 0 ≤ S0_.2.2.1 76 0 m_.toNat ∧ S0_.2.2.1 76 0 m_.toNat ≤ 65536 := hI_.2 76 0 _
  refine sm_T_go 1 (c1 := (24, [some (.inr (.inr (some (1, 0)))), some (.inl m_), some (.inl f_), some (.inl dp_), some (.inl (S0_.2.2.1 76 0 (m_ + 1).toNat)), some (.inl (S0_.2.2.1 76 0 m_.toNat)), none, none, none, none], [], S0_)) rfl ?_
  refine (vl_36 m_ f_ dp_ tb_ tn_ A_ C_ mm_ ff_ dd_ F_ I_ q_ e_ r_ nf_ S0_ hI0_ hd_ hm1_ hf1_ hdp_ her_ hA_ hC_ hx_ hok_ hRF_ hG_ hlw_ he_ ihx_ _) (S0_.2.2.1 76 0 (m_ + 1).toNat) (S0_.2.2.1 76 0 m_.toNat) S0_ hI_ hF_ ⟨?_, ?_, ?_, trivial⟩ (Nat.lt_succ_self _)
  · omega
  · refine ⟨(q_, e_, fun _ => none, []), s9_, C_ mm_, hec_, hs9_, hr9_, by omega, ?_, hx_.1, fun _ => ⟨hx_, fun j_ _ _ => rfl, ⟨hG_, hlw_, (fun a9_ o9_ h9_ => by cases h9_), (fun v9_ h9_ => by cases h9_)⟩⟩⟩
    rw [c0_]
    exact hp4_
  · exact hD_
theorem vc_36x {sc_ : Nat × (Nat → Int)} : ∀ nf_ : Nat, ∀ (m_ f_ dp_ : Int) (tb_ : Nat → Int) (tn_ : Nat) (A_ : pA) (C_ : Nat → List Int) (mm_ : Nat) (ff_ : Nat) (dd_ : Nat) (F_ : Nat) (I_ : Nat) (q_ : gQ) (e_ : gE) (r_ : gQ × gE) (nz : Nat) (S0_ : sm_S) (hI_ : gi S0_) (hI0_ : gi S0_) (hd_ : S0_.2.1 1 0 1 = some dd_) (hm1_ : m_ = (mm_ : Int) ∧ mm_ ≤ 15) (hf1_ : f_ = (ff_ : Int)) (hdp_ : 0 ≤ dp_ ∧ dp_ + mm_ ≤ 15) (her_ : ∀ k9_, k9_ ≤ mm_ → er1 tb_ tn_ A_ k9_ S0_) (hA_ : a_ok tb_ tn_ A_ mm_) (hC_ : ccd C_ mm_ S0_) (hx_ : cxs dd_ F_ I_ ff_ q_.2.2 (q_, e_, fun _ => none, []) S0_) (hok_ : q_.1.length ≤ 1000) (hRF_ : 1 + I_ + r_.1.2.1 ≤ F_) (hG_ : gwf F_ q_.1) (hlw_ : ∀ a9_, lwl (F_ + q_.1.length) (e_ a9_)) (he_ : exm F_ I_ A_ C_ nf_ mm_ q_ e_ = some r_), sm_T (mt_P sc_) (nf_ + 10) 36 (0, [some (.inr (.inr (some (1, 0)))), some (.inl m_), some (.inl f_), some (.inl dp_), none, none, none, none, none, none], [], S0_) (fun r9_ => ∃ u_ S1_, r9_ = (.inl u_, S1_, 0) ∧ vq_36 m_ f_ dp_ tb_ tn_ A_ C_ mm_ ff_ dd_ F_ I_ q_ e_ r_ nz S0_ u_ S1_)
  | 0, m_, f_, dp_, tb_, tn_, A_, C_, mm_, ff_, dd_, F_, I_, q_, e_, r_, nz, S0_, hI_, hI0_, hd_, hm1_, hf1_, hdp_, her_, hA_, hC_, hx_, hok_, hRF_, hG_, hlw_, he_ => by cases he_
  | nf_ + 1, m_, f_, dp_, tb_, tn_, A_, C_, mm_, ff_, dd_, F_, I_, q_, e_, r_, nz, S0_, hI_, hI0_, hd_, hm1_, hf1_, hdp_, her_, hA_, hC_, hx_, hok_, hRF_, hG_, hlw_, he_ => vc_36 m_ f_ dp_ tb_ tn_ A_ C_ mm_ ff_ dd_ F_ I_ q_ e_ r_ nf_ S0_ hI_ hI0_ hd_ hm1_ hf1_ hdp_ her_ hA_ hC_ hx_ hok_ hRF_ hG_ hlw_ he_ (vc_36x nf_)
