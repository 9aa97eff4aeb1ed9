/-! 99.v2 -/
section
/-! the class: taking tokens; written by wip/p55/gen/vg -/
/-! Text.fail -/
def vw_187 : sx_Wl := ([(10, 6), (10, 7)], [], [])
def vq_187 (code : Int) (place : Int) (S0_ : sm_S) (u_ : Option sm_V) (S1_ : sm_S) : Prop := u_ = none ∧ gi S1_ ∧ ai_fr (sx_W vw_187) S0_ S1_ ∧ (False)
def vx_187 (code : Int) (place : Int) (S0_ : sm_S) (S1_ : sm_S) : Prop := gi S1_ ∧ ai_fr (sx_W vw_187) S0_ S1_ ∧ ((S1_.1 10 0 6) = code ∧ (S1_.1 10 0 7) = place)
theorem vc_187 {sc_ : Nat × (Nat → Int)} (code : Int) (place : Int) (S0_ : sm_S) (hI_ : gi S0_) (h1_ : 0 ≤ code ∧ code ≤ 23) (h2_ : 0 ≤ place ∧ place ≤ 1280) : sm_T (mt_P sc_) 0 187 (0, [some (.inr (.inr (some (10, 0)))), some (.inl code), some (.inl place)], [], S0_) (fun r_ => (∃ u_ S1_, r_ = (.inl u_, S1_, 0) ∧ vq_187 code place S0_ u_ S1_) ∨ ∃ S1_, r_ = (.inr 2, S1_, 1) ∧ vx_187 code place S0_ S1_) := by
  have hF_ : ai_fr (sx_W vw_187) S0_ S0_ := ai_fr_rf
  have hI1_ : gi (sm_pI S0_ 10 0 6 code) := gi_pI hI_ (show 0 ≤ code ∧ code ≤ 23 from ⟨by omega, by omega⟩)
  have hF2_ : ai_fr (sx_W vw_187) S0_ (sm_pI S0_ 10 0 6 code) := ai_fr_tr hF_ (ai_fr_pI rfl)
  have hI3_ : gi (sm_pI (sm_pI S0_ 10 0 6 code) 10 0 7 place) := gi_pI hI1_ (show 0 ≤ place ∧ place ≤ 4095 from ⟨by omega, by omega⟩)
  have hF4_ : ai_fr (sx_W vw_187) S0_ (sm_pI (sm_pI S0_ 10 0 6 code) 10 0 7 place) := ai_fr_tr hF2_ (ai_fr_pI rfl)
  refine sm_T_go 6 (c1 := (10, [some (.inr (.inr (some (10, 0)))), some (.inl code), some (.inl place)], [], sm_pI (sm_pI S0_ 10 0 6 code) 10 0 7 place)) rfl ?_
  refine sm_T_th rfl rfl (Or.inr ⟨_, rfl, hI3_, hF4_, ?_⟩)
  exact ⟨rfl, rfl⟩
/-! Text.advance -/
def vw_191 : sx_Wl := ([(10, 2), (10, 3), (10, 4), (10, 5), (10, 6), (10, 7), (10, 8)], [], [])
def vq_191 (b_ : Nat → Int) (n_ : Nat) (q_ : Nat) (S0_ : sm_S) (u_ : Option sm_V) (S1_ : sm_S) : Prop := u_ = none ∧ gi S1_ ∧ ai_fr (sx_W vw_191) S0_ S1_ ∧ (ct b_ n_ (lx_k b_ n_ q_) S1_)
def vx_191 (b_ : Nat → Int) (n_ : Nat) (q_ : Nat) (S0_ : sm_S) (S1_ : sm_S) : Prop := gi S1_ ∧ ai_fr (sx_W vw_191) S0_ S1_ ∧ (lx_kd b_ n_ (lx_k b_ n_ q_) = -1 ∧ ter S1_ (1, (lx_k b_ n_ q_)))
theorem vc_191 {sc_ : Nat × (Nat → Int)} (b_ : Nat → Int) (n_ : Nat) (q_ : Nat) (S0_ : sm_S) (hI_ : gi S0_) (hb_ : S0_.2.2.1 98 0 = b_) (hn_ : (S0_.1 10 0 1) = (n_ : Int)) (hn1_ : n_ ≤ 1280) (hp_ : (S0_.1 10 0 8) = (q_ : Int)) (hpn_ : q_ ≤ n_) : sm_T (mt_P sc_) 1 191 (0, [some (.inr (.inr (some (10, 0)))), none, none], [], S0_) (fun r_ => (∃ u_ S1_, r_ = (.inl u_, S1_, 0) ∧ vq_191 b_ n_ q_ S0_ u_ S1_) ∨ ∃ S1_, r_ = (.inr 2, S1_, 1) ∧ vx_191 b_ n_ q_ S0_ S1_) := by
  have hF_ : ai_fr (sx_W vw_191) S0_ S0_ := ai_fr_rf
  refine sm_T_go 1 (c1 := (1, [some (.inr (.inr (some (10, 0)))), none, none], [.inr (.inr (some (10, 0)))], S0_)) rfl ?_
  refine sm_T_cal (d1 := 0) (Q1 := vq_192 b_ n_ q_ S0_) rfl rfl (by decide) (vc_192 b_ n_ q_ S0_ hI_ (by exact hb_) (by exact hn_) (by exact hn1_) (by exact hp_) (by exact hpn_)) (fun u_ S1_ p4_ => ?_)
  obtain ⟨rfl, hI2_, hF3_, p4_⟩ := p4_
  have hF5_ : ai_fr (sx_W vw_191) S0_ S1_ := ai_fr_tr hF_ (fr_le hF3_ rfl)
  have hb2_ : S1_.2.2.1 98 0 = b_ := (fr_arr hF3_ rfl).trans hb_
  have hn2_ : S1_.1 10 0 1 = (n_ : Int) := (hF3_.1 10 0 1 rfl).trans hn_
  have hk_ := p4_
  have hkl_ := lx_k_le (b := b_) hpn_
  have e9_ : S1_.2.2.1 98 0 (S1_.1 10 0 8).toNat = b_ (lx_k b_ n_ q_) := by rw [hb2_, hk_]; rfl
  have b6_ : 0 ≤ S1_.1 10 0 8 ∧ S1_.1 10 0 8 ≤ 1280 := hI2_.1 10 0 8 rfl
  have hI7_ : gi (sm_pI S1_ 10 0 3 (S1_.1 10 0 8)) := gi_pI hI2_ (show 0 ≤ (S1_.1 10 0 8) ∧ (S1_.1 10 0 8) ≤ 1280 from ⟨by omega, by omega⟩)
  have hF8_ : ai_fr (sx_W vw_191) S0_ (sm_pI S1_ 10 0 3 (S1_.1 10 0 8)) := ai_fr_tr hF5_ (ai_fr_pI rfl)
  have hI9_ : gi (sm_pI (sm_pI S1_ 10 0 3 (S1_.1 10 0 8)) 10 0 4 0) := gi_pI hI7_ (show 0 ≤ 0 ∧ 0 ≤ 1280 from ⟨by omega, by omega⟩)
  have hF10_ : ai_fr (sx_W vw_191) S0_ (sm_pI (sm_pI S1_ 10 0 3 (S1_.1 10 0 8)) 10 0 4 0) := ai_fr_tr hF8_ (ai_fr_pI rfl)
  have b11_ : 0 ≤ S1_.1 10 0 1 ∧ S1_.1 10 0 1 ≤ 1280 := hI2_.1 10 0 1 rfl
  refine sm_T_go 11 (c1 := (25, [some (.inr (.inr (some (10, 0)))), none, none], [.inl (S1_.1 10 0 1), .inl (S1_.1 10 0 8)], sm_pI (sm_pI S1_ 10 0 3 (S1_.1 10 0 8)) 10 0 4 0)) rfl ?_
  refine sm_T_br (a := 2) (z := 9) rfl (fun c12_ => ?_) (fun c12_ => ?_)
  · have c12_ : (S1_.1 10 0 8) < (S1_.1 10 0 1) := of_decide_eq_true c12_
    refine sm_T_go 4 (c1 := (42, [some (.inr (.inr (some (10, 0)))), none, none], [.inl (S1_.1 10 0 8), .inr (.inr (some (98, 0)))], sm_pI (sm_pI S1_ 10 0 3 (S1_.1 10 0 8)) 10 0 4 0)) rfl ?_
    refine sm_T_bald (n := 65536) rfl rfl (by omega) (by omega) ?_
    have b13_ : (-128) ≤ S1_.2.2.1 98 0 (S1_.1 10 0 8).toNat ∧ S1_.2.2.1 98 0 (S1_.1 10 0 8).toNat ≤ 127 := hI2_.2 98 0 _
    refine sm_T_go 3 (c1 := (47, [some (.inr (.inr (some (10, 0)))), some (.inl (S1_.2.2.1 98 0 (S1_.1 10 0 8).toNat)), none], [.inl 32, .inl (S1_.2.2.1 98 0 (S1_.1 10 0 8).toNat)], sm_pI (sm_pI S1_ 10 0 3 (S1_.1 10 0 8)) 10 0 4 0)) rfl ?_
    refine sm_T_bin (w := (i_or (S1_.2.2.1 98 0 (S1_.1 10 0 8).toNat) 32)) rfl rfl ?_
    have b14_ := lx_or (x := (S1_.2.2.1 98 0 (S1_.1 10 0 8).toNat)) (by omega) (by omega)
    refine sm_T_go 1 (c1 := (50, [some (.inr (.inr (some (10, 0)))), some (.inl (S1_.2.2.1 98 0 (S1_.1 10 0 8).toNat)), none], [.inl 97, .inl (i_or (S1_.2.2.1 98 0 (S1_.1 10 0 8).toNat) 32)], sm_pI (sm_pI S1_ 10 0 3 (S1_.1 10 0 8)) 10 0 4 0)) rfl ?_
    refine sm_T_br (a := 2) (z := 12) rfl (fun c15_ => ?_) (fun c15_ => ?_)
    · have c15_ : (i_or (S1_.2.2.1 98 0 (S1_.1 10 0 8).toNat) 32) < 97 := of_decide_eq_true c15_
      refine sm_T_go 2 (c1 := (65, [some (.inr (.inr (some (10, 0)))), some (.inl (S1_.2.2.1 98 0 (S1_.1 10 0 8).toNat)), none], [.inl 95, .inl (S1_.2.2.1 98 0 (S1_.1 10 0 8).toNat)], sm_pI (sm_pI S1_ 10 0 3 (S1_.1 10 0 8)) 10 0 4 0)) rfl ?_
      refine sm_T_br (a := 1) (z := 11) rfl (fun c16_ => ?_) (fun c16_ => ?_)
      · have c16_ : (S1_.2.2.1 98 0 (S1_.1 10 0 8).toNat) ≠ 95 := of_decide_eq_true c16_
        refine sm_T_go 2 (c1 := (79, [some (.inr (.inr (some (10, 0)))), some (.inl (S1_.2.2.1 98 0 (S1_.1 10 0 8).toNat)), none], [.inl 48, .inl (S1_.2.2.1 98 0 (S1_.1 10 0 8).toNat)], sm_pI (sm_pI S1_ 10 0 3 (S1_.1 10 0 8)) 10 0 4 0)) rfl ?_
        refine sm_T_br (a := 2) (z := 17) rfl (fun c17_ => ?_) (fun c17_ => ?_)
        · have c17_ : (S1_.2.2.1 98 0 (S1_.1 10 0 8).toNat) < 48 := of_decide_eq_true c17_
          refine sm_T_go 2 (c1 := (98, [some (.inr (.inr (some (10, 0)))), some (.inl (S1_.2.2.1 98 0 (S1_.1 10 0 8).toNat)), none], [.inl (S1_.2.2.1 98 0 (S1_.1 10 0 8).toNat), .inr (.inr (some (10, 0)))], sm_pI (sm_pI S1_ 10 0 3 (S1_.1 10 0 8)) 10 0 4 0)) rfl ?_
          refine sm_T_cal (d1 := 0) (Q1 := vq_195 (S1_.2.2.1 98 0 (S1_.1 10 0 8).toNat) b_ n_ (lx_k b_ n_ q_) (sm_pI (sm_pI S1_ 10 0 3 (S1_.1 10 0 8)) 10 0 4 0)) rfl rfl (by decide) (vc_195 (S1_.2.2.1 98 0 (S1_.1 10 0 8).toNat) b_ n_ (lx_k b_ n_ q_) (sm_pI (sm_pI S1_ 10 0 3 (S1_.1 10 0 8)) 10 0 4 0) hI9_ (by exact hb2_) (by exact hn2_) (by exact hn1_) (by exact hk_) (by omega) (by exact e9_)) (fun u_ S18_ p21_ => ?_)
          obtain ⟨v23_, rfl, hI19_, hF20_, p21_⟩ := p21_
          have hF22_ : ai_fr (sx_W vw_191) S0_ S18_ := ai_fr_tr hF10_ (fr_le hF20_ rfl)
          have hb3_ : S18_.2.2.1 98 0 = b_ := (fr_arr hF20_ rfl).trans hb2_
          have hn3_ : S18_.1 10 0 1 = (n_ : Int) := (hF20_.1 10 0 1 rfl).trans hn2_
          have hst_ : S18_.1 10 0 3 = (lx_k b_ n_ q_ : Nat) := (hF20_.1 10 0 3 rfl).trans hk_
          have hr_ := p21_
          have hl_ : ¬ lx_l (b_ (lx_k b_ n_ q_)) := by omega
          have hg_ : ¬ lx_g (b_ (lx_k b_ n_ q_)) := by omega
          have hkd_ : lx_kd b_ n_ (lx_k b_ n_ q_) = if lx_sk b_ n_ (lx_k b_ n_ q_) = 0 then -1 else lx_sk b_ n_ (lx_k b_ n_ q_) := by unfold lx_kd; rw [if_neg (by omega), if_neg hl_, if_neg hg_]
          have hsk_ := lx_sk_b (b := b_) (n := n_) (p := (lx_k b_ n_ q_))
          have hen_ : lx_en b_ n_ (lx_k b_ n_ q_) = lx_sn b_ n_ (lx_k b_ n_ q_) := by unfold lx_en; rw [if_neg (by omega), if_neg hl_, if_neg hg_]
          have hsz_ : lx_sz b_ n_ (lx_k b_ n_ q_) = 0 := by unfold lx_sz; rw [if_neg (by omega), if_neg hl_, if_neg hg_]
          have hzz_ : S18_.1 10 0 4 = 0 := (hF20_.1 10 0 4 rfl).trans rfl
          have hvv_ : lx_kd b_ n_ (lx_k b_ n_ q_) = 2 → S18_.1 10 0 5 = lx_vl b_ n_ (lx_k b_ n_ q_) := by intro h_; rw [hkd_] at h_; split at h_ <;> omega
          refine sm_T_go 2 (c1 := (103, [some (.inr (.inr (some (10, 0)))), some (.inl (S1_.2.2.1 98 0 (S1_.1 10 0 8).toNat)), some (.inl v23_)], [.inl v23_], S18_)) rfl ?_
          refine sm_T_b0 (a := 1) (z := 12) rfl (fun c24_ => ?_) (fun c24_ => ?_)
          · have c24_ : v23_ ≠ 0 := of_decide_eq_true c24_
            refine sm_T_rv rfl (Or.inl ⟨_, _, rfl, rfl, hI19_, hF22_, ?_⟩)
            refine ⟨hb3_, hn3_, hn1_, by omega, ?_, hst_, ?_, ?_, ?_, hvv_⟩
            · rw [hkd_]; split <;> omega
            · rw [hen_]; exact hr_.2.1
            · first | (rw [hkd_, if_pos (by omega)]; exact hr_.2.2.2) | (rw [hkd_, if_pos (by omega)]; exact hr_.2.2.2.1) | (rw [hkd_, if_neg (by omega)]; exact hr_.2.2 (by omega))
            · rw [hsz_]; first | exact hr_.2.2.1 | exact hzz_
          · have c24_ : ¬ (v23_ ≠ 0) := of_decide_eq_false c24_
            have b25_ : 0 ≤ S18_.1 10 0 3 ∧ S18_.1 10 0 3 ≤ 1280 := hI19_.1 10 0 3 rfl
            refine sm_T_go 4 (c1 := (112, [some (.inr (.inr (some (10, 0)))), some (.inl (S1_.2.2.1 98 0 (S1_.1 10 0 8).toNat)), some (.inl v23_)], [.inl (S18_.1 10 0 3), .inl 1, .inr (.inr (some (10, 0)))], S18_)) rfl ?_
            refine sm_T_calx (d1 := 0) (Q1 := vq_187 1 (S18_.1 10 0 3) S18_) (Q2 := vx_187 1 (S18_.1 10 0 3) S18_) rfl rfl (by decide) (vc_187 1 (S18_.1 10 0 3) S18_ hI19_ (by decide) (by omega)) rfl (fun S26_ p29_ => ?_) (fun u_ S26_ p29_ => ?_)
            · obtain ⟨hI27_, hF28_, p29_⟩ := p29_
              refine Or.inr ⟨_, rfl, hI27_, ai_fr_tr hF22_ (fr_le hF28_ rfl), ?_⟩
              refine ⟨?_, p29_.1, p29_.2.trans hst_⟩
              rw [hkd_]; first | (rw [if_neg (by omega)]) | (rw [if_pos (by omega)])
            · exact (p29_.2.2.2).elim
        · have c17_ : ¬ ((S1_.2.2.1 98 0 (S1_.1 10 0 8).toNat) < 48) := of_decide_eq_false c17_
          refine sm_T_go 2 (c1 := (85, [some (.inr (.inr (some (10, 0)))), some (.inl (S1_.2.2.1 98 0 (S1_.1 10 0 8).toNat)), none], [.inl 57, .inl (S1_.2.2.1 98 0 (S1_.1 10 0 8).toNat)], sm_pI (sm_pI S1_ 10 0 3 (S1_.1 10 0 8)) 10 0 4 0)) rfl ?_
          refine sm_T_br (a := 4) (z := 11) rfl (fun c31_ => ?_) (fun c31_ => ?_)
          · have c31_ : 57 < (S1_.2.2.1 98 0 (S1_.1 10 0 8).toNat) := of_decide_eq_true c31_
            refine sm_T_go 2 (c1 := (98, [some (.inr (.inr (some (10, 0)))), some (.inl (S1_.2.2.1 98 0 (S1_.1 10 0 8).toNat)), none], [.inl (S1_.2.2.1 98 0 (S1_.1 10 0 8).toNat), .inr (.inr (some (10, 0)))], sm_pI (sm_pI S1_ 10 0 3 (S1_.1 10 0 8)) 10 0 4 0)) rfl ?_
            refine sm_T_cal (d1 := 0) (Q1 := vq_195 (S1_.2.2.1 98 0 (S1_.1 10 0 8).toNat) b_ n_ (lx_k b_ n_ q_) (sm_pI (sm_pI S1_ 10 0 3 (S1_.1 10 0 8)) 10 0 4 0)) rfl rfl (by decide) (vc_195 (S1_.2.2.1 98 0 (S1_.1 10 0 8).toNat) b_ n_ (lx_k b_ n_ q_) (sm_pI (sm_pI S1_ 10 0 3 (S1_.1 10 0 8)) 10 0 4 0) hI9_ (by exact hb2_) (by exact hn2_) (by exact hn1_) (by exact hk_) (by omega) (by exact e9_)) (fun u_ S32_ p35_ => ?_)
            obtain ⟨v37_, rfl, hI33_, hF34_, p35_⟩ := p35_
            have hF36_ : ai_fr (sx_W vw_191) S0_ S32_ := ai_fr_tr hF10_ (fr_le hF34_ rfl)
            have hb3_ : S32_.2.2.1 98 0 = b_ := (fr_arr hF34_ rfl).trans hb2_
            have hn3_ : S32_.1 10 0 1 = (n_ : Int) := (hF34_.1 10 0 1 rfl).trans hn2_
            have hst_ : S32_.1 10 0 3 = (lx_k b_ n_ q_ : Nat) := (hF34_.1 10 0 3 rfl).trans hk_
            have hr_ := p35_
            have hl_ : ¬ lx_l (b_ (lx_k b_ n_ q_)) := by omega
            have hg_ : ¬ lx_g (b_ (lx_k b_ n_ q_)) := by omega
            have hkd_ : lx_kd b_ n_ (lx_k b_ n_ q_) = if lx_sk b_ n_ (lx_k b_ n_ q_) = 0 then -1 else lx_sk b_ n_ (lx_k b_ n_ q_) := by unfold lx_kd; rw [if_neg (by omega), if_neg hl_, if_neg hg_]
            have hsk_ := lx_sk_b (b := b_) (n := n_) (p := (lx_k b_ n_ q_))
            have hen_ : lx_en b_ n_ (lx_k b_ n_ q_) = lx_sn b_ n_ (lx_k b_ n_ q_) := by unfold lx_en; rw [if_neg (by omega), if_neg hl_, if_neg hg_]
            have hsz_ : lx_sz b_ n_ (lx_k b_ n_ q_) = 0 := by unfold lx_sz; rw [if_neg (by omega), if_neg hl_, if_neg hg_]
            have hzz_ : S32_.1 10 0 4 = 0 := (hF34_.1 10 0 4 rfl).trans rfl
            have hvv_ : lx_kd b_ n_ (lx_k b_ n_ q_) = 2 → S32_.1 10 0 5 = lx_vl b_ n_ (lx_k b_ n_ q_) := by intro h_; rw [hkd_] at h_; split at h_ <;> omega
            refine sm_T_go 2 (c1 := (103, [some (.inr (.inr (some (10, 0)))), some (.inl (S1_.2.2.1 98 0 (S1_.1 10 0 8).toNat)), some (.inl v37_)], [.inl v37_], S32_)) rfl ?_
            refine sm_T_b0 (a := 1) (z := 12) rfl (fun c38_ => ?_) (fun c38_ => ?_)
            · have c38_ : v37_ ≠ 0 := of_decide_eq_true c38_
              refine sm_T_rv rfl (Or.inl ⟨_, _, rfl, rfl, hI33_, hF36_, ?_⟩)
              refine ⟨hb3_, hn3_, hn1_, by omega, ?_, hst_, ?_, ?_, ?_, hvv_⟩
              · rw [hkd_]; split <;> omega
              · rw [hen_]; exact hr_.2.1
              · first | (rw [hkd_, if_pos (by omega)]; exact hr_.2.2.2) | (rw [hkd_, if_pos (by omega)]; exact hr_.2.2.2.1) | (rw [hkd_, if_neg (by omega)]; exact hr_.2.2 (by omega))
              · rw [hsz_]; first | exact hr_.2.2.1 | exact hzz_
            · have c38_ : ¬ (v37_ ≠ 0) := of_decide_eq_false c38_
              have b39_ : 0 ≤ S32_.1 10 0 3 ∧ S32_.1 10 0 3 ≤ 1280 := hI33_.1 10 0 3 rfl
              refine sm_T_go 4 (c1 := (112, [some (.inr (.inr (some (10, 0)))), some (.inl (S1_.2.2.1 98 0 (S1_.1 10 0 8).toNat)), some (.inl v37_)], [.inl (S32_.1 10 0 3), .inl 1, .inr (.inr (some (10, 0)))], S32_)) rfl ?_
              refine sm_T_calx (d1 := 0) (Q1 := vq_187 1 (S32_.1 10 0 3) S32_) (Q2 := vx_187 1 (S32_.1 10 0 3) S32_) rfl rfl (by decide) (vc_187 1 (S32_.1 10 0 3) S32_ hI33_ (by decide) (by omega)) rfl (fun S40_ p43_ => ?_) (fun u_ S40_ p43_ => ?_)
              · obtain ⟨hI41_, hF42_, p43_⟩ := p43_
                refine Or.inr ⟨_, rfl, hI41_, ai_fr_tr hF36_ (fr_le hF42_ rfl), ?_⟩
                refine ⟨?_, p43_.1, p43_.2.trans hst_⟩
                rw [hkd_]; first | (rw [if_neg (by omega)]) | (rw [if_pos (by omega)])
              · exact (p43_.2.2.2).elim
          · have c31_ : ¬ (57 < (S1_.2.2.1 98 0 (S1_.1 10 0 8).toNat)) := of_decide_eq_false c31_
            refine sm_T_go 1 (c1 := (89, [some (.inr (.inr (some (10, 0)))), some (.inl (S1_.2.2.1 98 0 (S1_.1 10 0 8).toNat)), none], [.inr (.inr (some (10, 0)))], sm_pI (sm_pI S1_ 10 0 3 (S1_.1 10 0 8)) 10 0 4 0)) rfl ?_
            refine sm_T_cal (d1 := 0) (Q1 := vq_194 b_ n_ (lx_k b_ n_ q_) (sm_pI (sm_pI S1_ 10 0 3 (S1_.1 10 0 8)) 10 0 4 0)) rfl rfl (by decide) (vc_194 b_ n_ (lx_k b_ n_ q_) (sm_pI (sm_pI S1_ 10 0 3 (S1_.1 10 0 8)) 10 0 4 0) hI9_ (by exact hb2_) (by exact hn2_) (by exact hn1_) (by exact hk_) (by omega) (by rfl)) (fun u_ S45_ p48_ => ?_)
            obtain ⟨v50_, rfl, hI46_, hF47_, p48_⟩ := p48_
            have hF49_ : ai_fr (sx_W vw_191) S0_ S45_ := ai_fr_tr hF10_ (fr_le hF47_ rfl)
            have hb3_ : S45_.2.2.1 98 0 = b_ := (fr_arr hF47_ rfl).trans hb2_
            have hn3_ : S45_.1 10 0 1 = (n_ : Int) := (hF47_.1 10 0 1 rfl).trans hn2_
            have hst_ : S45_.1 10 0 3 = (lx_k b_ n_ q_ : Nat) := (hF47_.1 10 0 3 rfl).trans hk_
            have hr_ := p48_
            have hl_ : ¬ lx_l (b_ (lx_k b_ n_ q_)) := by omega
            have hg_ : lx_g (b_ (lx_k b_ n_ q_)) := by omega
            have hkd_ : lx_kd b_ n_ (lx_k b_ n_ q_) = if lx_de b_ n_ (lx_k b_ n_ q_) - (lx_k b_ n_ q_) ≤ 6 then 2 else -1 := by unfold lx_kd; rw [if_neg (by omega), if_neg hl_, if_pos hg_]
            have hen_ : lx_en b_ n_ (lx_k b_ n_ q_) = lx_de b_ n_ (lx_k b_ n_ q_) := by unfold lx_en; rw [if_neg (by omega), if_neg hl_, if_pos hg_]
            have hsz_ : lx_sz b_ n_ (lx_k b_ n_ q_) = lx_de b_ n_ (lx_k b_ n_ q_) - (lx_k b_ n_ q_) := by unfold lx_sz; rw [if_neg (by omega), if_neg hl_, if_pos hg_]
            have hvv_ : lx_kd b_ n_ (lx_k b_ n_ q_) = 2 → S45_.1 10 0 5 = lx_vl b_ n_ (lx_k b_ n_ q_) := fun _ => hr_.2.2.2.2
            refine sm_T_go 3 (c1 := (103, [some (.inr (.inr (some (10, 0)))), some (.inl (S1_.2.2.1 98 0 (S1_.1 10 0 8).toNat)), some (.inl v50_)], [.inl v50_], S45_)) rfl ?_
            refine sm_T_b0 (a := 1) (z := 12) rfl (fun c51_ => ?_) (fun c51_ => ?_)
            · have c51_ : v50_ ≠ 0 := of_decide_eq_true c51_
              refine sm_T_rv rfl (Or.inl ⟨_, _, rfl, rfl, hI46_, hF49_, ?_⟩)
              refine ⟨hb3_, hn3_, hn1_, by omega, ?_, hst_, ?_, ?_, ?_, hvv_⟩
              · rw [hkd_]; split <;> omega
              · rw [hen_]; exact hr_.2.1
              · first | (rw [hkd_, if_pos (by omega)]; exact hr_.2.2.2) | (rw [hkd_, if_pos (by omega)]; exact hr_.2.2.2.1) | (rw [hkd_, if_neg (by omega)]; exact hr_.2.2 (by omega))
              · rw [hsz_]; first | exact hr_.2.2.1 | exact hzz_
            · have c51_ : ¬ (v50_ ≠ 0) := of_decide_eq_false c51_
              have b52_ : 0 ≤ S45_.1 10 0 3 ∧ S45_.1 10 0 3 ≤ 1280 := hI46_.1 10 0 3 rfl
              refine sm_T_go 4 (c1 := (112, [some (.inr (.inr (some (10, 0)))), some (.inl (S1_.2.2.1 98 0 (S1_.1 10 0 8).toNat)), some (.inl v50_)], [.inl (S45_.1 10 0 3), .inl 1, .inr (.inr (some (10, 0)))], S45_)) rfl ?_
              refine sm_T_calx (d1 := 0) (Q1 := vq_187 1 (S45_.1 10 0 3) S45_) (Q2 := vx_187 1 (S45_.1 10 0 3) S45_) rfl rfl (by decide) (vc_187 1 (S45_.1 10 0 3) S45_ hI46_ (by decide) (by omega)) rfl (fun S53_ p56_ => ?_) (fun u_ S53_ p56_ => ?_)
              · obtain ⟨hI54_, hF55_, p56_⟩ := p56_
                refine Or.inr ⟨_, rfl, hI54_, ai_fr_tr hF49_ (fr_le hF55_ rfl), ?_⟩
                refine ⟨?_, p56_.1, p56_.2.trans hst_⟩
                rw [hkd_]; first | (rw [if_neg (by omega)]) | (rw [if_pos (by omega)])
              · exact (p56_.2.2.2).elim
      · have c16_ : ¬ ((S1_.2.2.1 98 0 (S1_.1 10 0 8).toNat) ≠ 95) := of_decide_eq_false c16_
        refine sm_T_go 1 (c1 := (69, [some (.inr (.inr (some (10, 0)))), some (.inl (S1_.2.2.1 98 0 (S1_.1 10 0 8).toNat)), none], [.inr (.inr (some (10, 0)))], sm_pI (sm_pI S1_ 10 0 3 (S1_.1 10 0 8)) 10 0 4 0)) rfl ?_
        refine sm_T_cal (d1 := 0) (Q1 := vq_193 b_ n_ (lx_k b_ n_ q_) (sm_pI (sm_pI S1_ 10 0 3 (S1_.1 10 0 8)) 10 0 4 0)) rfl rfl (by decide) (vc_193 b_ n_ (lx_k b_ n_ q_) (sm_pI (sm_pI S1_ 10 0 3 (S1_.1 10 0 8)) 10 0 4 0) hI9_ (by exact hb2_) (by exact hn2_) (by exact hn1_) (by exact hk_) (by omega) (by rfl)) (fun u_ S58_ p61_ => ?_)
        obtain ⟨v63_, rfl, hI59_, hF60_, p61_⟩ := p61_
        have hF62_ : ai_fr (sx_W vw_191) S0_ S58_ := ai_fr_tr hF10_ (fr_le hF60_ rfl)
        have hb3_ : S58_.2.2.1 98 0 = b_ := (fr_arr hF60_ rfl).trans hb2_
        have hn3_ : S58_.1 10 0 1 = (n_ : Int) := (hF60_.1 10 0 1 rfl).trans hn2_
        have hst_ : S58_.1 10 0 3 = (lx_k b_ n_ q_ : Nat) := (hF60_.1 10 0 3 rfl).trans hk_
        have hr_ := p61_
        have hl_ : lx_l (b_ (lx_k b_ n_ q_)) := by omega
        have hw_ := lx_wk_7 (lx_pk b_ (lx_k b_ n_ q_) (lx_ne b_ n_ (lx_k b_ n_ q_) - (lx_k b_ n_ q_)))
        have hkd_ : lx_kd b_ n_ (lx_k b_ n_ q_) = if lx_ne b_ n_ (lx_k b_ n_ q_) - (lx_k b_ n_ q_) ≤ 12 then lx_wk (lx_pk b_ (lx_k b_ n_ q_) (lx_ne b_ n_ (lx_k b_ n_ q_) - (lx_k b_ n_ q_))) 7 else -1 := by unfold lx_kd; rw [if_neg (by omega), if_pos hl_]
        have hen_ : lx_en b_ n_ (lx_k b_ n_ q_) = lx_ne b_ n_ (lx_k b_ n_ q_) := by unfold lx_en; rw [if_neg (by omega), if_pos hl_]
        have hsz_ : lx_sz b_ n_ (lx_k b_ n_ q_) = lx_ne b_ n_ (lx_k b_ n_ q_) - (lx_k b_ n_ q_) := by unfold lx_sz; rw [if_neg (by omega), if_pos hl_]
        have hvv_ : lx_kd b_ n_ (lx_k b_ n_ q_) = 2 → S58_.1 10 0 5 = lx_vl b_ n_ (lx_k b_ n_ q_) := by intro h_; rw [hkd_] at h_; split at h_ <;> omega
        refine sm_T_go 3 (c1 := (103, [some (.inr (.inr (some (10, 0)))), some (.inl (S1_.2.2.1 98 0 (S1_.1 10 0 8).toNat)), some (.inl v63_)], [.inl v63_], S58_)) rfl ?_
        refine sm_T_b0 (a := 1) (z := 12) rfl (fun c64_ => ?_) (fun c64_ => ?_)
        · have c64_ : v63_ ≠ 0 := of_decide_eq_true c64_
          refine sm_T_rv rfl (Or.inl ⟨_, _, rfl, rfl, hI59_, hF62_, ?_⟩)
          refine ⟨hb3_, hn3_, hn1_, by omega, ?_, hst_, ?_, ?_, ?_, hvv_⟩
          · rw [hkd_]; split <;> omega
          · rw [hen_]; exact hr_.2.1
          · first | (rw [hkd_, if_pos (by omega)]; exact hr_.2.2.2) | (rw [hkd_, if_pos (by omega)]; exact hr_.2.2.2.1) | (rw [hkd_, if_neg (by omega)]; exact hr_.2.2 (by omega))
          · rw [hsz_]; first | exact hr_.2.2.1 | exact hzz_
        · have c64_ : ¬ (v63_ ≠ 0) := of_decide_eq_false c64_
          have b65_ : 0 ≤ S58_.1 10 0 3 ∧ S58_.1 10 0 3 ≤ 1280 := hI59_.1 10 0 3 rfl
          refine sm_T_go 4 (c1 := (112, [some (.inr (.inr (some (10, 0)))), some (.inl (S1_.2.2.1 98 0 (S1_.1 10 0 8).toNat)), some (.inl v63_)], [.inl (S58_.1 10 0 3), .inl 1, .inr (.inr (some (10, 0)))], S58_)) rfl ?_
          refine sm_T_calx (d1 := 0) (Q1 := vq_187 1 (S58_.1 10 0 3) S58_) (Q2 := vx_187 1 (S58_.1 10 0 3) S58_) rfl rfl (by decide) (vc_187 1 (S58_.1 10 0 3) S58_ hI59_ (by decide) (by omega)) rfl (fun S66_ p69_ => ?_) (fun u_ S66_ p69_ => ?_)
          · obtain ⟨hI67_, hF68_, p69_⟩ := p69_
            refine Or.inr ⟨_, rfl, hI67_, ai_fr_tr hF62_ (fr_le hF68_ rfl), ?_⟩
            refine ⟨?_, p69_.1, p69_.2.trans hst_⟩
            rw [hkd_]; first | (rw [if_neg (by omega)]) | (rw [if_pos (by omega)])
          · exact (p69_.2.2.2).elim
    · have c15_ : ¬ ((i_or (S1_.2.2.1 98 0 (S1_.1 10 0 8).toNat) 32) < 97) := of_decide_eq_false c15_
      refine sm_T_go 2 (c1 := (56, [some (.inr (.inr (some (10, 0)))), some (.inl (S1_.2.2.1 98 0 (S1_.1 10 0 8).toNat)), none], [.inl 32, .inl (S1_.2.2.1 98 0 (S1_.1 10 0 8).toNat)], sm_pI (sm_pI S1_ 10 0 3 (S1_.1 10 0 8)) 10 0 4 0)) rfl ?_
      refine sm_T_bin (w := (i_or (S1_.2.2.1 98 0 (S1_.1 10 0 8).toNat) 32)) rfl rfl ?_
      have b71_ := lx_or (x := (S1_.2.2.1 98 0 (S1_.1 10 0 8).toNat)) (by omega) (by omega)
      refine sm_T_go 1 (c1 := (59, [some (.inr (.inr (some (10, 0)))), some (.inl (S1_.2.2.1 98 0 (S1_.1 10 0 8).toNat)), none], [.inl 122, .inl (i_or (S1_.2.2.1 98 0 (S1_.1 10 0 8).toNat) 32)], sm_pI (sm_pI S1_ 10 0 3 (S1_.1 10 0 8)) 10 0 4 0)) rfl ?_
      refine sm_T_br (a := 5) (z := 9) rfl (fun c72_ => ?_) (fun c72_ => ?_)
      · have c72_ : (i_or (S1_.2.2.1 98 0 (S1_.1 10 0 8).toNat) 32) ≤ 122 := of_decide_eq_true c72_
        refine sm_T_go 1 (c1 := (69, [some (.inr (.inr (some (10, 0)))), some (.inl (S1_.2.2.1 98 0 (S1_.1 10 0 8).toNat)), none], [.inr (.inr (some (10, 0)))], sm_pI (sm_pI S1_ 10 0 3 (S1_.1 10 0 8)) 10 0 4 0)) rfl ?_
        refine sm_T_cal (d1 := 0) (Q1 := vq_193 b_ n_ (lx_k b_ n_ q_) (sm_pI (sm_pI S1_ 10 0 3 (S1_.1 10 0 8)) 10 0 4 0)) rfl rfl (by decide) (vc_193 b_ n_ (lx_k b_ n_ q_) (sm_pI (sm_pI S1_ 10 0 3 (S1_.1 10 0 8)) 10 0 4 0) hI9_ (by exact hb2_) (by exact hn2_) (by exact hn1_) (by exact hk_) (by omega) (by rfl)) (fun u_ S73_ p76_ => ?_)
        obtain ⟨v78_, rfl, hI74_, hF75_, p76_⟩ := p76_
        have hF77_ : ai_fr (sx_W vw_191) S0_ S73_ := ai_fr_tr hF10_ (fr_le hF75_ rfl)
        have hb3_ : S73_.2.2.1 98 0 = b_ := (fr_arr hF75_ rfl).trans hb2_
        have hn3_ : S73_.1 10 0 1 = (n_ : Int) := (hF75_.1 10 0 1 rfl).trans hn2_
        have hst_ : S73_.1 10 0 3 = (lx_k b_ n_ q_ : Nat) := (hF75_.1 10 0 3 rfl).trans hk_
        have hr_ := p76_
        have hl_ : lx_l (b_ (lx_k b_ n_ q_)) := by omega
        have hw_ := lx_wk_7 (lx_pk b_ (lx_k b_ n_ q_) (lx_ne b_ n_ (lx_k b_ n_ q_) - (lx_k b_ n_ q_)))
        have hkd_ : lx_kd b_ n_ (lx_k b_ n_ q_) = if lx_ne b_ n_ (lx_k b_ n_ q_) - (lx_k b_ n_ q_) ≤ 12 then lx_wk (lx_pk b_ (lx_k b_ n_ q_) (lx_ne b_ n_ (lx_k b_ n_ q_) - (lx_k b_ n_ q_))) 7 else -1 := by unfold lx_kd; rw [if_neg (by omega), if_pos hl_]
        have hen_ : lx_en b_ n_ (lx_k b_ n_ q_) = lx_ne b_ n_ (lx_k b_ n_ q_) := by unfold lx_en; rw [if_neg (by omega), if_pos hl_]
        have hsz_ : lx_sz b_ n_ (lx_k b_ n_ q_) = lx_ne b_ n_ (lx_k b_ n_ q_) - (lx_k b_ n_ q_) := by unfold lx_sz; rw [if_neg (by omega), if_pos hl_]
        have hvv_ : lx_kd b_ n_ (lx_k b_ n_ q_) = 2 → S73_.1 10 0 5 = lx_vl b_ n_ (lx_k b_ n_ q_) := by intro h_; rw [hkd_] at h_; split at h_ <;> omega
        refine sm_T_go 3 (c1 := (103, [some (.inr (.inr (some (10, 0)))), some (.inl (S1_.2.2.1 98 0 (S1_.1 10 0 8).toNat)), some (.inl v78_)], [.inl v78_], S73_)) rfl ?_
        refine sm_T_b0 (a := 1) (z := 12) rfl (fun c79_ => ?_) (fun c79_ => ?_)
        · have c79_ : v78_ ≠ 0 := of_decide_eq_true c79_
          refine sm_T_rv rfl (Or.inl ⟨_, _, rfl, rfl, hI74_, hF77_, ?_⟩)
          refine ⟨hb3_, hn3_, hn1_, by omega, ?_, hst_, ?_, ?_, ?_, hvv_⟩
          · rw [hkd_]; split <;> omega
          · rw [hen_]; exact hr_.2.1
          · first | (rw [hkd_, if_pos (by omega)]; exact hr_.2.2.2) | (rw [hkd_, if_pos (by omega)]; exact hr_.2.2.2.1) | (rw [hkd_, if_neg (by omega)]; exact hr_.2.2 (by omega))
          · rw [hsz_]; first | exact hr_.2.2.1 | exact hzz_
        · have c79_ : ¬ (v78_ ≠ 0) := of_decide_eq_false c79_
          have b80_ : 0 ≤ S73_.1 10 0 3 ∧ S73_.1 10 0 3 ≤ 1280 := hI74_.1 10 0 3 rfl
          refine sm_T_go 4 (c1 := (112, [some (.inr (.inr (some (10, 0)))), some (.inl (S1_.2.2.1 98 0 (S1_.1 10 0 8).toNat)), some (.inl v78_)], [.inl (S73_.1 10 0 3), .inl 1, .inr (.inr (some (10, 0)))], S73_)) rfl ?_
          refine sm_T_calx (d1 := 0) (Q1 := vq_187 1 (S73_.1 10 0 3) S73_) (Q2 := vx_187 1 (S73_.1 10 0 3) S73_) rfl rfl (by decide) (vc_187 1 (S73_.1 10 0 3) S73_ hI74_ (by decide) (by omega)) rfl (fun S81_ p84_ => ?_) (fun u_ S81_ p84_ => ?_)
          · obtain ⟨hI82_, hF83_, p84_⟩ := p84_
            refine Or.inr ⟨_, rfl, hI82_, ai_fr_tr hF77_ (fr_le hF83_ rfl), ?_⟩
            refine ⟨?_, p84_.1, p84_.2.trans hst_⟩
            rw [hkd_]; first | (rw [if_neg (by omega)]) | (rw [if_pos (by omega)])
          · exact (p84_.2.2.2).elim
      · have c72_ : ¬ ((i_or (S1_.2.2.1 98 0 (S1_.1 10 0 8).toNat) 32) ≤ 122) := of_decide_eq_false c72_
        refine sm_T_go 2 (c1 := (65, [some (.inr (.inr (some (10, 0)))), some (.inl (S1_.2.2.1 98 0 (S1_.1 10 0 8).toNat)), none], [.inl 95, .inl (S1_.2.2.1 98 0 (S1_.1 10 0 8).toNat)], sm_pI (sm_pI S1_ 10 0 3 (S1_.1 10 0 8)) 10 0 4 0)) rfl ?_
        refine sm_T_br (a := 1) (z := 11) rfl (fun c86_ => ?_) (fun c86_ => ?_)
        · have c86_ : (S1_.2.2.1 98 0 (S1_.1 10 0 8).toNat) ≠ 95 := of_decide_eq_true c86_
          refine sm_T_go 2 (c1 := (79, [some (.inr (.inr (some (10, 0)))), some (.inl (S1_.2.2.1 98 0 (S1_.1 10 0 8).toNat)), none], [.inl 48, .inl (S1_.2.2.1 98 0 (S1_.1 10 0 8).toNat)], sm_pI (sm_pI S1_ 10 0 3 (S1_.1 10 0 8)) 10 0 4 0)) rfl ?_
          refine sm_T_br (a := 2) (z := 17) rfl (fun c87_ => ?_) (fun c87_ => ?_)
          · have c87_ : (S1_.2.2.1 98 0 (S1_.1 10 0 8).toNat) < 48 := of_decide_eq_true c87_
            refine sm_T_go 2 (c1 := (98, [some (.inr (.inr (some (10, 0)))), some (.inl (S1_.2.2.1 98 0 (S1_.1 10 0 8).toNat)), none], [.inl (S1_.2.2.1 98 0 (S1_.1 10 0 8).toNat), .inr (.inr (some (10, 0)))], sm_pI (sm_pI S1_ 10 0 3 (S1_.1 10 0 8)) 10 0 4 0)) rfl ?_
            refine sm_T_cal (d1 := 0) (Q1 := vq_195 (S1_.2.2.1 98 0 (S1_.1 10 0 8).toNat) b_ n_ (lx_k b_ n_ q_) (sm_pI (sm_pI S1_ 10 0 3 (S1_.1 10 0 8)) 10 0 4 0)) rfl rfl (by decide) (vc_195 (S1_.2.2.1 98 0 (S1_.1 10 0 8).toNat) b_ n_ (lx_k b_ n_ q_) (sm_pI (sm_pI S1_ 10 0 3 (S1_.1 10 0 8)) 10 0 4 0) hI9_ (by exact hb2_) (by exact hn2_) (by exact hn1_) (by exact hk_) (by omega) (by exact e9_)) (fun u_ S88_ p91_ => ?_)
            obtain ⟨v93_, rfl, hI89_, hF90_, p91_⟩ := p91_
            have hF92_ : ai_fr (sx_W vw_191) S0_ S88_ := ai_fr_tr hF10_ (fr_le hF90_ rfl)
            have hb3_ : S88_.2.2.1 98 0 = b_ := (fr_arr hF90_ rfl).trans hb2_
            have hn3_ : S88_.1 10 0 1 = (n_ : Int) := (hF90_.1 10 0 1 rfl).trans hn2_
            have hst_ : S88_.1 10 0 3 = (lx_k b_ n_ q_ : Nat) := (hF90_.1 10 0 3 rfl).trans hk_
            have hr_ := p91_
            have hl_ : ¬ lx_l (b_ (lx_k b_ n_ q_)) := by omega
            have hg_ : ¬ lx_g (b_ (lx_k b_ n_ q_)) := by omega
            have hkd_ : lx_kd b_ n_ (lx_k b_ n_ q_) = if lx_sk b_ n_ (lx_k b_ n_ q_) = 0 then -1 else lx_sk b_ n_ (lx_k b_ n_ q_) := by unfold lx_kd; rw [if_neg (by omega), if_neg hl_, if_neg hg_]
            have hsk_ := lx_sk_b (b := b_) (n := n_) (p := (lx_k b_ n_ q_))
            have hen_ : lx_en b_ n_ (lx_k b_ n_ q_) = lx_sn b_ n_ (lx_k b_ n_ q_) := by unfold lx_en; rw [if_neg (by omega), if_neg hl_, if_neg hg_]
            have hsz_ : lx_sz b_ n_ (lx_k b_ n_ q_) = 0 := by unfold lx_sz; rw [if_neg (by omega), if_neg hl_, if_neg hg_]
            have hzz_ : S88_.1 10 0 4 = 0 := (hF90_.1 10 0 4 rfl).trans rfl
            have hvv_ : lx_kd b_ n_ (lx_k b_ n_ q_) = 2 → S88_.1 10 0 5 = lx_vl b_ n_ (lx_k b_ n_ q_) := by intro h_; rw [hkd_] at h_; split at h_ <;> omega
            refine sm_T_go 2 (c1 := (103, [some (.inr (.inr (some (10, 0)))), some (.inl (S1_.2.2.1 98 0 (S1_.1 10 0 8).toNat)), some (.inl v93_)], [.inl v93_], S88_)) rfl ?_
            refine sm_T_b0 (a := 1) (z := 12) rfl (fun c94_ => ?_) (fun c94_ => ?_)
            · have c94_ : v93_ ≠ 0 := of_decide_eq_true c94_
              refine sm_T_rv rfl (Or.inl ⟨_, _, rfl, rfl, hI89_, hF92_, ?_⟩)
              refine ⟨hb3_, hn3_, hn1_, by omega, ?_, hst_, ?_, ?_, ?_, hvv_⟩
              · rw [hkd_]; split <;> omega
              · rw [hen_]; exact hr_.2.1
              · first | (rw [hkd_, if_pos (by omega)]; exact hr_.2.2.2) | (rw [hkd_, if_pos (by omega)]; exact hr_.2.2.2.1) | (rw [hkd_, if_neg (by omega)]; exact hr_.2.2 (by omega))
              · rw [hsz_]; first | exact hr_.2.2.1 | exact hzz_
            · have c94_ : ¬ (v93_ ≠ 0) := of_decide_eq_false c94_
              have b95_ : 0 ≤ S88_.1 10 0 3 ∧ S88_.1 10 0 3 ≤ 1280 := hI89_.1 10 0 3 rfl
              refine sm_T_go 4 (c1 := (112, [some (.inr (.inr (some (10, 0)))), some (.inl (S1_.2.2.1 98 0 (S1_.1 10 0 8).toNat)), some (.inl v93_)], [.inl (S88_.1 10 0 3), .inl 1, .inr (.inr (some (10, 0)))], S88_)) rfl ?_
              refine sm_T_calx (d1 := 0) (Q1 := vq_187 1 (S88_.1 10 0 3) S88_) (Q2 := vx_187 1 (S88_.1 10 0 3) S88_) rfl rfl (by decide) (vc_187 1 (S88_.1 10 0 3) S88_ hI89_ (by decide) (by omega)) rfl (fun S96_ p99_ => ?_) (fun u_ S96_ p99_ => ?_)
              · obtain ⟨hI97_, hF98_, p99_⟩ := p99_
                refine Or.inr ⟨_, rfl, hI97_, ai_fr_tr hF92_ (fr_le hF98_ rfl), ?_⟩
                refine ⟨?_, p99_.1, p99_.2.trans hst_⟩
                rw [hkd_]; first | (rw [if_neg (by omega)]) | (rw [if_pos (by omega)])
              · exact (p99_.2.2.2).elim
          · have c87_ : ¬ ((S1_.2.2.1 98 0 (S1_.1 10 0 8).toNat) < 48) := of_decide_eq_false c87_
            refine sm_T_go 2 (c1 := (85, [some (.inr (.inr (some (10, 0)))), some (.inl (S1_.2.2.1 98 0 (S1_.1 10 0 8).toNat)), none], [.inl 57, .inl (S1_.2.2.1 98 0 (S1_.1 10 0 8).toNat)], sm_pI (sm_pI S1_ 10 0 3 (S1_.1 10 0 8)) 10 0 4 0)) rfl ?_
            refine sm_T_br (a := 4) (z := 11) rfl (fun c101_ => ?_) (fun c101_ => ?_)
            · have c101_ : 57 < (S1_.2.2.1 98 0 (S1_.1 10 0 8).toNat) := of_decide_eq_true c101_
              refine sm_T_go 2 (c1 := (98, [some (.inr (.inr (some (10, 0)))), some (.inl (S1_.2.2.1 98 0 (S1_.1 10 0 8).toNat)), none], [.inl (S1_.2.2.1 98 0 (S1_.1 10 0 8).toNat), .inr (.inr (some (10, 0)))], sm_pI (sm_pI S1_ 10 0 3 (S1_.1 10 0 8)) 10 0 4 0)) rfl ?_
              refine sm_T_cal (d1 := 0) (Q1 := vq_195 (S1_.2.2.1 98 0 (S1_.1 10 0 8).toNat) b_ n_ (lx_k b_ n_ q_) (sm_pI (sm_pI S1_ 10 0 3 (S1_.1 10 0 8)) 10 0 4 0)) rfl rfl (by decide) (vc_195 (S1_.2.2.1 98 0 (S1_.1 10 0 8).toNat) b_ n_ (lx_k b_ n_ q_) (sm_pI (sm_pI S1_ 10 0 3 (S1_.1 10 0 8)) 10 0 4 0) hI9_ (by exact hb2_) (by exact hn2_) (by exact hn1_) (by exact hk_) (by omega) (by exact e9_)) (fun u_ S102_ p105_ => ?_)
              obtain ⟨v107_, rfl, hI103_, hF104_, p105_⟩ := p105_
              have hF106_ : ai_fr (sx_W vw_191) S0_ S102_ := ai_fr_tr hF10_ (fr_le hF104_ rfl)
              have hb3_ : S102_.2.2.1 98 0 = b_ := (fr_arr hF104_ rfl).trans hb2_
              have hn3_ : S102_.1 10 0 1 = (n_ : Int) := (hF104_.1 10 0 1 rfl).trans hn2_
              have hst_ : S102_.1 10 0 3 = (lx_k b_ n_ q_ : Nat) := (hF104_.1 10 0 3 rfl).trans hk_
              have hr_ := p105_
              have hl_ : ¬ lx_l (b_ (lx_k b_ n_ q_)) := by omega
              have hg_ : ¬ lx_g (b_ (lx_k b_ n_ q_)) := by omega
              have hkd_ : lx_kd b_ n_ (lx_k b_ n_ q_) = if lx_sk b_ n_ (lx_k b_ n_ q_) = 0 then -1 else lx_sk b_ n_ (lx_k b_ n_ q_) := by unfold lx_kd; rw [if_neg (by omega), if_neg hl_, if_neg hg_]
              have hsk_ := lx_sk_b (b := b_) (n := n_) (p := (lx_k b_ n_ q_))
              have hen_ : lx_en b_ n_ (lx_k b_ n_ q_) = lx_sn b_ n_ (lx_k b_ n_ q_) := by unfold lx_en; rw [if_neg (by omega), if_neg hl_, if_neg hg_]
              have hsz_ : lx_sz b_ n_ (lx_k b_ n_ q_) = 0 := by unfold lx_sz; rw [if_neg (by omega), if_neg hl_, if_neg hg_]
              have hzz_ : S102_.1 10 0 4 = 0 := (hF104_.1 10 0 4 rfl).trans rfl
              have hvv_ : lx_kd b_ n_ (lx_k b_ n_ q_) = 2 → S102_.1 10 0 5 = lx_vl b_ n_ (lx_k b_ n_ q_) := by intro h_; rw [hkd_] at h_; split at h_ <;> omega
              refine sm_T_go 2 (c1 := (103, [some (.inr (.inr (some (10, 0)))), some (.inl (S1_.2.2.1 98 0 (S1_.1 10 0 8).toNat)), some (.inl v107_)], [.inl v107_], S102_)) rfl ?_
              refine sm_T_b0 (a := 1) (z := 12) rfl (fun c108_ => ?_) (fun c108_ => ?_)
              · have c108_ : v107_ ≠ 0 := of_decide_eq_true c108_
                refine sm_T_rv rfl (Or.inl ⟨_, _, rfl, rfl, hI103_, hF106_, ?_⟩)
                refine ⟨hb3_, hn3_, hn1_, by omega, ?_, hst_, ?_, ?_, ?_, hvv_⟩
                · rw [hkd_]; split <;> omega
                · rw [hen_]; exact hr_.2.1
                · first | (rw [hkd_, if_pos (by omega)]; exact hr_.2.2.2) | (rw [hkd_, if_pos (by omega)]; exact hr_.2.2.2.1) | (rw [hkd_, if_neg (by omega)]; exact hr_.2.2 (by omega))
                · rw [hsz_]; first | exact hr_.2.2.1 | exact hzz_
              · have c108_ : ¬ (v107_ ≠ 0) := of_decide_eq_false c108_
                have b109_ : 0 ≤ S102_.1 10 0 3 ∧ S102_.1 10 0 3 ≤ 1280 := hI103_.1 10 0 3 rfl
                refine sm_T_go 4 (c1 := (112, [some (.inr (.inr (some (10, 0)))), some (.inl (S1_.2.2.1 98 0 (S1_.1 10 0 8).toNat)), some (.inl v107_)], [.inl (S102_.1 10 0 3), .inl 1, .inr (.inr (some (10, 0)))], S102_)) rfl ?_
                refine sm_T_calx (d1 := 0) (Q1 := vq_187 1 (S102_.1 10 0 3) S102_) (Q2 := vx_187 1 (S102_.1 10 0 3) S102_) rfl rfl (by decide) (vc_187 1 (S102_.1 10 0 3) S102_ hI103_ (by decide) (by omega)) rfl (fun S110_ p113_ => ?_) (fun u_ S110_ p113_ => ?_)
                · obtain ⟨hI111_, hF112_, p113_⟩ := p113_
                  refine Or.inr ⟨_, rfl, hI111_, ai_fr_tr hF106_ (fr_le hF112_ rfl), ?_⟩
                  refine ⟨?_, p113_.1, p113_.2.trans hst_⟩
                  rw [hkd_]; first | (rw [if_neg (by omega)]) | (rw [if_pos (by omega)])
                · exact (p113_.2.2.2).elim
            · have c101_ : ¬ (57 < (S1_.2.2.1 98 0 (S1_.1 10 0 8).toNat)) := of_decide_eq_false c101_
              refine sm_T_go 1 (c1 := (89, [some (.inr (.inr (some (10, 0)))), some (.inl (S1_.2.2.1 98 0 (S1_.1 10 0 8).toNat)), none], [.inr (.inr (some (10, 0)))], sm_pI (sm_pI S1_ 10 0 3 (S1_.1 10 0 8)) 10 0 4 0)) rfl ?_
              refine sm_T_cal (d1 := 0) (Q1 := vq_194 b_ n_ (lx_k b_ n_ q_) (sm_pI (sm_pI S1_ 10 0 3 (S1_.1 10 0 8)) 10 0 4 0)) rfl rfl (by decide) (vc_194 b_ n_ (lx_k b_ n_ q_) (sm_pI (sm_pI S1_ 10 0 3 (S1_.1 10 0 8)) 10 0 4 0) hI9_ (by exact hb2_) (by exact hn2_) (by exact hn1_) (by exact hk_) (by omega) (by rfl)) (fun u_ S115_ p118_ => ?_)
              obtain ⟨v120_, rfl, hI116_, hF117_, p118_⟩ := p118_
              have hF119_ : ai_fr (sx_W vw_191) S0_ S115_ := ai_fr_tr hF10_ (fr_le hF117_ rfl)
              have hb3_ : S115_.2.2.1 98 0 = b_ := (fr_arr hF117_ rfl).trans hb2_
              have hn3_ : S115_.1 10 0 1 = (n_ : Int) := (hF117_.1 10 0 1 rfl).trans hn2_
              have hst_ : S115_.1 10 0 3 = (lx_k b_ n_ q_ : Nat) := (hF117_.1 10 0 3 rfl).trans hk_
              have hr_ := p118_
              have hl_ : ¬ lx_l (b_ (lx_k b_ n_ q_)) := by omega
              have hg_ : lx_g (b_ (lx_k b_ n_ q_)) := by omega
              have hkd_ : lx_kd b_ n_ (lx_k b_ n_ q_) = if lx_de b_ n_ (lx_k b_ n_ q_) - (lx_k b_ n_ q_) ≤ 6 then 2 else -1 := by unfold lx_kd; rw [if_neg (by omega), if_neg hl_, if_pos hg_]
              have hen_ : lx_en b_ n_ (lx_k b_ n_ q_) = lx_de b_ n_ (lx_k b_ n_ q_) := by unfold lx_en; rw [if_neg (by omega), if_neg hl_, if_pos hg_]
              have hsz_ : lx_sz b_ n_ (lx_k b_ n_ q_) = lx_de b_ n_ (lx_k b_ n_ q_) - (lx_k b_ n_ q_) := by unfold lx_sz; rw [if_neg (by omega), if_neg hl_, if_pos hg_]
              have hvv_ : lx_kd b_ n_ (lx_k b_ n_ q_) = 2 → S115_.1 10 0 5 = lx_vl b_ n_ (lx_k b_ n_ q_) := fun _ => hr_.2.2.2.2
              refine sm_T_go 3 (c1 := (103, [some (.inr (.inr (some (10, 0)))), some (.inl (S1_.2.2.1 98 0 (S1_.1 10 0 8).toNat)), some (.inl v120_)], [.inl v120_], S115_)) rfl ?_
              refine sm_T_b0 (a := 1) (z := 12) rfl (fun c121_ => ?_) (fun c121_ => ?_)
              · have c121_ : v120_ ≠ 0 := of_decide_eq_true c121_
                refine sm_T_rv rfl (Or.inl ⟨_, _, rfl, rfl, hI116_, hF119_, ?_⟩)
                refine ⟨hb3_, hn3_, hn1_, by omega, ?_, hst_, ?_, ?_, ?_, hvv_⟩
                · rw [hkd_]; split <;> omega
                · rw [hen_]; exact hr_.2.1
                · first | (rw [hkd_, if_pos (by omega)]; exact hr_.2.2.2) | (rw [hkd_, if_pos (by omega)]; exact hr_.2.2.2.1) | (rw [hkd_, if_neg (by omega)]; exact hr_.2.2 (by omega))
                · rw [hsz_]; first | exact hr_.2.2.1 | exact hzz_
              · have c121_ : ¬ (v120_ ≠ 0) := of_decide_eq_false c121_
                have b122_ : 0 ≤ S115_.1 10 0 3 ∧ S115_.1 10 0 3 ≤ 1280 := hI116_.1 10 0 3 rfl
                refine sm_T_go 4 (c1 := (112, [some (.inr (.inr (some (10, 0)))), some (.inl (S1_.2.2.1 98 0 (S1_.1 10 0 8).toNat)), some (.inl v120_)], [.inl (S115_.1 10 0 3), .inl 1, .inr (.inr (some (10, 0)))], S115_)) rfl ?_
                refine sm_T_calx (d1 := 0) (Q1 := vq_187 1 (S115_.1 10 0 3) S115_) (Q2 := vx_187 1 (S115_.1 10 0 3) S115_) rfl rfl (by decide) (vc_187 1 (S115_.1 10 0 3) S115_ hI116_ (by decide) (by omega)) rfl (fun S123_ p126_ => ?_) (fun u_ S123_ p126_ => ?_)
                · obtain ⟨hI124_, hF125_, p126_⟩ := p126_
                  refine Or.inr ⟨_, rfl, hI124_, ai_fr_tr hF119_ (fr_le hF125_ rfl), ?_⟩
                  refine ⟨?_, p126_.1, p126_.2.trans hst_⟩
                  rw [hkd_]; first | (rw [if_neg (by omega)]) | (rw [if_pos (by omega)])
                · exact (p126_.2.2.2).elim
        · have c86_ : ¬ ((S1_.2.2.1 98 0 (S1_.1 10 0 8).toNat) ≠ 95) := of_decide_eq_false c86_
          refine sm_T_go 1 (c1 := (69, [some (.inr (.inr (some (10, 0)))), some (.inl (S1_.2.2.1 98 0 (S1_.1 10 0 8).toNat)), none], [.inr (.inr (some (10, 0)))], sm_pI (sm_pI S1_ 10 0 3 (S1_.1 10 0 8)) 10 0 4 0)) rfl ?_
          refine sm_T_cal (d1 := 0) (Q1 := vq_193 b_ n_ (lx_k b_ n_ q_) (sm_pI (sm_pI S1_ 10 0 3 (S1_.1 10 0 8)) 10 0 4 0)) rfl rfl (by decide) (vc_193 b_ n_ (lx_k b_ n_ q_) (sm_pI (sm_pI S1_ 10 0 3 (S1_.1 10 0 8)) 10 0 4 0) hI9_ (by exact hb2_) (by exact hn2_) (by exact hn1_) (by exact hk_) (by omega) (by rfl)) (fun u_ S128_ p131_ => ?_)
          obtain ⟨v133_, rfl, hI129_, hF130_, p131_⟩ := p131_
          have hF132_ : ai_fr (sx_W vw_191) S0_ S128_ := ai_fr_tr hF10_ (fr_le hF130_ rfl)
          have hb3_ : S128_.2.2.1 98 0 = b_ := (fr_arr hF130_ rfl).trans hb2_
          have hn3_ : S128_.1 10 0 1 = (n_ : Int) := (hF130_.1 10 0 1 rfl).trans hn2_
          have hst_ : S128_.1 10 0 3 = (lx_k b_ n_ q_ : Nat) := (hF130_.1 10 0 3 rfl).trans hk_
          have hr_ := p131_
          have hl_ : lx_l (b_ (lx_k b_ n_ q_)) := by omega
          have hw_ := lx_wk_7 (lx_pk b_ (lx_k b_ n_ q_) (lx_ne b_ n_ (lx_k b_ n_ q_) - (lx_k b_ n_ q_)))
          have hkd_ : lx_kd b_ n_ (lx_k b_ n_ q_) = if lx_ne b_ n_ (lx_k b_ n_ q_) - (lx_k b_ n_ q_) ≤ 12 then lx_wk (lx_pk b_ (lx_k b_ n_ q_) (lx_ne b_ n_ (lx_k b_ n_ q_) - (lx_k b_ n_ q_))) 7 else -1 := by unfold lx_kd; rw [if_neg (by omega), if_pos hl_]
          have hen_ : lx_en b_ n_ (lx_k b_ n_ q_) = lx_ne b_ n_ (lx_k b_ n_ q_) := by unfold lx_en; rw [if_neg (by omega), if_pos hl_]
          have hsz_ : lx_sz b_ n_ (lx_k b_ n_ q_) = lx_ne b_ n_ (lx_k b_ n_ q_) - (lx_k b_ n_ q_) := by unfold lx_sz; rw [if_neg (by omega), if_pos hl_]
          have hvv_ : lx_kd b_ n_ (lx_k b_ n_ q_) = 2 → S128_.1 10 0 5 = lx_vl b_ n_ (lx_k b_ n_ q_) := by intro h_; rw [hkd_] at h_; split at h_ <;> omega
          refine sm_T_go 3 (c1 := (103, [some (.inr (.inr (some (10, 0)))), some (.inl (S1_.2.2.1 98 0 (S1_.1 10 0 8).toNat)), some (.inl v133_)], [.inl v133_], S128_)) rfl ?_
          refine sm_T_b0 (a := 1) (z := 12) rfl (fun c134_ => ?_) (fun c134_ => ?_)
          · have c134_ : v133_ ≠ 0 := of_decide_eq_true c134_
            refine sm_T_rv rfl (Or.inl ⟨_, _, rfl, rfl, hI129_, hF132_, ?_⟩)
            refine ⟨hb3_, hn3_, hn1_, by omega, ?_, hst_, ?_, ?_, ?_, hvv_⟩
            · rw [hkd_]; split <;> omega
            · rw [hen_]; exact hr_.2.1
            · first | (rw [hkd_, if_pos (by omega)]; exact hr_.2.2.2) | (rw [hkd_, if_pos (by omega)]; exact hr_.2.2.2.1) | (rw [hkd_, if_neg (by omega)]; exact hr_.2.2 (by omega))
            · rw [hsz_]; first | exact hr_.2.2.1 | exact hzz_
          · have c134_ : ¬ (v133_ ≠ 0) := of_decide_eq_false c134_
            have b135_ : 0 ≤ S128_.1 10 0 3 ∧ S128_.1 10 0 3 ≤ 1280 := hI129_.1 10 0 3 rfl
            refine sm_T_go 4 (c1 := (112, [some (.inr (.inr (some (10, 0)))), some (.inl (S1_.2.2.1 98 0 (S1_.1 10 0 8).toNat)), some (.inl v133_)], [.inl (S128_.1 10 0 3), .inl 1, .inr (.inr (some (10, 0)))], S128_)) rfl ?_
            refine sm_T_calx (d1 := 0) (Q1 := vq_187 1 (S128_.1 10 0 3) S128_) (Q2 := vx_187 1 (S128_.1 10 0 3) S128_) rfl rfl (by decide) (vc_187 1 (S128_.1 10 0 3) S128_ hI129_ (by decide) (by omega)) rfl (fun S136_ p139_ => ?_) (fun u_ S136_ p139_ => ?_)
            · obtain ⟨hI137_, hF138_, p139_⟩ := p139_
              refine Or.inr ⟨_, rfl, hI137_, ai_fr_tr hF132_ (fr_le hF138_ rfl), ?_⟩
              refine ⟨?_, p139_.1, p139_.2.trans hst_⟩
              rw [hkd_]; first | (rw [if_neg (by omega)]) | (rw [if_pos (by omega)])
            · exact (p139_.2.2.2).elim
  · have c12_ : ¬ ((S1_.1 10 0 8) < (S1_.1 10 0 1)) := of_decide_eq_false c12_
    have hI141_ : gi (sm_pI (sm_pI (sm_pI S1_ 10 0 3 (S1_.1 10 0 8)) 10 0 4 0) 10 0 2 0) := gi_pI hI9_ (show (-128) ≤ 0 ∧ 0 ≤ 257 from ⟨by omega, by omega⟩)
    have hF142_ : ai_fr (sx_W vw_191) S0_ (sm_pI (sm_pI (sm_pI S1_ 10 0 3 (S1_.1 10 0 8)) 10 0 4 0) 10 0 2 0) := ai_fr_tr hF10_ (ai_fr_pI rfl)
    refine sm_T_go 3 (c1 := (33, [some (.inr (.inr (some (10, 0)))), none, none], [], sm_pI (sm_pI (sm_pI S1_ 10 0 3 (S1_.1 10 0 8)) 10 0 4 0) 10 0 2 0)) rfl ?_
    refine sm_T_rv rfl (Or.inl ⟨_, _, rfl, rfl, hI141_, hF142_, ?_⟩)
    refine ⟨hb2_, hn2_, hn1_, by omega, ?_, hk_, ?_, ?_, ?_, ?_⟩
    · unfold lx_kd; rw [if_pos (by omega)]; decide
    · unfold lx_en; rw [if_pos (by omega)]; exact hk_
    · unfold lx_kd; rw [if_pos (by omega)]; rfl
    · unfold lx_sz; rw [if_pos (by omega)]; rfl
    · unfold lx_kd; rw [if_pos (by omega)]; intro h_; omega
/-! Text.need -/
def vw_188 : sx_Wl := ([(10, 2), (10, 3), (10, 4), (10, 5), (10, 6), (10, 7), (10, 8)], [], [])
def vq_188 (w_ : Int) (b_ : Nat → Int) (n_ : Nat) (p_ : Nat) (S0_ : sm_S) (u_ : Option sm_V) (S1_ : sm_S) : Prop := u_ = none ∧ gi S1_ ∧ ai_fr (sx_W vw_188) S0_ S1_ ∧ (∃ r_, p_nd b_ n_ w_ p_ = .inr r_ ∧ ct b_ n_ r_ S1_)
def vx_188 (w_ : Int) (b_ : Nat → Int) (n_ : Nat) (p_ : Nat) (S0_ : sm_S) (S1_ : sm_S) : Prop := gi S1_ ∧ ai_fr (sx_W vw_188) S0_ S1_ ∧ (∃ e_, p_nd b_ n_ w_ p_ = .inl e_ ∧ ter S1_ e_)
theorem vc_188 {sc_ : Nat × (Nat → Int)} (w_ : Int) (b_ : Nat → Int) (n_ : Nat) (p_ : Nat) (S0_ : sm_S) (hI_ : gi S0_) (hc_ : ct b_ n_ p_ S0_) : sm_T (mt_P sc_) 2 188 (0, [some (.inr (.inr (some (10, 0)))), some (.inl w_)], [], S0_) (fun r_ => (∃ u_ S1_, r_ = (.inl u_, S1_, 0) ∧ vq_188 w_ b_ n_ p_ S0_ u_ S1_) ∨ ∃ S1_, r_ = (.inr 2, S1_, 1) ∧ vx_188 w_ b_ n_ p_ S0_ S1_) := by
  have hF_ : ai_fr (sx_W vw_188) S0_ S0_ := ai_fr_rf
  obtain ⟨hb_, hn_, hn1_, hpn_, hk_, hst_, hnx_, hkd_, hsz_, hvl_⟩ := hc_
  have hel_ := lx_en_le (b := b_) hpn_
  have b1_ : (-128) ≤ S0_.1 10 0 2 ∧ S0_.1 10 0 2 ≤ 257 := hI_.1 10 0 2 rfl
  refine sm_T_go 3 (c1 := (5, [some (.inr (.inr (some (10, 0)))), some (.inl w_)], [.inl w_, .inl (S0_.1 10 0 2)], S0_)) rfl ?_
  refine sm_T_br (a := 0) (z := 12) rfl (fun c2_ => ?_) (fun c2_ => ?_)
  · have c2_ : (S0_.1 10 0 2) = w_ := of_decide_eq_true c2_
    refine sm_T_go 1 (c1 := (18, [some (.inr (.inr (some (10, 0)))), some (.inl w_)], [.inr (.inr (some (10, 0)))], S0_)) rfl ?_
    refine sm_T_calx (d1 := 1) (Q1 := vq_191 b_ n_ (lx_en b_ n_ p_) S0_) (Q2 := vx_191 b_ n_ (lx_en b_ n_ p_) S0_) rfl rfl (by decide) (vc_191 b_ n_ (lx_en b_ n_ p_) S0_ hI_ (by exact hb_) (by exact hn_) (by exact hn1_) (by exact hnx_) (by omega)) rfl (fun S3_ p6_ => ?_) (fun u_ S3_ p6_ => ?_)
    · obtain ⟨hI4_, hF5_, p6_⟩ := p6_
      refine Or.inr ⟨_, rfl, hI4_, ai_fr_tr hF_ (fr_le hF5_ rfl), ?_⟩
      refine ⟨(1, lx_nx b_ n_ p_), ?_, p6_.2⟩
      unfold p_nd p_ad lx_nx; rw [if_pos (by omega), if_pos p6_.1]
    obtain ⟨rfl, hI4_, hF5_, p6_⟩ := p6_
    have hF7_ : ai_fr (sx_W vw_188) S0_ S3_ := ai_fr_tr hF_ (fr_le hF5_ rfl)
    have hct_ := p6_
    refine sm_T_rv rfl (Or.inl ⟨_, _, rfl, rfl, hI4_, hF7_, ?_⟩)
    exact ⟨lx_nx b_ n_ p_, by unfold p_nd p_ad lx_nx; rw [if_pos (by omega), if_neg hct_.2.2.2.2.1], hct_⟩
  · have c2_ : ¬ ((S0_.1 10 0 2) = w_) := of_decide_eq_false c2_
    have b8_ : 0 ≤ S0_.1 10 0 3 ∧ S0_.1 10 0 3 ≤ 1280 := hI_.1 10 0 3 rfl
    refine sm_T_go 4 (c1 := (14, [some (.inr (.inr (some (10, 0)))), some (.inl w_)], [.inl (S0_.1 10 0 3), .inl 2, .inr (.inr (some (10, 0)))], S0_)) rfl ?_
    refine sm_T_calx (d1 := 0) (Q1 := vq_187 2 (S0_.1 10 0 3) S0_) (Q2 := vx_187 2 (S0_.1 10 0 3) S0_) rfl rfl (by decide) (vc_187 2 (S0_.1 10 0 3) S0_ hI_ (by decide) (by omega)) rfl (fun S9_ p12_ => ?_) (fun u_ S9_ p12_ => ?_)
    · obtain ⟨hI10_, hF11_, p12_⟩ := p12_
      refine Or.inr ⟨_, rfl, hI10_, ai_fr_tr hF_ (fr_le hF11_ rfl), ?_⟩
      refine ⟨(2, p_), ?_, p12_.1, p12_.2.trans hst_⟩
      unfold p_nd; rw [if_neg (by omega)]
    · exact (p12_.2.2.2).elim
/-! Text.begin -/
def vw_186 : sx_Wl := ([(10, 2), (10, 3), (10, 4), (10, 5), (10, 6), (10, 7), (10, 8)], [], [])
def vq_186 (b_ : Nat → Int) (n_ : Nat) (S0_ : sm_S) (u_ : Option sm_V) (S1_ : sm_S) : Prop := u_ = none ∧ gi S1_ ∧ ai_fr (sx_W vw_186) S0_ S1_ ∧ (ct b_ n_ (lx_k b_ n_ 0) S1_)
def vx_186 (b_ : Nat → Int) (n_ : Nat) (S0_ : sm_S) (S1_ : sm_S) : Prop := gi S1_ ∧ ai_fr (sx_W vw_186) S0_ S1_ ∧ (lx_kd b_ n_ (lx_k b_ n_ 0) = -1 ∧ ter S1_ (1, lx_k b_ n_ 0))
theorem vc_186 {sc_ : Nat × (Nat → Int)} (b_ : Nat → Int) (n_ : Nat) (S0_ : sm_S) (hI_ : gi S0_) (hb_ : S0_.2.2.1 98 0 = b_) (hn_ : (S0_.1 10 0 1) = (n_ : Int)) (hn1_ : n_ ≤ 1280) : sm_T (mt_P sc_) 2 186 (0, [some (.inr (.inr (some (10, 0))))], [], S0_) (fun r_ => (∃ u_ S1_, r_ = (.inl u_, S1_, 0) ∧ vq_186 b_ n_ S0_ u_ S1_) ∨ ∃ S1_, r_ = (.inr 2, S1_, 1) ∧ vx_186 b_ n_ S0_ S1_) := by
  have hF_ : ai_fr (sx_W vw_186) S0_ S0_ := ai_fr_rf
  have hI1_ : gi (sm_pI S0_ 10 0 8 0) := gi_pI hI_ (show 0 ≤ 0 ∧ 0 ≤ 1280 from ⟨by omega, by omega⟩)
  have hF2_ : ai_fr (sx_W vw_186) S0_ (sm_pI S0_ 10 0 8 0) := ai_fr_tr hF_ (ai_fr_pI rfl)
  have hI3_ : gi (sm_pI (sm_pI S0_ 10 0 8 0) 10 0 6 0) := gi_pI hI1_ (show 0 ≤ 0 ∧ 0 ≤ 23 from ⟨by omega, by omega⟩)
  have hF4_ : ai_fr (sx_W vw_186) S0_ (sm_pI (sm_pI S0_ 10 0 8 0) 10 0 6 0) := ai_fr_tr hF2_ (ai_fr_pI rfl)
  have hI5_ : gi (sm_pI (sm_pI (sm_pI S0_ 10 0 8 0) 10 0 6 0) 10 0 7 0) := gi_pI hI3_ (show 0 ≤ 0 ∧ 0 ≤ 4095 from ⟨by omega, by omega⟩)
  have hF6_ : ai_fr (sx_W vw_186) S0_ (sm_pI (sm_pI (sm_pI S0_ 10 0 8 0) 10 0 6 0) 10 0 7 0) := ai_fr_tr hF4_ (ai_fr_pI rfl)
  refine sm_T_go 10 (c1 := (16, [some (.inr (.inr (some (10, 0))))], [.inr (.inr (some (10, 0)))], sm_pI (sm_pI (sm_pI S0_ 10 0 8 0) 10 0 6 0) 10 0 7 0)) rfl ?_
  refine sm_T_calx (d1 := 1) (Q1 := vq_191 b_ n_ 0 (sm_pI (sm_pI (sm_pI S0_ 10 0 8 0) 10 0 6 0) 10 0 7 0)) (Q2 := vx_191 b_ n_ 0 (sm_pI (sm_pI (sm_pI S0_ 10 0 8 0) 10 0 6 0) 10 0 7 0)) rfl rfl (by decide) (vc_191 b_ n_ 0 (sm_pI (sm_pI (sm_pI S0_ 10 0 8 0) 10 0 6 0) 10 0 7 0) hI5_ (by exact hb_) (by exact hn_) (by exact hn1_) (by rfl) (by omega)) rfl (fun S7_ p10_ => ?_) (fun u_ S7_ p10_ => ?_)
  · obtain ⟨hI8_, hF9_, p10_⟩ := p10_
    refine Or.inr ⟨_, rfl, hI8_, ai_fr_tr hF6_ (fr_le hF9_ rfl), ?_⟩
    exact p10_
  obtain ⟨rfl, hI8_, hF9_, p10_⟩ := p10_
  have hF11_ : ai_fr (sx_W vw_186) S0_ S7_ := ai_fr_tr hF6_ (fr_le hF9_ rfl)
  have hct_ := p10_
  refine sm_T_rv rfl (Or.inl ⟨_, _, rfl, rfl, hI8_, hF11_, ?_⟩)
  exact hct_
end
/-! 99.v3 -/
section
/-! the reference: tokens; written by wip/p55/gen/vg -/
/-! M_.byteAt -/
def vw_282 : sx_Wl := ([], [], [])
def vq_282 (k_ : Int) (b_ : Nat → Int) (n_ : Nat) (S0_ : sm_S) (u_ : Option sm_V) (S1_ : sm_S) : Prop := S0_ = S1_ ∧ ∃ v_ : Int, u_ = some (.inl v_) ∧ (v_ = rb b_ n_ k_.toNat)
theorem vc_282 {sc_ : Nat × (Nat → Int)} (k_ : Int) (b_ : Nat → Int) (n_ : Nat) (S0_ : sm_S) (hI_ : gi S0_) (hb_ : S0_.2.2.1 118 0 = b_) (hn_ : (S0_.1 13 0 2) = (n_ : Int)) (hn1_ : n_ ≤ 1280) (hk_ : 0 ≤ k_) : sm_T (mt_P sc_) 0 282 (0, [some (.inr (.inr (some (13, 0)))), some (.inl k_)], [], S0_) (fun r_ => ∃ u_ S1_, r_ = (.inl u_, S1_, 0) ∧ vq_282 k_ b_ n_ S0_ u_ S1_) := by
  have hF_ : ai_fr (sx_W vw_282) S0_ S0_ := ai_fr_rf
  have b1_ : 0 ≤ S0_.1 13 0 2 ∧ S0_.1 13 0 2 ≤ 1280 := hI_.1 13 0 2 rfl
  refine sm_T_go 3 (c1 := (5, [some (.inr (.inr (some (13, 0)))), some (.inl k_)], [.inl (S0_.1 13 0 2), .inl k_], S0_)) rfl ?_
  refine sm_T_br (a := 3) (z := 16) rfl (fun c2_ => ?_) (fun c2_ => ?_)
  · have c2_ : (S0_.1 13 0 2) ≤ k_ := of_decide_eq_true c2_
    refine sm_T_go 1 (c1 := (22, [some (.inr (.inr (some (13, 0)))), some (.inl k_)], [.inl (-1)], S0_)) rfl ?_
    refine sm_T_ri rfl ⟨_, _, rfl, rfl, _, rfl, ?_⟩
    unfold rb; first | (rw [if_pos (by omega), ← hb_]) | (rw [if_neg (by omega)])
  · have c2_ : ¬ ((S0_.1 13 0 2) ≤ k_) := of_decide_eq_false c2_
    refine sm_T_go 3 (c1 := (13, [some (.inr (.inr (some (13, 0)))), some (.inl k_)], [.inl k_, .inr (.inr (some (118, 0)))], S0_)) rfl ?_
    refine sm_T_bald (n := 65536) rfl rfl (by omega) (by omega) ?_
    have b3_ : (-128) ≤ S0_.2.2.1 118 0 k_.toNat ∧ S0_.2.2.1 118 0 k_.toNat ≤ 127 := hI_.2 118 0 _
    refine sm_T_go 1 (c1 := (17, [some (.inr (.inr (some (13, 0)))), some (.inl k_)], [.inl 255, .inl (S0_.2.2.1 118 0 k_.toNat)], S0_)) rfl ?_
    refine sm_T_bin (w := ((S0_.2.2.1 118 0 k_.toNat) % 256)) rfl (bi_msk (k := 8) (by decide)) ?_
    refine sm_T_go 1 (c1 := (22, [some (.inr (.inr (some (13, 0)))), some (.inl k_)], [.inl ((S0_.2.2.1 118 0 k_.toNat) % 256)], S0_)) rfl ?_
    refine sm_T_ri rfl ⟨_, _, rfl, rfl, _, rfl, ?_⟩
    unfold rb; first | (rw [if_pos (by omega), ← hb_]) | (rw [if_neg (by omega)])
/-! M_.isLetter -/
def vw_283 : sx_Wl := ([], [], [])
def vq_283 (c_ : Int) (S0_ : sm_S) (u_ : Option sm_V) (S1_ : sm_S) : Prop := S0_ = S1_ ∧ ∃ v_ : Int, u_ = some (.inl v_) ∧ (v_ = if lx_l c_ then 1 else 0)
theorem vc_283 {sc_ : Nat × (Nat → Int)} (c_ : Int) (S0_ : sm_S) (hI_ : gi S0_)  : sm_T (mt_P sc_) 0 283 (0, [some (.inl c_)], [], S0_) (fun r_ => ∃ u_ S1_, r_ = (.inl u_, S1_, 0) ∧ vq_283 c_ S0_ u_ S1_) := by
  have hF_ : ai_fr (sx_W vw_283) S0_ S0_ := ai_fr_rf
  refine sm_T_go 2 (c1 := (3, [some (.inl c_)], [.inl 97, .inl c_], S0_)) rfl ?_
  refine sm_T_br (a := 2) (z := 9) rfl (fun c1_ => ?_) (fun c1_ => ?_)
  · have c1_ : c_ < 97 := of_decide_eq_true c1_
    refine sm_T_go 2 (c1 := (15, [some (.inl c_)], [.inl 65, .inl c_], S0_)) rfl ?_
    refine sm_T_br (a := 2) (z := 9) rfl (fun c2_ => ?_) (fun c2_ => ?_)
    · have c2_ : c_ < 65 := of_decide_eq_true c2_
      refine sm_T_go 2 (c1 := (27, [some (.inl c_)], [.inl 95, .inl c_], S0_)) rfl ?_
      refine sm_T_br (a := 1) (z := 7) rfl (fun c3_ => ?_) (fun c3_ => ?_)
      · have c3_ : c_ ≠ 95 := of_decide_eq_true c3_
        refine sm_T_go 1 (c1 := (35, [some (.inl c_)], [.inl 0], S0_)) rfl ?_
        refine sm_T_rz rfl (by omega) ⟨_, _, rfl, rfl, _, rfl, ?_⟩
        first | (rw [if_pos (by omega)]) | (rw [if_neg (by omega)])
      · have c3_ : ¬ (c_ ≠ 95) := of_decide_eq_false c3_
        exfalso; omega
    · have c2_ : ¬ (c_ < 65) := of_decide_eq_false c2_
      refine sm_T_go 2 (c1 := (21, [some (.inl c_)], [.inl 90, .inl c_], S0_)) rfl ?_
      refine sm_T_br (a := 5) (z := 9) rfl (fun c4_ => ?_) (fun c4_ => ?_)
      · have c4_ : c_ ≤ 90 := of_decide_eq_true c4_
        refine sm_T_go 2 (c1 := (35, [some (.inl c_)], [.inl 1], S0_)) rfl ?_
        refine sm_T_rz rfl (by omega) ⟨_, _, rfl, rfl, _, rfl, ?_⟩
        first | (rw [if_pos (by omega)]) | (rw [if_neg (by omega)])
      · have c4_ : ¬ (c_ ≤ 90) := of_decide_eq_false c4_
        refine sm_T_go 2 (c1 := (27, [some (.inl c_)], [.inl 95, .inl c_], S0_)) rfl ?_
        refine sm_T_br (a := 1) (z := 7) rfl (fun c5_ => ?_) (fun c5_ => ?_)
        · have c5_ : c_ ≠ 95 := of_decide_eq_true c5_
          refine sm_T_go 1 (c1 := (35, [some (.inl c_)], [.inl 0], S0_)) rfl ?_
          refine sm_T_rz rfl (by omega) ⟨_, _, rfl, rfl, _, rfl, ?_⟩
          first | (rw [if_pos (by omega)]) | (rw [if_neg (by omega)])
        · have c5_ : ¬ (c_ ≠ 95) := of_decide_eq_false c5_
          refine sm_T_go 2 (c1 := (35, [some (.inl c_)], [.inl 1], S0_)) rfl ?_
          refine sm_T_rz rfl (by omega) ⟨_, _, rfl, rfl, _, rfl, ?_⟩
          first | (rw [if_pos (by omega)]) | (rw [if_neg (by omega)])
  · have c1_ : ¬ (c_ < 97) := of_decide_eq_false c1_
    refine sm_T_go 2 (c1 := (9, [some (.inl c_)], [.inl 122, .inl c_], S0_)) rfl ?_
    refine sm_T_br (a := 5) (z := 21) rfl (fun c6_ => ?_) (fun c6_ => ?_)
    · have c6_ : c_ ≤ 122 := of_decide_eq_true c6_
      refine sm_T_go 2 (c1 := (35, [some (.inl c_)], [.inl 1], S0_)) rfl ?_
      refine sm_T_rz rfl (by omega) ⟨_, _, rfl, rfl, _, rfl, ?_⟩
      first | (rw [if_pos (by omega)]) | (rw [if_neg (by omega)])
    · have c6_ : ¬ (c_ ≤ 122) := of_decide_eq_false c6_
      refine sm_T_go 2 (c1 := (15, [some (.inl c_)], [.inl 65, .inl c_], S0_)) rfl ?_
      refine sm_T_br (a := 2) (z := 9) rfl (fun c7_ => ?_) (fun c7_ => ?_)
      · have c7_ : c_ < 65 := of_decide_eq_true c7_
        exfalso; omega
      · have c7_ : ¬ (c_ < 65) := of_decide_eq_false c7_
        refine sm_T_go 2 (c1 := (21, [some (.inl c_)], [.inl 90, .inl c_], S0_)) rfl ?_
        refine sm_T_br (a := 5) (z := 9) rfl (fun c8_ => ?_) (fun c8_ => ?_)
        · have c8_ : c_ ≤ 90 := of_decide_eq_true c8_
          exfalso; omega
        · have c8_ : ¬ (c_ ≤ 90) := of_decide_eq_false c8_
          refine sm_T_go 2 (c1 := (27, [some (.inl c_)], [.inl 95, .inl c_], S0_)) rfl ?_
          refine sm_T_br (a := 1) (z := 7) rfl (fun c9_ => ?_) (fun c9_ => ?_)
          · have c9_ : c_ ≠ 95 := of_decide_eq_true c9_
            refine sm_T_go 1 (c1 := (35, [some (.inl c_)], [.inl 0], S0_)) rfl ?_
            refine sm_T_rz rfl (by omega) ⟨_, _, rfl, rfl, _, rfl, ?_⟩
            first | (rw [if_pos (by omega)]) | (rw [if_neg (by omega)])
          · have c9_ : ¬ (c_ ≠ 95) := of_decide_eq_false c9_
            exfalso; omega
/-! M_.isDigit -/
def vw_284 : sx_Wl := ([], [], [])
def vq_284 (c_ : Int) (S0_ : sm_S) (u_ : Option sm_V) (S1_ : sm_S) : Prop := S0_ = S1_ ∧ ∃ v_ : Int, u_ = some (.inl v_) ∧ (v_ = if lx_g c_ then 1 else 0)
theorem vc_284 {sc_ : Nat × (Nat → Int)} (c_ : Int) (S0_ : sm_S) (hI_ : gi S0_)  : sm_T (mt_P sc_) 0 284 (0, [some (.inl c_)], [], S0_) (fun r_ => ∃ u_ S1_, r_ = (.inl u_, S1_, 0) ∧ vq_284 c_ S0_ u_ S1_) := by
  have hF_ : ai_fr (sx_W vw_284) S0_ S0_ := ai_fr_rf
  refine sm_T_go 2 (c1 := (3, [some (.inl c_)], [.inl 48, .inl c_], S0_)) rfl ?_
  refine sm_T_br (a := 2) (z := 13) rfl (fun c1_ => ?_) (fun c1_ => ?_)
  · have c1_ : c_ < 48 := of_decide_eq_true c1_
    refine sm_T_go 1 (c1 := (17, [some (.inl c_)], [.inl 0], S0_)) rfl ?_
    refine sm_T_rz rfl (by omega) ⟨_, _, rfl, rfl, _, rfl, ?_⟩
    first | (rw [if_pos (by omega)]) | (rw [if_neg (by omega)])
  · have c1_ : ¬ (c_ < 48) := of_decide_eq_false c1_
    refine sm_T_go 2 (c1 := (9, [some (.inl c_)], [.inl 57, .inl c_], S0_)) rfl ?_
    refine sm_T_br (a := 4) (z := 7) rfl (fun c2_ => ?_) (fun c2_ => ?_)
    · have c2_ : 57 < c_ := of_decide_eq_true c2_
      refine sm_T_go 1 (c1 := (17, [some (.inl c_)], [.inl 0], S0_)) rfl ?_
      refine sm_T_rz rfl (by omega) ⟨_, _, rfl, rfl, _, rfl, ?_⟩
      first | (rw [if_pos (by omega)]) | (rw [if_neg (by omega)])
    · have c2_ : ¬ (57 < c_) := of_decide_eq_false c2_
      refine sm_T_go 2 (c1 := (17, [some (.inl c_)], [.inl 1], S0_)) rfl ?_
      refine sm_T_rz rfl (by omega) ⟨_, _, rfl, rfl, _, rfl, ?_⟩
      first | (rw [if_pos (by omega)]) | (rw [if_neg (by omega)])
/-! M_.isBlank -/
def vw_285 : sx_Wl := ([], [], [])
def vq_285 (c_ : Int) (S0_ : sm_S) (u_ : Option sm_V) (S1_ : sm_S) : Prop := S0_ = S1_ ∧ ∃ v_ : Int, u_ = some (.inl v_) ∧ (v_ = if c_ = 9 ∨ c_ = 10 ∨ c_ = 13 ∨ c_ = 32 then 1 else 0)
theorem vc_285 {sc_ : Nat × (Nat → Int)} (c_ : Int) (S0_ : sm_S) (hI_ : gi S0_)  : sm_T (mt_P sc_) 0 285 (0, [some (.inl c_)], [], S0_) (fun r_ => ∃ u_ S1_, r_ = (.inl u_, S1_, 0) ∧ vq_285 c_ S0_ u_ S1_) := by
  have hF_ : ai_fr (sx_W vw_285) S0_ S0_ := ai_fr_rf
  refine sm_T_go 2 (c1 := (3, [some (.inl c_)], [.inl 9, .inl c_], S0_)) rfl ?_
  refine sm_T_br (a := 0) (z := 21) rfl (fun c1_ => ?_) (fun c1_ => ?_)
  · have c1_ : c_ = 9 := of_decide_eq_true c1_
    refine sm_T_go 2 (c1 := (29, [some (.inl c_)], [.inl 1], S0_)) rfl ?_
    refine sm_T_rz rfl (by omega) ⟨_, _, rfl, rfl, _, rfl, ?_⟩
    first | (rw [if_pos (by omega)]) | (rw [if_neg (by omega)])
  · have c1_ : ¬ (c_ = 9) := of_decide_eq_false c1_
    refine sm_T_go 2 (c1 := (9, [some (.inl c_)], [.inl 10, .inl c_], S0_)) rfl ?_
    refine sm_T_br (a := 0) (z := 15) rfl (fun c2_ => ?_) (fun c2_ => ?_)
    · have c2_ : c_ = 10 := of_decide_eq_true c2_
      refine sm_T_go 2 (c1 := (29, [some (.inl c_)], [.inl 1], S0_)) rfl ?_
      refine sm_T_rz rfl (by omega) ⟨_, _, rfl, rfl, _, rfl, ?_⟩
      first | (rw [if_pos (by omega)]) | (rw [if_neg (by omega)])
    · have c2_ : ¬ (c_ = 10) := of_decide_eq_false c2_
      refine sm_T_go 2 (c1 := (15, [some (.inl c_)], [.inl 13, .inl c_], S0_)) rfl ?_
      refine sm_T_br (a := 0) (z := 9) rfl (fun c3_ => ?_) (fun c3_ => ?_)
      · have c3_ : c_ = 13 := of_decide_eq_true c3_
        refine sm_T_go 2 (c1 := (29, [some (.inl c_)], [.inl 1], S0_)) rfl ?_
        refine sm_T_rz rfl (by omega) ⟨_, _, rfl, rfl, _, rfl, ?_⟩
        first | (rw [if_pos (by omega)]) | (rw [if_neg (by omega)])
      · have c3_ : ¬ (c_ = 13) := of_decide_eq_false c3_
        refine sm_T_go 2 (c1 := (21, [some (.inl c_)], [.inl 32, .inl c_], S0_)) rfl ?_
        refine sm_T_br (a := 1) (z := 7) rfl (fun c4_ => ?_) (fun c4_ => ?_)
        · have c4_ : c_ ≠ 32 := of_decide_eq_true c4_
          refine sm_T_go 1 (c1 := (29, [some (.inl c_)], [.inl 0], S0_)) rfl ?_
          refine sm_T_rz rfl (by omega) ⟨_, _, rfl, rfl, _, rfl, ?_⟩
          first | (rw [if_pos (by omega)]) | (rw [if_neg (by omega)])
        · have c4_ : ¬ (c_ ≠ 32) := of_decide_eq_false c4_
          refine sm_T_go 2 (c1 := (29, [some (.inl c_)], [.inl 1], S0_)) rfl ?_
          refine sm_T_rz rfl (by omega) ⟨_, _, rfl, rfl, _, rfl, ?_⟩
          first | (rw [if_pos (by omega)]) | (rw [if_neg (by omega)])
/-! M_.isSign -/
def vw_289 : sx_Wl := ([], [], [])
def vq_289 (c_ : Int) (S0_ : sm_S) (u_ : Option sm_V) (S1_ : sm_S) : Prop := S0_ = S1_ ∧ ∃ v_ : Int, u_ = some (.inl v_) ∧ (v_ = if lx_sg c_ then 1 else 0)
theorem vc_289 {sc_ : Nat × (Nat → Int)} (c_ : Int) (S0_ : sm_S) (hI_ : gi S0_)  : sm_T (mt_P sc_) 0 289 (0, [some (.inl c_)], [], S0_) (fun r_ => ∃ u_ S1_, r_ = (.inl u_, S1_, 0) ∧ vq_289 c_ S0_ u_ S1_) := by
  have hF_ : ai_fr (sx_W vw_289) S0_ S0_ := ai_fr_rf
  refine sm_T_go 2 (c1 := (3, [some (.inl c_)], [.inl 40, .inl c_], S0_)) rfl ?_
  refine sm_T_br (a := 0) (z := 93) rfl (fun c1_ => ?_) (fun c1_ => ?_)
  · have c1_ : c_ = 40 := of_decide_eq_true c1_
    refine sm_T_go 2 (c1 := (101, [some (.inl c_)], [.inl 1], S0_)) rfl ?_
    refine sm_T_rz rfl (by omega) ⟨_, _, rfl, rfl, _, rfl, ?_⟩
    first | (exact (if_neg (by rintro (hh_ | hh_ | hh_ | hh_ | hh_ | hh_ | hh_ | hh_ | hh_ | hh_ | hh_ | hh_ | hh_ | hh_ | hh_ | hh_) <;> contradiction)).symm) | (rw [if_pos (by omega)])
  · have c1_ : ¬ (c_ = 40) := of_decide_eq_false c1_
    refine sm_T_go 2 (c1 := (9, [some (.inl c_)], [.inl 41, .inl c_], S0_)) rfl ?_
    refine sm_T_br (a := 0) (z := 87) rfl (fun c2_ => ?_) (fun c2_ => ?_)
    · have c2_ : c_ = 41 := of_decide_eq_true c2_
      refine sm_T_go 2 (c1 := (101, [some (.inl c_)], [.inl 1], S0_)) rfl ?_
      refine sm_T_rz rfl (by omega) ⟨_, _, rfl, rfl, _, rfl, ?_⟩
      first | (exact (if_neg (by rintro (hh_ | hh_ | hh_ | hh_ | hh_ | hh_ | hh_ | hh_ | hh_ | hh_ | hh_ | hh_ | hh_ | hh_ | hh_ | hh_) <;> contradiction)).symm) | (rw [if_pos (by omega)])
    · have c2_ : ¬ (c_ = 41) := of_decide_eq_false c2_
      refine sm_T_go 2 (c1 := (15, [some (.inl c_)], [.inl 123, .inl c_], S0_)) rfl ?_
      refine sm_T_br (a := 0) (z := 81) rfl (fun c3_ => ?_) (fun c3_ => ?_)
      · have c3_ : c_ = 123 := of_decide_eq_true c3_
        refine sm_T_go 2 (c1 := (101, [some (.inl c_)], [.inl 1], S0_)) rfl ?_
        refine sm_T_rz rfl (by omega) ⟨_, _, rfl, rfl, _, rfl, ?_⟩
        first | (exact (if_neg (by rintro (hh_ | hh_ | hh_ | hh_ | hh_ | hh_ | hh_ | hh_ | hh_ | hh_ | hh_ | hh_ | hh_ | hh_ | hh_ | hh_) <;> contradiction)).symm) | (rw [if_pos (by omega)])
      · have c3_ : ¬ (c_ = 123) := of_decide_eq_false c3_
        refine sm_T_go 2 (c1 := (21, [some (.inl c_)], [.inl 125, .inl c_], S0_)) rfl ?_
        refine sm_T_br (a := 0) (z := 75) rfl (fun c4_ => ?_) (fun c4_ => ?_)
        · have c4_ : c_ = 125 := of_decide_eq_true c4_
          refine sm_T_go 2 (c1 := (101, [some (.inl c_)], [.inl 1], S0_)) rfl ?_
          refine sm_T_rz rfl (by omega) ⟨_, _, rfl, rfl, _, rfl, ?_⟩
          first | (exact (if_neg (by rintro (hh_ | hh_ | hh_ | hh_ | hh_ | hh_ | hh_ | hh_ | hh_ | hh_ | hh_ | hh_ | hh_ | hh_ | hh_ | hh_) <;> contradiction)).symm) | (rw [if_pos (by omega)])
        · have c4_ : ¬ (c_ = 125) := of_decide_eq_false c4_
          refine sm_T_go 2 (c1 := (27, [some (.inl c_)], [.inl 59, .inl c_], S0_)) rfl ?_
          refine sm_T_br (a := 0) (z := 69) rfl (fun c5_ => ?_) (fun c5_ => ?_)
          · have c5_ : c_ = 59 := of_decide_eq_true c5_
            refine sm_T_go 2 (c1 := (101, [some (.inl c_)], [.inl 1], S0_)) rfl ?_
            refine sm_T_rz rfl (by omega) ⟨_, _, rfl, rfl, _, rfl, ?_⟩
            first | (exact (if_neg (by rintro (hh_ | hh_ | hh_ | hh_ | hh_ | hh_ | hh_ | hh_ | hh_ | hh_ | hh_ | hh_ | hh_ | hh_ | hh_ | hh_) <;> contradiction)).symm) | (rw [if_pos (by omega)])
          · have c5_ : ¬ (c_ = 59) := of_decide_eq_false c5_
            refine sm_T_go 2 (c1 := (33, [some (.inl c_)], [.inl 44, .inl c_], S0_)) rfl ?_
            refine sm_T_br (a := 0) (z := 63) rfl (fun c6_ => ?_) (fun c6_ => ?_)
            · have c6_ : c_ = 44 := of_decide_eq_true c6_
              refine sm_T_go 2 (c1 := (101, [some (.inl c_)], [.inl 1], S0_)) rfl ?_
              refine sm_T_rz rfl (by omega) ⟨_, _, rfl, rfl, _, rfl, ?_⟩
              first | (exact (if_neg (by rintro (hh_ | hh_ | hh_ | hh_ | hh_ | hh_ | hh_ | hh_ | hh_ | hh_ | hh_ | hh_ | hh_ | hh_ | hh_ | hh_) <;> contradiction)).symm) | (rw [if_pos (by omega)])
            · have c6_ : ¬ (c_ = 44) := of_decide_eq_false c6_
              refine sm_T_go 2 (c1 := (39, [some (.inl c_)], [.inl 61, .inl c_], S0_)) rfl ?_
              refine sm_T_br (a := 0) (z := 57) rfl (fun c7_ => ?_) (fun c7_ => ?_)
              · have c7_ : c_ = 61 := of_decide_eq_true c7_
                refine sm_T_go 2 (c1 := (101, [some (.inl c_)], [.inl 1], S0_)) rfl ?_
                refine sm_T_rz rfl (by omega) ⟨_, _, rfl, rfl, _, rfl, ?_⟩
                first | (exact (if_neg (by rintro (hh_ | hh_ | hh_ | hh_ | hh_ | hh_ | hh_ | hh_ | hh_ | hh_ | hh_ | hh_ | hh_ | hh_ | hh_ | hh_) <;> contradiction)).symm) | (rw [if_pos (by omega)])
              · have c7_ : ¬ (c_ = 61) := of_decide_eq_false c7_
                refine sm_T_go 2 (c1 := (45, [some (.inl c_)], [.inl 46, .inl c_], S0_)) rfl ?_
                refine sm_T_br (a := 0) (z := 51) rfl (fun c8_ => ?_) (fun c8_ => ?_)
                · have c8_ : c_ = 46 := of_decide_eq_true c8_
                  refine sm_T_go 2 (c1 := (101, [some (.inl c_)], [.inl 1], S0_)) rfl ?_
                  refine sm_T_rz rfl (by omega) ⟨_, _, rfl, rfl, _, rfl, ?_⟩
                  first | (exact (if_neg (by rintro (hh_ | hh_ | hh_ | hh_ | hh_ | hh_ | hh_ | hh_ | hh_ | hh_ | hh_ | hh_ | hh_ | hh_ | hh_ | hh_) <;> contradiction)).symm) | (rw [if_pos (by omega)])
                · have c8_ : ¬ (c_ = 46) := of_decide_eq_false c8_
                  refine sm_T_go 2 (c1 := (51, [some (.inl c_)], [.inl 58, .inl c_], S0_)) rfl ?_
                  refine sm_T_br (a := 0) (z := 45) rfl (fun c9_ => ?_) (fun c9_ => ?_)
                  · have c9_ : c_ = 58 := of_decide_eq_true c9_
                    refine sm_T_go 2 (c1 := (101, [some (.inl c_)], [.inl 1], S0_)) rfl ?_
                    refine sm_T_rz rfl (by omega) ⟨_, _, rfl, rfl, _, rfl, ?_⟩
                    first | (exact (if_neg (by rintro (hh_ | hh_ | hh_ | hh_ | hh_ | hh_ | hh_ | hh_ | hh_ | hh_ | hh_ | hh_ | hh_ | hh_ | hh_ | hh_) <;> contradiction)).symm) | (rw [if_pos (by omega)])
                  · have c9_ : ¬ (c_ = 58) := of_decide_eq_false c9_
                    refine sm_T_go 2 (c1 := (57, [some (.inl c_)], [.inl 38, .inl c_], S0_)) rfl ?_
                    refine sm_T_br (a := 0) (z := 39) rfl (fun c10_ => ?_) (fun c10_ => ?_)
                    · have c10_ : c_ = 38 := of_decide_eq_true c10_
                      refine sm_T_go 2 (c1 := (101, [some (.inl c_)], [.inl 1], S0_)) rfl ?_
                      refine sm_T_rz rfl (by omega) ⟨_, _, rfl, rfl, _, rfl, ?_⟩
                      first | (exact (if_neg (by rintro (hh_ | hh_ | hh_ | hh_ | hh_ | hh_ | hh_ | hh_ | hh_ | hh_ | hh_ | hh_ | hh_ | hh_ | hh_ | hh_) <;> contradiction)).symm) | (rw [if_pos (by omega)])
                    · have c10_ : ¬ (c_ = 38) := of_decide_eq_false c10_
                      refine sm_T_go 2 (c1 := (63, [some (.inl c_)], [.inl 124, .inl c_], S0_)) rfl ?_
                      refine sm_T_br (a := 0) (z := 33) rfl (fun c11_ => ?_) (fun c11_ => ?_)
                      · have c11_ : c_ = 124 := of_decide_eq_true c11_
                        refine sm_T_go 2 (c1 := (101, [some (.inl c_)], [.inl 1], S0_)) rfl ?_
                        refine sm_T_rz rfl (by omega) ⟨_, _, rfl, rfl, _, rfl, ?_⟩
                        first | (exact (if_neg (by rintro (hh_ | hh_ | hh_ | hh_ | hh_ | hh_ | hh_ | hh_ | hh_ | hh_ | hh_ | hh_ | hh_ | hh_ | hh_ | hh_) <;> contradiction)).symm) | (rw [if_pos (by omega)])
                      · have c11_ : ¬ (c_ = 124) := of_decide_eq_false c11_
                        refine sm_T_go 2 (c1 := (69, [some (.inl c_)], [.inl 94, .inl c_], S0_)) rfl ?_
                        refine sm_T_br (a := 0) (z := 27) rfl (fun c12_ => ?_) (fun c12_ => ?_)
                        · have c12_ : c_ = 94 := of_decide_eq_true c12_
                          refine sm_T_go 2 (c1 := (101, [some (.inl c_)], [.inl 1], S0_)) rfl ?_
                          refine sm_T_rz rfl (by omega) ⟨_, _, rfl, rfl, _, rfl, ?_⟩
                          first | (exact (if_neg (by rintro (hh_ | hh_ | hh_ | hh_ | hh_ | hh_ | hh_ | hh_ | hh_ | hh_ | hh_ | hh_ | hh_ | hh_ | hh_ | hh_) <;> contradiction)).symm) | (rw [if_pos (by omega)])
                        · have c12_ : ¬ (c_ = 94) := of_decide_eq_false c12_
                          refine sm_T_go 2 (c1 := (75, [some (.inl c_)], [.inl 33, .inl c_], S0_)) rfl ?_
                          refine sm_T_br (a := 0) (z := 21) rfl (fun c13_ => ?_) (fun c13_ => ?_)
                          · have c13_ : c_ = 33 := of_decide_eq_true c13_
                            refine sm_T_go 2 (c1 := (101, [some (.inl c_)], [.inl 1], S0_)) rfl ?_
                            refine sm_T_rz rfl (by omega) ⟨_, _, rfl, rfl, _, rfl, ?_⟩
                            first | (exact (if_neg (by rintro (hh_ | hh_ | hh_ | hh_ | hh_ | hh_ | hh_ | hh_ | hh_ | hh_ | hh_ | hh_ | hh_ | hh_ | hh_ | hh_) <;> contradiction)).symm) | (rw [if_pos (by omega)])
                          · have c13_ : ¬ (c_ = 33) := of_decide_eq_false c13_
                            refine sm_T_go 2 (c1 := (81, [some (.inl c_)], [.inl 43, .inl c_], S0_)) rfl ?_
                            refine sm_T_br (a := 0) (z := 15) rfl (fun c14_ => ?_) (fun c14_ => ?_)
                            · have c14_ : c_ = 43 := of_decide_eq_true c14_
                              refine sm_T_go 2 (c1 := (101, [some (.inl c_)], [.inl 1], S0_)) rfl ?_
                              refine sm_T_rz rfl (by omega) ⟨_, _, rfl, rfl, _, rfl, ?_⟩
                              first | (exact (if_neg (by rintro (hh_ | hh_ | hh_ | hh_ | hh_ | hh_ | hh_ | hh_ | hh_ | hh_ | hh_ | hh_ | hh_ | hh_ | hh_ | hh_) <;> contradiction)).symm) | (rw [if_pos (by omega)])
                            · have c14_ : ¬ (c_ = 43) := of_decide_eq_false c14_
                              refine sm_T_go 2 (c1 := (87, [some (.inl c_)], [.inl 63, .inl c_], S0_)) rfl ?_
                              refine sm_T_br (a := 0) (z := 9) rfl (fun c15_ => ?_) (fun c15_ => ?_)
                              · have c15_ : c_ = 63 := of_decide_eq_true c15_
                                refine sm_T_go 2 (c1 := (101, [some (.inl c_)], [.inl 1], S0_)) rfl ?_
                                refine sm_T_rz rfl (by omega) ⟨_, _, rfl, rfl, _, rfl, ?_⟩
                                first | (exact (if_neg (by rintro (hh_ | hh_ | hh_ | hh_ | hh_ | hh_ | hh_ | hh_ | hh_ | hh_ | hh_ | hh_ | hh_ | hh_ | hh_ | hh_) <;> contradiction)).symm) | (rw [if_pos (by omega)])
                              · have c15_ : ¬ (c_ = 63) := of_decide_eq_false c15_
                                refine sm_T_go 2 (c1 := (93, [some (.inl c_)], [.inl 64, .inl c_], S0_)) rfl ?_
                                refine sm_T_br (a := 1) (z := 7) rfl (fun c16_ => ?_) (fun c16_ => ?_)
                                · have c16_ : c_ ≠ 64 := of_decide_eq_true c16_
                                  refine sm_T_go 1 (c1 := (101, [some (.inl c_)], [.inl 0], S0_)) rfl ?_
                                  refine sm_T_rz rfl (by omega) ⟨_, _, rfl, rfl, _, rfl, ?_⟩
                                  first | (exact (if_neg (by rintro (hh_ | hh_ | hh_ | hh_ | hh_ | hh_ | hh_ | hh_ | hh_ | hh_ | hh_ | hh_ | hh_ | hh_ | hh_ | hh_) <;> contradiction)).symm) | (rw [if_pos (by omega)])
                                · have c16_ : ¬ (c_ ≠ 64) := of_decide_eq_false c16_
                                  refine sm_T_go 2 (c1 := (101, [some (.inl c_)], [.inl 1], S0_)) rfl ?_
                                  refine sm_T_rz rfl (by omega) ⟨_, _, rfl, rfl, _, rfl, ?_⟩
                                  first | (exact (if_neg (by rintro (hh_ | hh_ | hh_ | hh_ | hh_ | hh_ | hh_ | hh_ | hh_ | hh_ | hh_ | hh_ | hh_ | hh_ | hh_ | hh_) <;> contradiction)).symm) | (rw [if_pos (by omega)])
/-! M_.skip -/
def vw_286 : sx_Wl := ([], [], [])
def vq_286 (f_ : Int) (b_ : Nat → Int) (n_ : Nat) (p_ : Nat) (S0_ : sm_S) (u_ : Option sm_V) (S1_ : sm_S) : Prop := ∃ v_ : Int, u_ = some (.inl v_) ∧ gi S1_ ∧ ai_fr (sx_W vw_286) S0_ S1_ ∧ (v_ = (lx_k b_ n_ p_ : Nat))
theorem vl_286 {sc_ : Nat × (Nat → Int)} (f_ : Int) (b_ : Nat → Int) (n_ : Nat) (p_ : Nat) (S0_ : sm_S) (hb_ : S0_.2.2.1 118 0 = b_) (hn_ : (S0_.1 13 0 2) = (n_ : Int)) (hn1_ : n_ ≤ 1280) (hp_ : f_ = (p_ : Int)) (hpn_ : p_ ≤ n_) : ∀ nn_ : Nat, (∀ (k_ : Int) (S_ : sm_S), gi S_ → ai_fr (sx_W vw_286) S0_ S_ → ((∃ q_ : Nat, k_ = (q_ : Int) ∧ q_ ≤ n_ ∧ lx_s b_ n_ (n_ - q_) false q_ = lx_k b_ n_ p_) ∧ True) → ((3 * (1300 - k_)).toNat + 1) < nn_ → sm_T (mt_P sc_) 1 286 (2, [some (.inr (.inr (some (13, 0)))), some (.inl f_), some (.inl k_)], [], S_) (fun r_ => ∃ u_ S1_, r_ = (.inl u_, S1_, 0) ∧ vq_286 f_ b_ n_ p_ S0_ u_ S1_)) ∧ (∀ (k_ : Int) (S_ : sm_S), gi S_ → ai_fr (sx_W vw_286) S0_ S_ → ((∃ q_ : Nat, k_ = (q_ : Int) ∧ q_ ≤ n_ ∧ lx_s b_ n_ (n_ - q_) true q_ = lx_k b_ n_ p_) ∧ True) → ((3 * (1300 - k_)).toNat + if rb b_ n_ k_.toNat = 35 then 0 else 2) < nn_ → sm_T (mt_P sc_) 1 286 (33, [some (.inr (.inr (some (13, 0)))), some (.inl f_), some (.inl k_)], [], S_) (fun r_ => ∃ u_ S1_, r_ = (.inl u_, S1_, 0) ∧ vq_286 f_ b_ n_ p_ S0_ u_ S1_)) := by
  intro nn_
  induction nn_ with
  | zero => exact ⟨fun _ _ _ _ _ h_ => absurd h_ (Nat.not_lt_zero _), fun _ _ _ _ _ h_ => absurd h_ (Nat.not_lt_zero _)⟩
  | succ nn_ ih_ =>
    refine ⟨?_, ?_⟩
    · rintro k_ S_ hI_ hF_ ⟨h1_, -⟩ hm_
      have hb1_ : S_.2.2.1 118 0 = b_ := (fr_arr hF_ rfl).trans hb_
      have hn2_ : (S_.1 13 0 2) = (n_ : Int) := (hF_.1 13 0 2 rfl).trans hn_
      have hbb_ : ∀ k_, -128 ≤ b_ k_ ∧ b_ k_ ≤ 127 := fun k_ => by rw [← hb1_]; exact hI_.2 118 0 k_
      obtain ⟨q_, hq_, hqn_, h2_⟩ := h1_
      have ek_ : k_.toNat = q_ := by omega
      have hbq_ := hbb_ q_
      refine sm_T_go 2 (c1 := (4, [some (.inr (.inr (some (13, 0)))), some (.inl f_), some (.inl k_)], [.inl k_, .inr (.inr (some (13, 0)))], S_)) rfl ?_
      refine sm_T_cal (d1 := 0) (Q1 := vq_282 k_ b_ n_ S_) rfl rfl (by decide) (vc_282 k_ b_ n_ S_ hI_ (by exact hb1_) (by exact hn2_) (by exact hn1_) (by omega)) (fun u_ S1_ p4_ => ?_)
      obtain ⟨rfl, v6_, rfl, p4_⟩ := p4_
      rw [ek_] at p4_
      refine sm_T_cal (d1 := 0) (Q1 := vq_285 v6_ S_) rfl rfl (by decide) (vc_285 v6_ S_ hI_ ) (fun u_ S7_ p10_ => ?_)
      obtain ⟨rfl, v12_, rfl, p10_⟩ := p10_
      refine sm_T_b0 (a := 1) (z := 13) rfl (fun c13_ => ?_) (fun c13_ => ?_)
      · have c13_ : v12_ ≠ 0 := of_decide_eq_true c13_
        refine sm_T_go 2 (c1 := (25, [some (.inr (.inr (some (13, 0)))), some (.inl f_), some (.inl k_)], [.inl k_, .inr (.inr (some (13, 0)))], S_)) rfl ?_
        refine sm_T_cal (d1 := 0) (Q1 := vq_282 k_ b_ n_ S_) rfl rfl (by decide) (vc_282 k_ b_ n_ S_ hI_ (by exact hb1_) (by exact hn2_) (by exact hn1_) (by omega)) (fun u_ S14_ p17_ => ?_)
        obtain ⟨rfl, v19_, rfl, p17_⟩ := p17_
        rw [ek_] at p17_
        refine sm_T_go 1 (c1 := (30, [some (.inr (.inr (some (13, 0)))), some (.inl f_), some (.inl k_)], [.inl 35, .inl v19_], S_)) rfl ?_
        refine sm_T_br (a := 1) (z := 27) rfl (fun c20_ => ?_) (fun c20_ => ?_)
        · have c20_ : v19_ ≠ 35 := of_decide_eq_true c20_
          refine sm_T_inc (a := 2) (z := 1) (v := k_) (w := k_ + 1) rfl rfl (by omega) (by omega) (by omega) ?_
          refine sm_T_go 1 (c1 := (2, [some (.inr (.inr (some (13, 0)))), some (.inl f_), some (.inl (k_ + 1))], [], S_)) rfl ?_
          refine ih_.1 (k_ + 1) S_ hI_ hF_ ⟨?_, trivial⟩ ?_
          · unfold rb at *
            have hqq_ : q_ < n_ := by grind
            refine ⟨q_ + 1, by omega, by omega, ?_⟩
            rw [lx_s_go hqq_] at h2_; grind
          · unfold rb at *; grind
        · have c20_ : ¬ (v19_ ≠ 35) := of_decide_eq_false c20_
          refine sm_T_go 0 (c1 := (33, [some (.inr (.inr (some (13, 0)))), some (.inl f_), some (.inl k_)], [], S_)) rfl ?_
          refine ih_.2 k_ S_ hI_ hF_ ⟨?_, trivial⟩ ?_
          · refine ⟨q_, hq_, hqn_, ?_⟩
            unfold rb at *
            have hqq_ : q_ < n_ := by grind
            rw [lx_s_go hqq_] at h2_ ⊢; grind
          · rw [ek_]; rw [if_pos (by omega)]; omega
      · have c13_ : ¬ (v12_ ≠ 0) := of_decide_eq_false c13_
        refine sm_T_go 2 (c1 := (15, [some (.inr (.inr (some (13, 0)))), some (.inl f_), some (.inl k_)], [.inl k_, .inr (.inr (some (13, 0)))], S_)) rfl ?_
        refine sm_T_cal (d1 := 0) (Q1 := vq_282 k_ b_ n_ S_) rfl rfl (by decide) (vc_282 k_ b_ n_ S_ hI_ (by exact hb1_) (by exact hn2_) (by exact hn1_) (by omega)) (fun u_ S21_ p24_ => ?_)
        obtain ⟨rfl, v26_, rfl, p24_⟩ := p24_
        rw [ek_] at p24_
        refine sm_T_go 1 (c1 := (20, [some (.inr (.inr (some (13, 0)))), some (.inl f_), some (.inl k_)], [.inl 35, .inl v26_], S_)) rfl ?_
        refine sm_T_br (a := 1) (z := 43) rfl (fun c27_ => ?_) (fun c27_ => ?_)
        · have c27_ : v26_ ≠ 35 := of_decide_eq_true c27_
          refine sm_T_go 1 (c1 := (64, [some (.inr (.inr (some (13, 0)))), some (.inl f_), some (.inl k_)], [.inl k_], S_)) rfl ?_
          refine sm_T_ri rfl ⟨_, _, rfl, _, rfl, hI_, hF_, ?_⟩
          unfold rb at *
          by_cases hqq_ : q_ < n_
          · rw [lx_s_go hqq_] at h2_; grind
          · rw [lx_s_end (by omega)] at h2_; omega
        · have c27_ : ¬ (v26_ ≠ 35) := of_decide_eq_false c27_
          refine sm_T_go 2 (c1 := (25, [some (.inr (.inr (some (13, 0)))), some (.inl f_), some (.inl k_)], [.inl k_, .inr (.inr (some (13, 0)))], S_)) rfl ?_
          refine sm_T_cal (d1 := 0) (Q1 := vq_282 k_ b_ n_ S_) rfl rfl (by decide) (vc_282 k_ b_ n_ S_ hI_ (by exact hb1_) (by exact hn2_) (by exact hn1_) (by omega)) (fun u_ S28_ p31_ => ?_)
          obtain ⟨rfl, v33_, rfl, p31_⟩ := p31_
          rw [ek_] at p31_
          refine sm_T_go 1 (c1 := (30, [some (.inr (.inr (some (13, 0)))), some (.inl f_), some (.inl k_)], [.inl 35, .inl v33_], S_)) rfl ?_
          refine sm_T_br (a := 1) (z := 27) rfl (fun c34_ => ?_) (fun c34_ => ?_)
          · have c34_ : v33_ ≠ 35 := of_decide_eq_true c34_
            refine sm_T_inc (a := 2) (z := 1) (v := k_) (w := k_ + 1) rfl rfl (by omega) (by omega) (by omega) ?_
            refine sm_T_go 1 (c1 := (2, [some (.inr (.inr (some (13, 0)))), some (.inl f_), some (.inl (k_ + 1))], [], S_)) rfl ?_
            refine ih_.1 (k_ + 1) S_ hI_ hF_ ⟨?_, trivial⟩ ?_
            · unfold rb at *
              have hqq_ : q_ < n_ := by grind
              refine ⟨q_ + 1, by omega, by omega, ?_⟩
              rw [lx_s_go hqq_] at h2_; grind
            · unfold rb at *; grind
          · have c34_ : ¬ (v33_ ≠ 35) := of_decide_eq_false c34_
            refine sm_T_go 0 (c1 := (33, [some (.inr (.inr (some (13, 0)))), some (.inl f_), some (.inl k_)], [], S_)) rfl ?_
            refine ih_.2 k_ S_ hI_ hF_ ⟨?_, trivial⟩ ?_
            · refine ⟨q_, hq_, hqn_, ?_⟩
              unfold rb at *
              have hqq_ : q_ < n_ := by grind
              rw [lx_s_go hqq_] at h2_ ⊢; grind
            · rw [ek_]; rw [if_pos (by omega)]; omega
    · rintro k_ S_ hI_ hF_ ⟨h1_, -⟩ hm_
      have hb1_ : S_.2.2.1 118 0 = b_ := (fr_arr hF_ rfl).trans hb_
      have hn2_ : (S_.1 13 0 2) = (n_ : Int) := (hF_.1 13 0 2 rfl).trans hn_
      have hbb_ : ∀ k_, -128 ≤ b_ k_ ∧ b_ k_ ≤ 127 := fun k_ => by rw [← hb1_]; exact hI_.2 118 0 k_
      obtain ⟨q_, hq_, hqn_, h2_⟩ := h1_
      have ek_ : k_.toNat = q_ := by omega
      have hbq_ := hbb_ q_
      have b1_ : 0 ≤ S_.1 13 0 2 ∧ S_.1 13 0 2 ≤ 1280 := hI_.1 13 0 2 rfl
      refine sm_T_go 3 (c1 := (38, [some (.inr (.inr (some (13, 0)))), some (.inl f_), some (.inl k_)], [.inl (S_.1 13 0 2), .inl k_], S_)) rfl ?_
      refine sm_T_br (a := 3) (z := (-36)) rfl (fun c2_ => ?_) (fun c2_ => ?_)
      · have c2_ : (S_.1 13 0 2) ≤ k_ := of_decide_eq_true c2_
        refine sm_T_go 0 (c1 := (2, [some (.inr (.inr (some (13, 0)))), some (.inl f_), some (.inl k_)], [], S_)) rfl ?_
        refine ih_.1 k_ S_ hI_ hF_ ⟨?_, trivial⟩ ?_
        · refine ⟨q_, hq_, hqn_, ?_⟩
          unfold rb at *
          by_cases hqq_ : q_ < n_
          · rw [lx_s_go hqq_] at h2_ ⊢; grind
          · rw [lx_s_end (by omega)] at h2_ ⊢; exact h2_
        · unfold rb at *; grind
      · have c2_ : ¬ ((S_.1 13 0 2) ≤ k_) := of_decide_eq_false c2_
        refine sm_T_go 2 (c1 := (43, [some (.inr (.inr (some (13, 0)))), some (.inl f_), some (.inl k_)], [.inl k_, .inr (.inr (some (13, 0)))], S_)) rfl ?_
        refine sm_T_cal (d1 := 0) (Q1 := vq_282 k_ b_ n_ S_) rfl rfl (by decide) (vc_282 k_ b_ n_ S_ hI_ (by exact hb1_) (by exact hn2_) (by exact hn1_) (by omega)) (fun u_ S3_ p6_ => ?_)
        obtain ⟨rfl, v8_, rfl, p6_⟩ := p6_
        rw [ek_] at p6_
        refine sm_T_go 1 (c1 := (48, [some (.inr (.inr (some (13, 0)))), some (.inl f_), some (.inl k_)], [.inl 10, .inl v8_], S_)) rfl ?_
        refine sm_T_br (a := 0) (z := (-46)) rfl (fun c9_ => ?_) (fun c9_ => ?_)
        · have c9_ : v8_ = 10 := of_decide_eq_true c9_
          refine sm_T_go 0 (c1 := (2, [some (.inr (.inr (some (13, 0)))), some (.inl f_), some (.inl k_)], [], S_)) rfl ?_
          refine ih_.1 k_ S_ hI_ hF_ ⟨?_, trivial⟩ ?_
          · refine ⟨q_, hq_, hqn_, ?_⟩
            unfold rb at *
            by_cases hqq_ : q_ < n_
            · rw [lx_s_go hqq_] at h2_ ⊢; grind
            · rw [lx_s_end (by omega)] at h2_ ⊢; exact h2_
          · unfold rb at *; grind
        · have c9_ : ¬ (v8_ = 10) := of_decide_eq_false c9_
          refine sm_T_inc (a := 2) (z := 1) (v := k_) (w := k_ + 1) rfl rfl (by omega) (by omega) (by omega) ?_
          refine sm_T_go 1 (c1 := (33, [some (.inr (.inr (some (13, 0)))), some (.inl f_), some (.inl (k_ + 1))], [], S_)) rfl ?_
          refine ih_.2 (k_ + 1) S_ hI_ hF_ ⟨?_, trivial⟩ ?_
          · refine ⟨q_ + 1, by omega, by omega, ?_⟩
            unfold rb at *
            rw [lx_s_go (by omega)] at h2_; grind
          · unfold rb at *; grind
theorem vc_286 {sc_ : Nat × (Nat → Int)} (f_ : Int) (b_ : Nat → Int) (n_ : Nat) (p_ : Nat) (S0_ : sm_S) (hI_ : gi S0_) (hb_ : S0_.2.2.1 118 0 = b_) (hn_ : (S0_.1 13 0 2) = (n_ : Int)) (hn1_ : n_ ≤ 1280) (hp_ : f_ = (p_ : Int)) (hpn_ : p_ ≤ n_) : sm_T (mt_P sc_) 1 286 (0, [some (.inr (.inr (some (13, 0)))), some (.inl f_), none], [], S0_) (fun r_ => ∃ u_ S1_, r_ = (.inl u_, S1_, 0) ∧ vq_286 f_ b_ n_ p_ S0_ u_ S1_) := by
  have hF_ : ai_fr (sx_W vw_286) S0_ S0_ := ai_fr_rf
  refine sm_T_go 2 (c1 := (2, [some (.inr (.inr (some (13, 0)))), some (.inl f_), some (.inl f_)], [], S0_)) rfl ?_
  refine (vl_286 f_ b_ n_ p_ S0_ hb_ hn_ hn1_ hp_ hpn_ _).1 f_ S0_ hI_ hF_ ⟨?_, trivial⟩ (Nat.lt_succ_self _)
  · exact ⟨p_, hp_, hpn_, rfl⟩
/-! M_.word -/
def vw_287 : sx_Wl := ([], [], [])
def vq_287 (a_ : Int) (b_ : Int) (c_ : Int) (d_ : Int) (e_ : Int) (f_ : Int) (S0_ : sm_S) (u_ : Option sm_V) (S1_ : sm_S) : Prop := S0_ = S1_ ∧ ∃ v_ : Int, u_ = some (.inr (.inl v_)) ∧ (v_ = l_4 (l_4 (l_4 (l_4 (l_4 (l_s0 (l_i2l a_) 56) (l_s0 (l_i2l b_) 48)) (l_s0 (l_i2l c_) 40)) (l_s0 (l_i2l d_) 32)) (l_s0 (l_i2l e_) 24)) (l_s0 (l_i2l f_) 16))
theorem vc_287 {sc_ : Nat × (Nat → Int)} (a_ : Int) (b_ : Int) (c_ : Int) (d_ : Int) (e_ : Int) (f_ : Int) (S0_ : sm_S) (hI_ : gi S0_)  : sm_T (mt_P sc_) 0 287 (0, [some (.inl a_), some (.inl b_), some (.inl c_), some (.inl d_), some (.inl e_), some (.inl f_)], [], S0_) (fun r_ => ∃ u_ S1_, r_ = (.inl u_, S1_, 0) ∧ vq_287 a_ b_ c_ d_ e_ f_ S0_ u_ S1_) := by
  have hF_ : ai_fr (sx_W vw_287) S0_ S0_ := ai_fr_rf
  refine sm_T_go 29 (c1 := (37, [some (.inl a_), some (.inl b_), some (.inl c_), some (.inl d_), some (.inl e_), some (.inl f_)], [.inr (.inl (l_4 ((l_4 ((l_4 ((l_4 ((l_4 ((l_s0 ((l_i2l a_)) 56)) ((l_s0 ((l_i2l b_)) 48)))) ((l_s0 ((l_i2l c_)) 40)))) ((l_s0 ((l_i2l d_)) 32)))) ((l_s0 ((l_i2l e_)) 24)))) ((l_s0 ((l_i2l f_)) 16))))], S0_)) rfl ?_
  refine sm_T_rl rfl ⟨_, _, rfl, rfl, _, rfl, ?_⟩
  rfl
/-! M_.wordOf -/
def vw_288 : sx_Wl := ([], [], [])
def vq_288 (x_ : Int) (S0_ : sm_S) (u_ : Option sm_V) (S1_ : sm_S) : Prop := S0_ = S1_ ∧ ∃ v_ : Int, u_ = some (.inl v_) ∧ (v_ = wo x_ 7)
theorem vc_288 {sc_ : Nat × (Nat → Int)} (x_ : Int) (S0_ : sm_S) (hI_ : gi S0_)  : sm_T (mt_P sc_) 1 288 (0, [some (.inr (.inl x_)), none], [], S0_) (fun r_ => ∃ u_ S1_, r_ = (.inl u_, S1_, 0) ∧ vq_288 x_ S0_ u_ S1_) := by
  have hF_ : ai_fr (sx_W vw_288) S0_ S0_ := ai_fr_rf
  refine sm_T_go 7 (c1 := (13, [some (.inr (.inl x_)), none], [.inl 101, .inl 108, .inl 117, .inl 100, .inl 111, .inl 109, .inr (.inl x_)], S0_)) rfl ?_
  refine sm_T_cal (d1 := 0) (Q1 := vq_287 109 111 100 117 108 101 S0_) rfl rfl (by decide) (vc_287 109 111 100 117 108 101 S0_ hI_ ) (fun u_ S1_ p4_ => ?_)
  obtain ⟨rfl, v6_, rfl, p4_⟩ := p4_
  have hw0_ : v6_ = 7885631928041537536 := p4_.trans (by decide +kernel)
  refine sm_T_go 1 (c1 := (17, [some (.inr (.inl x_)), none], [.inl (sm_lcmp x_ v6_)], S0_)) rfl ?_
  refine sm_T_b0 (a := 1) (z := 7) rfl (fun c7_ => ?_) (fun c7_ => ?_)
  · have c7_ : (sm_lcmp x_ v6_) ≠ 0 := of_decide_eq_true c7_
    refine sm_T_go 7 (c1 := (33, [some (.inr (.inl x_)), none], [.inl 0, .inl 0, .inl 0, .inl 0, .inl 110, .inl 105, .inr (.inl x_)], S0_)) rfl ?_
    refine sm_T_cal (d1 := 0) (Q1 := vq_287 105 110 0 0 0 0 S0_) rfl rfl (by decide) (vc_287 105 110 0 0 0 0 S0_ hI_ ) (fun u_ S8_ p11_ => ?_)
    obtain ⟨rfl, v13_, rfl, p11_⟩ := p11_
    have hw1_ : v13_ = 7597009621420605440 := p11_.trans (by decide +kernel)
    refine sm_T_go 1 (c1 := (37, [some (.inr (.inl x_)), none], [.inl (sm_lcmp x_ v13_)], S0_)) rfl ?_
    refine sm_T_b0 (a := 1) (z := 7) rfl (fun c14_ => ?_) (fun c14_ => ?_)
    · have c14_ : (sm_lcmp x_ v13_) ≠ 0 := of_decide_eq_true c14_
      refine sm_T_go 7 (c1 := (54, [some (.inr (.inl x_)), none], [.inl 0, .inl 0, .inl 0, .inl 116, .inl 117, .inl 111, .inr (.inl x_)], S0_)) rfl ?_
      refine sm_T_cal (d1 := 0) (Q1 := vq_287 111 117 116 0 0 0 S0_) rfl rfl (by decide) (vc_287 111 117 116 0 0 0 S0_ hI_ ) (fun u_ S15_ p18_ => ?_)
      obtain ⟨rfl, v20_, rfl, p18_⟩ := p18_
      have hw2_ : v20_ = 8031453053833969664 := p18_.trans (by decide +kernel)
      refine sm_T_go 1 (c1 := (58, [some (.inr (.inl x_)), none], [.inl (sm_lcmp x_ v20_)], S0_)) rfl ?_
      refine sm_T_b0 (a := 1) (z := 7) rfl (fun c21_ => ?_) (fun c21_ => ?_)
      · have c21_ : (sm_lcmp x_ v20_) ≠ 0 := of_decide_eq_true c21_
        refine sm_T_go 7 (c1 := (75, [some (.inr (.inl x_)), none], [.inl 0, .inl 0, .inl 0, .inl 116, .inl 101, .inl 108, .inr (.inl x_)], S0_)) rfl ?_
        refine sm_T_cal (d1 := 0) (Q1 := vq_287 108 101 116 0 0 0 S0_) rfl rfl (by decide) (vc_287 108 101 116 0 0 0 S0_ hI_ ) (fun u_ S22_ p25_ => ?_)
        obtain ⟨rfl, v27_, rfl, p25_⟩ := p25_
        have hw3_ : v27_ = 7810776672092815360 := p25_.trans (by decide +kernel)
        refine sm_T_go 1 (c1 := (79, [some (.inr (.inl x_)), none], [.inl (sm_lcmp x_ v27_)], S0_)) rfl ?_
        refine sm_T_b0 (a := 1) (z := 7) rfl (fun c28_ => ?_) (fun c28_ => ?_)
        · have c28_ : (sm_lcmp x_ v27_) ≠ 0 := of_decide_eq_true c28_
          refine sm_T_go 7 (c1 := (96, [some (.inr (.inl x_)), none], [.inl 0, .inl 0, .inl 0, .inl 103, .inl 101, .inl 114, .inr (.inl x_)], S0_)) rfl ?_
          refine sm_T_cal (d1 := 0) (Q1 := vq_287 114 101 103 0 0 0 S0_) rfl rfl (by decide) (vc_287 114 101 103 0 0 0 S0_ hI_ ) (fun u_ S29_ p32_ => ?_)
          obtain ⟨rfl, v34_, rfl, p32_⟩ := p32_
          have hw4_ : v34_ = 8243107942669221888 := p32_.trans (by decide +kernel)
          refine sm_T_go 1 (c1 := (100, [some (.inr (.inl x_)), none], [.inl (sm_lcmp x_ v34_)], S0_)) rfl ?_
          refine sm_T_b0 (a := 1) (z := 7) rfl (fun c35_ => ?_) (fun c35_ => ?_)
          · have c35_ : (sm_lcmp x_ v34_) ≠ 0 := of_decide_eq_true c35_
            refine sm_T_go 7 (c1 := (117, [some (.inr (.inl x_)), none], [.inl 0, .inl 0, .inl 0, .inl 101, .inl 115, .inl 117, .inr (.inl x_)], S0_)) rfl ?_
            refine sm_T_cal (d1 := 0) (Q1 := vq_287 117 115 101 0 0 0 S0_) rfl rfl (by decide) (vc_287 117 115 101 0 0 0 S0_ hI_ ) (fun u_ S36_ p39_ => ?_)
            obtain ⟨rfl, v41_, rfl, p39_⟩ := p39_
            have hw5_ : v41_ = 8463219175433699328 := p39_.trans (by decide +kernel)
            refine sm_T_go 1 (c1 := (121, [some (.inr (.inl x_)), none], [.inl (sm_lcmp x_ v41_)], S0_)) rfl ?_
            refine sm_T_b0 (a := 1) (z := 8) rfl (fun c42_ => ?_) (fun c42_ => ?_)
            · have c42_ : (sm_lcmp x_ v41_) ≠ 0 := of_decide_eq_true c42_
              refine sm_T_go 7 (c1 := (140, [some (.inr (.inl x_)), none], [.inl 0, .inl 0, .inl 108, .inl 108, .inl 101, .inl 99, .inr (.inl x_)], S0_)) rfl ?_
              refine sm_T_cal (d1 := 0) (Q1 := vq_287 99 101 108 108 0 0 S0_) rfl rfl (by decide) (vc_287 99 101 108 108 0 0 S0_ hI_ ) (fun u_ S43_ p46_ => ?_)
              obtain ⟨rfl, v48_, rfl, p46_⟩ := p46_
              have hw6_ : v48_ = 7162249993514909696 := p46_.trans (by decide +kernel)
              refine sm_T_go 1 (c1 := (144, [some (.inr (.inl x_)), none], [.inl (sm_lcmp x_ v48_)], S0_)) rfl ?_
              refine sm_T_b0 (a := 1) (z := 8) rfl (fun c49_ => ?_) (fun c49_ => ?_)
              · have c49_ : (sm_lcmp x_ v48_) ≠ 0 := of_decide_eq_true c49_
                refine sm_T_go 1 (c1 := (153, [some (.inr (.inl x_)), none], [.inl 0], S0_)) rfl ?_
                refine sm_T_ri rfl ⟨_, _, rfl, rfl, _, rfl, ?_⟩
                simp only [lcmp0, ne_eq, Decidable.not_not] at *
                simp only [wo, wcs, List.getD_cons_zero, List.getD_cons_succ]
                grind
              · have c49_ : ¬ ((sm_lcmp x_ v48_) ≠ 0) := of_decide_eq_false c49_
                refine sm_T_go 2 (c1 := (153, [some (.inr (.inl x_)), none], [.inl 7], S0_)) rfl ?_
                refine sm_T_ri rfl ⟨_, _, rfl, rfl, _, rfl, ?_⟩
                simp only [lcmp0, ne_eq, Decidable.not_not] at *
                simp only [wo, wcs, List.getD_cons_zero, List.getD_cons_succ]
                grind
            · have c42_ : ¬ ((sm_lcmp x_ v41_) ≠ 0) := of_decide_eq_false c42_
              refine sm_T_go 2 (c1 := (153, [some (.inr (.inl x_)), none], [.inl 6], S0_)) rfl ?_
              refine sm_T_ri rfl ⟨_, _, rfl, rfl, _, rfl, ?_⟩
              simp only [lcmp0, ne_eq, Decidable.not_not] at *
              simp only [wo, wcs, List.getD_cons_zero, List.getD_cons_succ]
              grind
          · have c35_ : ¬ ((sm_lcmp x_ v34_) ≠ 0) := of_decide_eq_false c35_
            refine sm_T_go 2 (c1 := (153, [some (.inr (.inl x_)), none], [.inl 5], S0_)) rfl ?_
            refine sm_T_ri rfl ⟨_, _, rfl, rfl, _, rfl, ?_⟩
            simp only [lcmp0, ne_eq, Decidable.not_not] at *
            simp only [wo, wcs, List.getD_cons_zero, List.getD_cons_succ]
            grind
        · have c28_ : ¬ ((sm_lcmp x_ v27_) ≠ 0) := of_decide_eq_false c28_
          refine sm_T_go 2 (c1 := (153, [some (.inr (.inl x_)), none], [.inl 4], S0_)) rfl ?_
          refine sm_T_ri rfl ⟨_, _, rfl, rfl, _, rfl, ?_⟩
          simp only [lcmp0, ne_eq, Decidable.not_not] at *
          simp only [wo, wcs, List.getD_cons_zero, List.getD_cons_succ]
          grind
      · have c21_ : ¬ ((sm_lcmp x_ v20_) ≠ 0) := of_decide_eq_false c21_
        refine sm_T_go 2 (c1 := (153, [some (.inr (.inl x_)), none], [.inl 3], S0_)) rfl ?_
        refine sm_T_ri rfl ⟨_, _, rfl, rfl, _, rfl, ?_⟩
        simp only [lcmp0, ne_eq, Decidable.not_not] at *
        simp only [wo, wcs, List.getD_cons_zero, List.getD_cons_succ]
        grind
    · have c14_ : ¬ ((sm_lcmp x_ v13_) ≠ 0) := of_decide_eq_false c14_
      refine sm_T_go 2 (c1 := (153, [some (.inr (.inl x_)), none], [.inl 2], S0_)) rfl ?_
      refine sm_T_ri rfl ⟨_, _, rfl, rfl, _, rfl, ?_⟩
      simp only [lcmp0, ne_eq, Decidable.not_not] at *
      simp only [wo, wcs, List.getD_cons_zero, List.getD_cons_succ]
      grind
  · have c7_ : ¬ ((sm_lcmp x_ v6_) ≠ 0) := of_decide_eq_false c7_
    refine sm_T_go 2 (c1 := (153, [some (.inr (.inl x_)), none], [.inl 1], S0_)) rfl ?_
    refine sm_T_ri rfl ⟨_, _, rfl, rfl, _, rfl, ?_⟩
    simp only [lcmp0, ne_eq, Decidable.not_not] at *
    simp only [wo, wcs, List.getD_cons_zero, List.getD_cons_succ]
    grind
def hide (P_ : Prop) : Prop := P_
theorem hide_o {R_ : Prop} (h_ : hide R_) : R_ := h_
theorem if01 {v_ : Int} {P_ : Prop} {_ : Decidable P_} (h_ : v_ = if P_ then 1 else 0) : (v_ = 1 ∧ P_) ∨ (v_ = 0 ∧ ¬ P_) := by
  split at h_
  · left; constructor; exact h_; assumption
  · right; constructor; exact h_; assumption
theorem i_or_n (x_ y_ : Int) : -2147483648 ≤ i_or x_ y_ ∧ i_or x_ y_ ≤ 2147483647 := sm_ni_toInt _
theorem wo_b (x_ : Int) : 0 ≤ wo x_ 7 ∧ wo x_ 7 ≤ 7 := by
  simp only [wo]
  repeat' split
  all_goals omega
theorem rb_s {b_ : Nat → Int} {n_ k_ : Nat} (hb_ : -128 ≤ b_ k_ ∧ b_ k_ ≤ 127) : lx_sg (rb b_ n_ k_) ↔ k_ < n_ ∧ lx_sg (b_ k_) := by
  unfold rb
  split
  · rename_i hk_
    by_cases q_ : 0 ≤ b_ k_
    · rw [Int.emod_eq_of_lt q_ (by omega)]
      exact ⟨fun h_ => ⟨hk_, h_⟩, fun h_ => h_.2⟩
    · have e_ : b_ k_ % 256 = b_ k_ + 256 := by omega
      rw [e_]
      constructor
      · intro h_; exfalso; rcases h_ with h_ | h_ | h_ | h_ | h_ | h_ | h_ | h_ | h_ | h_ | h_ | h_ | h_ | h_ | h_ | h_ <;> omega
      · intro h_; exfalso; rcases h_.2 with h_ | h_ | h_ | h_ | h_ | h_ | h_ | h_ | h_ | h_ | h_ | h_ | h_ | h_ | h_ | h_ <;> omega
  · constructor
    · intro h_; exfalso; rcases h_ with h_ | h_ | h_ | h_ | h_ | h_ | h_ | h_ | h_ | h_ | h_ | h_ | h_ | h_ | h_ | h_ <;> omega
    · intro h_; omega
theorem tk_s1 {W_ N_ : Int} (hW_ : 1 ≤ W_ ∧ W_ ≤ 9 ∧ W_ ≠ 2) (hN_ : N_ = if W_ = 1 then 0 else W_ - 2) (h_ : N_ ≤ 0) : 1 = r_so W_ := by
  unfold r_so
  split at hN_
  · rename_i q_; rw [if_neg (by omega), if_pos q_]
  · omega
theorem tk_s6 {W_ N_ : Int} (hW_ : 1 ≤ W_ ∧ W_ ≤ 9 ∧ W_ ≠ 2) (hN_ : N_ = if W_ = 1 then 0 else W_ - 2) (h_ : 0 < N_) : 6 = r_so W_ := by
  unfold r_so
  split at hN_
  · omega
  · rename_i q_; rw [if_neg (by omega), if_neg q_, if_neg (by omega), if_pos (by omega)]
theorem tk_n {W_ N_ x_ : Int} (hW_ : 1 ≤ W_ ∧ W_ ≤ 9 ∧ W_ ≠ 2) (hN_ : N_ = if W_ = 1 then 0 else W_ - 2) : N_ = r_nu W_ x_ := by
  unfold r_nu
  split at hN_
  · rename_i q_; rw [if_pos q_]; exact hN_
  · rename_i q_; rw [if_neg q_, if_neg (by omega), if_pos (by omega)]; exact hN_
theorem tk_g {W_ : Int} (h_ : 33 ≤ W_) : 3 = r_so W_ ∧ ∀ x_, W_ = r_nu W_ x_ := by
  refine ⟨?_, fun x_ => ?_⟩
  · unfold r_so; rw [if_neg (by omega), if_neg (by omega), if_neg (by omega), if_neg (by omega)]
  · unfold r_nu; rw [if_neg (by omega), if_neg (by omega), if_neg (by omega)]
theorem lx_x_b {c_ : Int} (h_ : lx_x c_) : 1 ≤ c_ ∧ c_ < 128 := by omega
end
/-! 99.v3t -/
section
/-! the reference: one token; written by wip/p55/gen/vg -/
/-! M_.take -/
def vw_290 : sx_Wl := ([], [119, 120, 121, 122, 123], [])
def vq_290 (f_ : Int) (b_ : Nat → Int) (n_ : Nat) (p_ : Nat) (t_ : Nat) (S0_ : sm_S) (u_ : Option sm_V) (S1_ : sm_S) : Prop := ∃ v_ : Int, u_ = some (.inl v_) ∧ gi S1_ ∧ ai_fr (sx_W vw_290) S0_ S1_ ∧ (v_ = (lx_en b_ n_ p_ : Nat) ∧ ((S1_.2.2.1 120 0 (t_)) = (p_ : Int) ∧ (S1_.2.2.1 119 0 (t_)) = r_so (lx_kd b_ n_ p_) ∧ (lx_kd b_ n_ p_ ≠ -1 → (S1_.2.2.1 121 0 (t_)) = r_nu (lx_kd b_ n_ p_) (lx_vl b_ n_ p_)) ∧ (lx_kd b_ n_ p_ = 1 → (S1_.2.2.2 122 0 (t_)) = rk1 b_ p_ (lx_sz b_ n_ p_) ∧ (S1_.2.2.1 123 0 (t_)) = rk2 b_ p_ (lx_sz b_ n_ p_))) ∧ (∀ j_ : Nat, j_ ≠ t_ → (S1_.2.2.1 119 0 (j_)) = (S0_.2.2.1 119 0 (j_)) ∧ (S1_.2.2.1 120 0 (j_)) = (S0_.2.2.1 120 0 (j_)) ∧ (S1_.2.2.1 121 0 (j_)) = (S0_.2.2.1 121 0 (j_)) ∧ (S1_.2.2.2 122 0 (j_)) = (S0_.2.2.2 122 0 (j_)) ∧ (S1_.2.2.1 123 0 (j_)) = (S0_.2.2.1 123 0 (j_))))
set_option maxHeartbeats 16000000 in
set_option maxRecDepth 20000 in
theorem vl_290 {sc_ : Nat × (Nat → Int)} (f_ : Int) (b_ : Nat → Int) (n_ : Nat) (p_ : Nat) (t_ : Nat) (S0_ : sm_S) (hb_ : S0_.2.2.1 118 0 = b_) (hn_ : (S0_.1 13 0 2) = (n_ : Int)) (hn1_ : n_ ≤ 1280) (hp_ : f_ = (p_ : Int)) (hpn_ : p_ < n_) (ht_ : (S0_.1 13 0 3) = (t_ : Int)) (ht1_ : t_ ≤ 1280) : ∀ nn_ : Nat, (∀ (tt_ : Int) (k_ : Int) (c_ : Int) (S_ : sm_S), gi S_ → ai_fr (sx_W vw_290) S0_ S_ → ((tt_ = (t_ : Int) ∧ lx_l (b_ p_)) ∧ (∃ i_ : Nat, k_ = ((p_ + i_ : Nat) : Int) ∧ p_ + i_ ≤ n_ ∧ lx_ne b_ n_ (p_ + i_) = lx_ne b_ n_ p_ ∧ (∀ j_, j_ < i_ → lx_x (b_ (p_ + j_)))) ∧ ((S_.2.2.2 122 0 (t_)) = rk1 b_ p_ (k_ - p_).toNat ∧ (S_.2.2.1 123 0 (t_)) = rk2 b_ p_ (k_ - p_).toNat) ∧ ((S_.2.2.1 121 0 (t_)) = 0 ∧ (S_.2.2.1 120 0 (t_)) = (p_ : Int)) ∧ (∀ j_ : Nat, j_ ≠ t_ → (S_.2.2.1 119 0 (j_)) = (S0_.2.2.1 119 0 (j_)) ∧ (S_.2.2.1 120 0 (j_)) = (S0_.2.2.1 120 0 (j_)) ∧ (S_.2.2.1 121 0 (j_)) = (S0_.2.2.1 121 0 (j_)) ∧ (S_.2.2.2 122 0 (j_)) = (S0_.2.2.2 122 0 (j_)) ∧ (S_.2.2.1 123 0 (j_)) = (S0_.2.2.1 123 0 (j_))) ∧ True) → ((1300 - k_).toNat) < nn_ → sm_T (mt_P sc_) 2 290 (50, [some (.inr (.inr (some (13, 0)))), some (.inl f_), some (.inl tt_), some (.inl k_), some (.inl c_), none, none], [], S_) (fun r_ => ∃ u_ S1_, r_ = (.inl u_, S1_, 0) ∧ vq_290 f_ b_ n_ p_ t_ S0_ u_ S1_)) ∧ (∀ (tt_ : Int) (k_ : Int) (c_ : Int) (S_ : sm_S), gi S_ → ai_fr (sx_W vw_290) S0_ S_ → ((tt_ = (t_ : Int) ∧ ¬ lx_l (b_ p_) ∧ lx_g (b_ p_)) ∧ (∃ i_ : Nat, k_ = ((p_ + i_ : Nat) : Int) ∧ p_ + i_ ≤ n_ ∧ lx_de b_ n_ (p_ + i_) = lx_de b_ n_ p_ ∧ (∀ j_, j_ < i_ → lx_g (b_ (p_ + j_)))) ∧ ((S_.2.2.1 121 0 (t_)) = lx_v b_ p_ (min (k_ - p_).toNat 6)) ∧ ((S_.2.2.1 120 0 (t_)) = (p_ : Int)) ∧ (∀ j_ : Nat, j_ ≠ t_ → (S_.2.2.1 119 0 (j_)) = (S0_.2.2.1 119 0 (j_)) ∧ (S_.2.2.1 120 0 (j_)) = (S0_.2.2.1 120 0 (j_)) ∧ (S_.2.2.1 121 0 (j_)) = (S0_.2.2.1 121 0 (j_)) ∧ (S_.2.2.2 122 0 (j_)) = (S0_.2.2.2 122 0 (j_)) ∧ (S_.2.2.1 123 0 (j_)) = (S0_.2.2.1 123 0 (j_))) ∧ True) → ((1300 - k_).toNat) < nn_ → sm_T (mt_P sc_) 2 290 (252, [some (.inr (.inr (some (13, 0)))), some (.inl f_), some (.inl tt_), some (.inl k_), some (.inl c_), none, none], [], S_) (fun r_ => ∃ u_ S1_, r_ = (.inl u_, S1_, 0) ∧ vq_290 f_ b_ n_ p_ t_ S0_ u_ S1_)) ∧ (∀ (tt_ : Int) (k_ : Int) (c_ : Int) (S_ : sm_S), gi S_ → ai_fr (sx_W vw_290) S0_ S_ → ((tt_ = (t_ : Int) ∧ k_ = (p_ : Int) ∧ c_ = rb b_ n_ p_) ∧ (hide (¬ lx_l (b_ p_) ∧ ¬ lx_g (b_ p_))) ∧ ((S_.2.2.1 120 0 (t_)) = (p_ : Int)) ∧ (∀ j_ : Nat, j_ ≠ t_ → (S_.2.2.1 119 0 (j_)) = (S0_.2.2.1 119 0 (j_)) ∧ (S_.2.2.1 120 0 (j_)) = (S0_.2.2.1 120 0 (j_)) ∧ (S_.2.2.1 121 0 (j_)) = (S0_.2.2.1 121 0 (j_)) ∧ (S_.2.2.2 122 0 (j_)) = (S0_.2.2.2 122 0 (j_)) ∧ (S_.2.2.1 123 0 (j_)) = (S0_.2.2.1 123 0 (j_))) ∧ True) → (0) < nn_ → sm_T (mt_P sc_) 2 290 (332, [some (.inr (.inr (some (13, 0)))), some (.inl f_), some (.inl tt_), some (.inl k_), some (.inl c_), none, none], [], S_) (fun r_ => ∃ u_ S1_, r_ = (.inl u_, S1_, 0) ∧ vq_290 f_ b_ n_ p_ t_ S0_ u_ S1_)) := by
  intro nn_
  induction nn_ with
  | zero => exact ⟨fun _ _ _ _ _ _ _ h_ => absurd h_ (Nat.not_lt_zero _), fun _ _ _ _ _ _ _ h_ => absurd h_ (Nat.not_lt_zero _), fun _ _ _ _ _ _ _ h_ => absurd h_ (Nat.not_lt_zero _)⟩
  | succ nn_ ih_ =>
    refine ⟨?_, ?_, ?_⟩
    · rintro tt_ k_ c_ S_ hI_ hF_ ⟨h0_, h1_, h4_, h5_, h6_, -⟩ hm_
      have hb1_ : S_.2.2.1 118 0 = b_ := (fr_arr hF_ rfl).trans hb_
      have hn2_ : (S_.1 13 0 2) = (n_ : Int) := (hF_.1 13 0 2 rfl).trans hn_
      have hbb_ : ∀ k_, -128 ≤ b_ k_ ∧ b_ k_ ≤ 127 := fun k_ => by rw [← hb1_]; exact hI_.2 118 0 k_
      obtain ⟨i_, hk_, hin_, h2_, h3_⟩ := h1_
      have ek_ : k_.toNat = p_ + i_ := by omega
      have ett_ : tt_.toNat = t_ := by omega
      have hbi_ := hbb_ (p_ + i_)
      have hbl_ := rb_l (n := n_) hbi_
      have hbg_ := rb_g (n := n_) hbi_
      refine sm_T_go 2 (c1 := (52, [some (.inr (.inr (some (13, 0)))), some (.inl f_), some (.inl tt_), some (.inl k_), some (.inl c_), none, none], [.inl k_, .inr (.inr (some (13, 0)))], S_)) rfl ?_
      refine sm_T_cal (d1 := 0) (Q1 := vq_282 k_ b_ n_ S_) rfl rfl (by decide) (vc_282 k_ b_ n_ S_ hI_ (by exact hb1_) (by exact hn2_) (by exact hn1_) (by omega)) (fun u_ S1_ p4_ => ?_)
      obtain ⟨rfl, v6_, rfl, p4_⟩ := p4_
      have hc52_ := p4_
      rw [ek_] at hc52_
      refine sm_T_cal (d1 := 0) (Q1 := vq_283 v6_ S_) rfl rfl (by decide) (vc_283 v6_ S_ hI_ ) (fun u_ S7_ p10_ => ?_)
      obtain ⟨rfl, v12_, rfl, p10_⟩ := p10_
      have hl55_ := if01 p10_
      rw [hc52_, hbl_] at hl55_
      refine sm_T_b0 (a := 1) (z := 14) rfl (fun c13_ => ?_) (fun c13_ => ?_)
      · have c13_ : v12_ ≠ 0 := of_decide_eq_true c13_
        refine sm_T_go 2 (c1 := (74, [some (.inr (.inr (some (13, 0)))), some (.inl f_), some (.inl tt_), some (.inl k_), some (.inl c_), none, none], [.inl f_, .inl k_], S_)) rfl ?_
        refine sm_T_bin (w := k_ - f_) rfl (bi_sub (by omega) (by omega) (by omega)) ?_
        refine sm_T_go 6 (c1 := (86, [some (.inr (.inr (some (13, 0)))), some (.inl f_), some (.inl tt_), some (.inl k_), some (.inl c_), some (.inl (k_ - f_)), none], [.inl 8, .inl (k_ - f_), .inl tt_, .inr (.inr (some (122, 0)))], S_)) rfl ?_
        refine sm_T_br (a := 3) (z := 28) rfl (fun c14_ => ?_) (fun c14_ => ?_)
        · have c14_ : 8 ≤ k_ - f_ := of_decide_eq_true c14_
          refine sm_T_go 3 (c1 := (119, [some (.inr (.inr (some (13, 0)))), some (.inl f_), some (.inl tt_), some (.inl k_), some (.inl c_), some (.inl (k_ - f_)), none], [.inl tt_, .inr (.inr (some (122, 0))), .inl tt_, .inr (.inr (some (122, 0)))], S_)) rfl ?_
          refine sm_T_lald (n := 65537) rfl rfl (by omega) (by omega) ?_
          refine sm_T_last (n := 65537) rfl rfl (by omega) (by omega) ?_
          have hI15_ : gi (sm_aL S_ 122 0 tt_.toNat ((S_.2.2.2 122 0 tt_.toNat))) := gi_aL hI_
          have hF16_ : ai_fr (sx_W vw_290) S0_ (sm_aL S_ 122 0 tt_.toNat ((S_.2.2.2 122 0 tt_.toNat))) := ai_fr_tr hF_ (ai_fr_aL rfl)
          refine sm_T_go 5 (c1 := (130, [some (.inr (.inr (some (13, 0)))), some (.inl f_), some (.inl tt_), some (.inl k_), some (.inl c_), some (.inl (k_ - f_)), none], [.inl 8, .inl (k_ - f_), .inl tt_, .inr (.inr (some (123, 0)))], sm_aL S_ 122 0 tt_.toNat ((S_.2.2.2 122 0 tt_.toNat)))) rfl ?_
          refine sm_T_br (a := 2) (z := 37) rfl (fun c17_ => ?_) (fun c17_ => ?_)
          · have c17_ : k_ - f_ < 8 := of_decide_eq_true c17_
            exfalso; omega
          · have c17_ : ¬ (k_ - f_ < 8) := of_decide_eq_false c17_
            refine sm_T_go 2 (c1 := (137, [some (.inr (.inr (some (13, 0)))), some (.inl f_), some (.inl tt_), some (.inl k_), some (.inl c_), some (.inl (k_ - f_)), none], [.inl 12, .inl (k_ - f_), .inl tt_, .inr (.inr (some (123, 0)))], sm_aL S_ 122 0 tt_.toNat ((S_.2.2.2 122 0 tt_.toNat)))) rfl ?_
            refine sm_T_br (a := 3) (z := 30) rfl (fun c18_ => ?_) (fun c18_ => ?_)
            · have c18_ : 12 ≤ k_ - f_ := of_decide_eq_true c18_
              refine sm_T_go 3 (c1 := (172, [some (.inr (.inr (some (13, 0)))), some (.inl f_), some (.inl tt_), some (.inl k_), some (.inl c_), some (.inl (k_ - f_)), none], [.inl tt_, .inr (.inr (some (123, 0))), .inl tt_, .inr (.inr (some (123, 0)))], sm_aL S_ 122 0 tt_.toNat ((S_.2.2.2 122 0 tt_.toNat)))) rfl ?_
              refine sm_T_iald (n := 65537) rfl rfl (by omega) (by omega) ?_
              have b19_ : (-2147483648) ≤ S_.2.2.1 123 0 tt_.toNat ∧ S_.2.2.1 123 0 tt_.toNat ≤ 2147483647 := hI_.2 123 0 _
              refine sm_T_iast (n := 65537) rfl rfl (by omega) (by omega) ?_
              have hI20_ : gi (sm_aI (sm_aL S_ 122 0 tt_.toNat ((S_.2.2.2 122 0 tt_.toNat))) 123 0 tt_.toNat (S_.2.2.1 123 0 tt_.toNat)) := gi_aI hI15_ (show (-2147483648) ≤ (S_.2.2.1 123 0 tt_.toNat) ∧ (S_.2.2.1 123 0 tt_.toNat) ≤ 2147483647 from ⟨by omega, by omega⟩)
              have hF21_ : ai_fr (sx_W vw_290) S0_ (sm_aI (sm_aL S_ 122 0 tt_.toNat ((S_.2.2.2 122 0 tt_.toNat))) 123 0 tt_.toNat (S_.2.2.1 123 0 tt_.toNat)) := ai_fr_tr hF16_ (ai_fr_aI rfl)
              refine sm_T_inc (a := 3) (z := 1) (v := k_) (w := k_ + 1) rfl rfl (by omega) (by omega) (by omega) ?_
              refine sm_T_go 1 (c1 := (50, [some (.inr (.inr (some (13, 0)))), some (.inl f_), some (.inl tt_), some (.inl (k_ + 1)), some (.inl c_), some (.inl (k_ - f_)), none], [], sm_aI (sm_aL S_ 122 0 tt_.toNat ((S_.2.2.2 122 0 tt_.toNat))) 123 0 tt_.toNat (S_.2.2.1 123 0 tt_.toNat))) rfl ?_
              refine sm_T_wk [some (.inr (.inr (some (13, 0)))), some (.inl f_), some (.inl tt_), some (.inl (k_ + 1)), some (.inl c_), none, none] (by exact ⟨rfl, rfl, rfl, rfl, rfl, trivial⟩) ?_
              refine ih_.1 tt_ (k_ + 1) c_ (sm_aI (sm_aL S_ 122 0 tt_.toNat ((S_.2.2.2 122 0 tt_.toNat))) 123 0 tt_.toNat (S_.2.2.1 123 0 tt_.toNat)) hI20_ hF21_ ⟨?_, ?_, ?_, ?_, ?_, trivial⟩ ?_
              · exact h0_
              · refine ⟨i_ + 1, by omega, by omega, ?_, ?_⟩
                · rw [← h2_, lx_e_go (p := p_ + i_)]
                  rw [if_pos (by omega)]; rfl
                · intro j_ hj_; by_cases hq_ : j_ = i_
                  · rw [hq_]; omega
                  · exact h3_ j_ (by omega)
              · have e5_ : (k_ - p_).toNat = i_ := by omega
                rw [show (k_ + 1 - p_).toNat = i_ + 1 by omega]
                rw [e5_] at h4_
                (try simp only [rd_eq, rd_ne, rf_eq, rf_nk, rf_nt, rd_fa, rd_af, rd_fl, rd_al, rd_lf, rd_la, rd_leq, rd_lne, rd_fr, rd_ar, ne_eq, Nat.reduceEqDiff, not_false_eq_true])
                simp only [ett_, if_true, reduceIte]
                have hbv_ : ∀ v_ : Int, v_ = rb b_ n_ (p_ + i_) → v_ = b_ (p_ + i_) := by intro v_ hv_; rw [hv_]; unfold rb; rw [if_pos (by omega)]; omega
                refine ⟨?_, ?_⟩
                · unfold rk1; first | (rw [if_pos (by omega)]; exact congr (congrArg l_4 h4_.1) (congr (congrArg l_s0 (congrArg l_i2l (hbv_ _ (by assumption)))) (by omega))) | (rw [if_neg (by omega)]; exact h4_.1)
                · unfold rk2; first | (rw [if_pos (by omega)]; exact congr (congrArg i_or h4_.2) (congr (congrArg i_shl (hbv_ _ (by assumption))) (by omega))) | (rw [if_neg (by omega)]; exact h4_.2)
              · (try simp only [rd_eq, rd_ne, rf_eq, rf_nk, rf_nt, rd_fa, rd_af, rd_fl, rd_al, rd_lf, rd_la, rd_leq, rd_lne, rd_fr, rd_ar, ne_eq, Nat.reduceEqDiff, not_false_eq_true])
                exact h5_
              · intro j_ hj_
                have hu_ := h6_ j_ hj_
                (try simp only [rd_eq, rd_ne, rf_eq, rf_nk, rf_nt, rd_fa, rd_af, rd_fl, rd_al, rd_lf, rd_la, rd_leq, rd_lne, rd_fr, rd_ar, ne_eq, Nat.reduceEqDiff, not_false_eq_true])
                simp only [ett_, if_neg hj_]
                exact hu_
              · omega
            · have c18_ : ¬ (12 ≤ k_ - f_) := of_decide_eq_false c18_
              refine sm_T_go 3 (c1 := (145, [some (.inr (.inr (some (13, 0)))), some (.inl f_), some (.inl tt_), some (.inl k_), some (.inl c_), some (.inl (k_ - f_)), none], [.inl tt_, .inr (.inr (some (123, 0))), .inl tt_, .inr (.inr (some (123, 0)))], sm_aL S_ 122 0 tt_.toNat ((S_.2.2.2 122 0 tt_.toNat)))) rfl ?_
              refine sm_T_iald (n := 65537) rfl rfl (by omega) (by omega) ?_
              have b22_ : (-2147483648) ≤ S_.2.2.1 123 0 tt_.toNat ∧ S_.2.2.1 123 0 tt_.toNat ≤ 2147483647 := hI_.2 123 0 _
              refine sm_T_go 2 (c1 := (148, [some (.inr (.inr (some (13, 0)))), some (.inl f_), some (.inl tt_), some (.inl k_), some (.inl c_), some (.inl (k_ - f_)), none], [.inl k_, .inr (.inr (some (13, 0))), .inl (S_.2.2.1 123 0 tt_.toNat), .inl tt_, .inr (.inr (some (123, 0)))], sm_aL S_ 122 0 tt_.toNat ((S_.2.2.2 122 0 tt_.toNat)))) rfl ?_
              refine sm_T_cal (d1 := 0) (Q1 := vq_282 k_ b_ n_ (sm_aL S_ 122 0 tt_.toNat ((S_.2.2.2 122 0 tt_.toNat)))) rfl rfl (by decide) (vc_282 k_ b_ n_ (sm_aL S_ 122 0 tt_.toNat ((S_.2.2.2 122 0 tt_.toNat))) hI15_ (by exact hb1_) (by exact hn2_) (by exact hn1_) (by omega)) (fun u_ S23_ p26_ => ?_)
              obtain ⟨rfl, v28_, rfl, p26_⟩ := p26_
              have hc148_ := p26_
              rw [ek_] at hc148_
              refine sm_T_go 4 (c1 := (159, [some (.inr (.inr (some (13, 0)))), some (.inl f_), some (.inl tt_), some (.inl k_), some (.inl c_), some (.inl (k_ - f_)), none], [.inl 8, .inl (k_ - f_), .inl 8, .inl 24, .inl v28_, .inl (S_.2.2.1 123 0 tt_.toNat), .inl tt_, .inr (.inr (some (123, 0)))], sm_aL S_ 122 0 tt_.toNat ((S_.2.2.2 122 0 tt_.toNat)))) rfl ?_
              refine sm_T_bin (w := k_ - f_ - 8) rfl (bi_sub (by omega) (by omega) (by omega)) ?_
              refine sm_T_bin (w := 8 * k_ - 8 * f_ - 64) rfl (bi_mul (by omega) (by omega) (by omega)) ?_
              refine sm_T_bin (w := -(8 * k_) + 8 * f_ + 88) rfl (bi_sub (by omega) (by omega) (by omega)) ?_
              refine sm_T_bin (w := (i_shl v28_ (-(8 * k_) + 8 * f_ + 88))) rfl rfl ?_
              refine sm_T_bin (w := (i_or (S_.2.2.1 123 0 tt_.toNat) (i_shl v28_ (-(8 * k_) + 8 * f_ + 88)))) rfl rfl ?_
              have b29_ := i_or_n (S_.2.2.1 123 0 tt_.toNat) (i_shl v28_ (-(8 * k_) + 8 * f_ + 88))
              refine sm_T_go 1 (c1 := (173, [some (.inr (.inr (some (13, 0)))), some (.inl f_), some (.inl tt_), some (.inl k_), some (.inl c_), some (.inl (k_ - f_)), none], [.inl (i_or (S_.2.2.1 123 0 tt_.toNat) (i_shl v28_ (-(8 * k_) + 8 * f_ + 88))), .inl tt_, .inr (.inr (some (123, 0)))], sm_aL S_ 122 0 tt_.toNat ((S_.2.2.2 122 0 tt_.toNat)))) rfl ?_
              refine sm_T_iast (n := 65537) rfl rfl (by omega) (by omega) ?_
              have hI30_ : gi (sm_aI (sm_aL S_ 122 0 tt_.toNat ((S_.2.2.2 122 0 tt_.toNat))) 123 0 tt_.toNat (i_or (S_.2.2.1 123 0 tt_.toNat) (i_shl v28_ (-(8 * k_) + 8 * f_ + 88)))) := gi_aI hI15_ (show (-2147483648) ≤ (i_or (S_.2.2.1 123 0 tt_.toNat) (i_shl v28_ (-(8 * k_) + 8 * f_ + 88))) ∧ (i_or (S_.2.2.1 123 0 tt_.toNat) (i_shl v28_ (-(8 * k_) + 8 * f_ + 88))) ≤ 2147483647 from ⟨by omega, by omega⟩)
              have hF31_ : ai_fr (sx_W vw_290) S0_ (sm_aI (sm_aL S_ 122 0 tt_.toNat ((S_.2.2.2 122 0 tt_.toNat))) 123 0 tt_.toNat (i_or (S_.2.2.1 123 0 tt_.toNat) (i_shl v28_ (-(8 * k_) + 8 * f_ + 88)))) := ai_fr_tr hF16_ (ai_fr_aI rfl)
              refine sm_T_inc (a := 3) (z := 1) (v := k_) (w := k_ + 1) rfl rfl (by omega) (by omega) (by omega) ?_
              refine sm_T_go 1 (c1 := (50, [some (.inr (.inr (some (13, 0)))), some (.inl f_), some (.inl tt_), some (.inl (k_ + 1)), some (.inl c_), some (.inl (k_ - f_)), none], [], sm_aI (sm_aL S_ 122 0 tt_.toNat ((S_.2.2.2 122 0 tt_.toNat))) 123 0 tt_.toNat (i_or (S_.2.2.1 123 0 tt_.toNat) (i_shl v28_ (-(8 * k_) + 8 * f_ + 88))))) rfl ?_
              refine sm_T_wk [some (.inr (.inr (some (13, 0)))), some (.inl f_), some (.inl tt_), some (.inl (k_ + 1)), some (.inl c_), none, none] (by exact ⟨rfl, rfl, rfl, rfl, rfl, trivial⟩) ?_
              refine ih_.1 tt_ (k_ + 1) c_ (sm_aI (sm_aL S_ 122 0 tt_.toNat ((S_.2.2.2 122 0 tt_.toNat))) 123 0 tt_.toNat (i_or (S_.2.2.1 123 0 tt_.toNat) (i_shl v28_ (-(8 * k_) + 8 * f_ + 88)))) hI30_ hF31_ ⟨?_, ?_, ?_, ?_, ?_, trivial⟩ ?_
              · exact h0_
              · refine ⟨i_ + 1, by omega, by omega, ?_, ?_⟩
                · rw [← h2_, lx_e_go (p := p_ + i_)]
                  rw [if_pos (by omega)]; rfl
                · intro j_ hj_; by_cases hq_ : j_ = i_
                  · rw [hq_]; omega
                  · exact h3_ j_ (by omega)
              · have e5_ : (k_ - p_).toNat = i_ := by omega
                rw [show (k_ + 1 - p_).toNat = i_ + 1 by omega]
                rw [e5_] at h4_
                (try simp only [rd_eq, rd_ne, rf_eq, rf_nk, rf_nt, rd_fa, rd_af, rd_fl, rd_al, rd_lf, rd_la, rd_leq, rd_lne, rd_fr, rd_ar, ne_eq, Nat.reduceEqDiff, not_false_eq_true])
                simp only [ett_, if_true, reduceIte]
                have hbv_ : ∀ v_ : Int, v_ = rb b_ n_ (p_ + i_) → v_ = b_ (p_ + i_) := by intro v_ hv_; rw [hv_]; unfold rb; rw [if_pos (by omega)]; omega
                refine ⟨?_, ?_⟩
                · unfold rk1; first | (rw [if_pos (by omega)]; exact congr (congrArg l_4 h4_.1) (congr (congrArg l_s0 (congrArg l_i2l (hbv_ _ (by assumption)))) (by omega))) | (rw [if_neg (by omega)]; exact h4_.1)
                · unfold rk2; first | (rw [if_pos (by omega)]; exact congr (congrArg i_or h4_.2) (congr (congrArg i_shl (hbv_ _ (by assumption))) (by omega))) | (rw [if_neg (by omega)]; exact h4_.2)
              · (try simp only [rd_eq, rd_ne, rf_eq, rf_nk, rf_nt, rd_fa, rd_af, rd_fl, rd_al, rd_lf, rd_la, rd_leq, rd_lne, rd_fr, rd_ar, ne_eq, Nat.reduceEqDiff, not_false_eq_true])
                exact h5_
              · intro j_ hj_
                have hu_ := h6_ j_ hj_
                (try simp only [rd_eq, rd_ne, rf_eq, rf_nk, rf_nt, rd_fa, rd_af, rd_fl, rd_al, rd_lf, rd_la, rd_leq, rd_lne, rd_fr, rd_ar, ne_eq, Nat.reduceEqDiff, not_false_eq_true])
                simp only [ett_, if_neg hj_]
                exact hu_
              · omega
        · have c14_ : ¬ (8 ≤ k_ - f_) := of_decide_eq_false c14_
          refine sm_T_go 3 (c1 := (94, [some (.inr (.inr (some (13, 0)))), some (.inl f_), some (.inl tt_), some (.inl k_), some (.inl c_), some (.inl (k_ - f_)), none], [.inl tt_, .inr (.inr (some (122, 0))), .inl tt_, .inr (.inr (some (122, 0)))], S_)) rfl ?_
          refine sm_T_lald (n := 65537) rfl rfl (by omega) (by omega) ?_
          refine sm_T_go 2 (c1 := (97, [some (.inr (.inr (some (13, 0)))), some (.inl f_), some (.inl tt_), some (.inl k_), some (.inl c_), some (.inl (k_ - f_)), none], [.inl k_, .inr (.inr (some (13, 0))), .inr (.inl (S_.2.2.2 122 0 tt_.toNat)), .inl tt_, .inr (.inr (some (122, 0)))], S_)) rfl ?_
          refine sm_T_cal (d1 := 0) (Q1 := vq_282 k_ b_ n_ S_) rfl rfl (by decide) (vc_282 k_ b_ n_ S_ hI_ (by exact hb1_) (by exact hn2_) (by exact hn1_) (by omega)) (fun u_ S32_ p35_ => ?_)
          obtain ⟨rfl, v37_, rfl, p35_⟩ := p35_
          have hc97_ := p35_
          rw [ek_] at hc97_
          refine sm_T_go 4 (c1 := (107, [some (.inr (.inr (some (13, 0)))), some (.inl f_), some (.inl tt_), some (.inl k_), some (.inl c_), some (.inl (k_ - f_)), none], [.inl (k_ - f_), .inl 8, .inl 56, .inr (.inl (l_i2l v37_)), .inr (.inl (S_.2.2.2 122 0 tt_.toNat)), .inl tt_, .inr (.inr (some (122, 0)))], S_)) rfl ?_
          refine sm_T_bin (w := 8 * k_ - 8 * f_) rfl (bi_mul (by omega) (by omega) (by omega)) ?_
          refine sm_T_bin (w := -(8 * k_) + 8 * f_ + 56) rfl (bi_sub (by omega) (by omega) (by omega)) ?_
          refine sm_T_go 3 (c1 := (120, [some (.inr (.inr (some (13, 0)))), some (.inl f_), some (.inl tt_), some (.inl k_), some (.inl c_), some (.inl (k_ - f_)), none], [.inr (.inl (l_4 ((S_.2.2.2 122 0 tt_.toNat)) ((l_s0 ((l_i2l v37_)) (-(8 * k_) + 8 * f_ + 56))))), .inl tt_, .inr (.inr (some (122, 0)))], S_)) rfl ?_
          refine sm_T_last (n := 65537) rfl rfl (by omega) (by omega) ?_
          have hI38_ : gi (sm_aL S_ 122 0 tt_.toNat ((l_4 ((S_.2.2.2 122 0 tt_.toNat)) ((l_s0 ((l_i2l v37_)) (-(8 * k_) + 8 * f_ + 56)))))) := gi_aL hI_
          have hF39_ : ai_fr (sx_W vw_290) S0_ (sm_aL S_ 122 0 tt_.toNat ((l_4 ((S_.2.2.2 122 0 tt_.toNat)) ((l_s0 ((l_i2l v37_)) (-(8 * k_) + 8 * f_ + 56)))))) := ai_fr_tr hF_ (ai_fr_aL rfl)
          refine sm_T_go 5 (c1 := (130, [some (.inr (.inr (some (13, 0)))), some (.inl f_), some (.inl tt_), some (.inl k_), some (.inl c_), some (.inl (k_ - f_)), none], [.inl 8, .inl (k_ - f_), .inl tt_, .inr (.inr (some (123, 0)))], sm_aL S_ 122 0 tt_.toNat ((l_4 ((S_.2.2.2 122 0 tt_.toNat)) ((l_s0 ((l_i2l v37_)) (-(8 * k_) + 8 * f_ + 56))))))) rfl ?_
          refine sm_T_br (a := 2) (z := 37) rfl (fun c40_ => ?_) (fun c40_ => ?_)
          · have c40_ : k_ - f_ < 8 := of_decide_eq_true c40_
            refine sm_T_go 3 (c1 := (172, [some (.inr (.inr (some (13, 0)))), some (.inl f_), some (.inl tt_), some (.inl k_), some (.inl c_), some (.inl (k_ - f_)), none], [.inl tt_, .inr (.inr (some (123, 0))), .inl tt_, .inr (.inr (some (123, 0)))], sm_aL S_ 122 0 tt_.toNat ((l_4 ((S_.2.2.2 122 0 tt_.toNat)) ((l_s0 ((l_i2l v37_)) (-(8 * k_) + 8 * f_ + 56))))))) rfl ?_
            refine sm_T_iald (n := 65537) rfl rfl (by omega) (by omega) ?_
            have b41_ : (-2147483648) ≤ S_.2.2.1 123 0 tt_.toNat ∧ S_.2.2.1 123 0 tt_.toNat ≤ 2147483647 := hI_.2 123 0 _
            refine sm_T_iast (n := 65537) rfl rfl (by omega) (by omega) ?_
            have hI42_ : gi (sm_aI (sm_aL S_ 122 0 tt_.toNat ((l_4 ((S_.2.2.2 122 0 tt_.toNat)) ((l_s0 ((l_i2l v37_)) (-(8 * k_) + 8 * f_ + 56)))))) 123 0 tt_.toNat (S_.2.2.1 123 0 tt_.toNat)) := gi_aI hI38_ (show (-2147483648) ≤ (S_.2.2.1 123 0 tt_.toNat) ∧ (S_.2.2.1 123 0 tt_.toNat) ≤ 2147483647 from ⟨by omega, by omega⟩)
            have hF43_ : ai_fr (sx_W vw_290) S0_ (sm_aI (sm_aL S_ 122 0 tt_.toNat ((l_4 ((S_.2.2.2 122 0 tt_.toNat)) ((l_s0 ((l_i2l v37_)) (-(8 * k_) + 8 * f_ + 56)))))) 123 0 tt_.toNat (S_.2.2.1 123 0 tt_.toNat)) := ai_fr_tr hF39_ (ai_fr_aI rfl)
            refine sm_T_inc (a := 3) (z := 1) (v := k_) (w := k_ + 1) rfl rfl (by omega) (by omega) (by omega) ?_
            refine sm_T_go 1 (c1 := (50, [some (.inr (.inr (some (13, 0)))), some (.inl f_), some (.inl tt_), some (.inl (k_ + 1)), some (.inl c_), some (.inl (k_ - f_)), none], [], sm_aI (sm_aL S_ 122 0 tt_.toNat ((l_4 ((S_.2.2.2 122 0 tt_.toNat)) ((l_s0 ((l_i2l v37_)) (-(8 * k_) + 8 * f_ + 56)))))) 123 0 tt_.toNat (S_.2.2.1 123 0 tt_.toNat))) rfl ?_
            refine sm_T_wk [some (.inr (.inr (some (13, 0)))), some (.inl f_), some (.inl tt_), some (.inl (k_ + 1)), some (.inl c_), none, none] (by exact ⟨rfl, rfl, rfl, rfl, rfl, trivial⟩) ?_
            refine ih_.1 tt_ (k_ + 1) c_ (sm_aI (sm_aL S_ 122 0 tt_.toNat ((l_4 ((S_.2.2.2 122 0 tt_.toNat)) ((l_s0 ((l_i2l v37_)) (-(8 * k_) + 8 * f_ + 56)))))) 123 0 tt_.toNat (S_.2.2.1 123 0 tt_.toNat)) hI42_ hF43_ ⟨?_, ?_, ?_, ?_, ?_, trivial⟩ ?_
            · exact h0_
            · refine ⟨i_ + 1, by omega, by omega, ?_, ?_⟩
              · rw [← h2_, lx_e_go (p := p_ + i_)]
                rw [if_pos (by omega)]; rfl
              · intro j_ hj_; by_cases hq_ : j_ = i_
                · rw [hq_]; omega
                · exact h3_ j_ (by omega)
            · have e5_ : (k_ - p_).toNat = i_ := by omega
              rw [show (k_ + 1 - p_).toNat = i_ + 1 by omega]
              rw [e5_] at h4_
              (try simp only [rd_eq, rd_ne, rf_eq, rf_nk, rf_nt, rd_fa, rd_af, rd_fl, rd_al, rd_lf, rd_la, rd_leq, rd_lne, rd_fr, rd_ar, ne_eq, Nat.reduceEqDiff, not_false_eq_true])
              simp only [ett_, if_true, reduceIte]
              have hbv_ : ∀ v_ : Int, v_ = rb b_ n_ (p_ + i_) → v_ = b_ (p_ + i_) := by intro v_ hv_; rw [hv_]; unfold rb; rw [if_pos (by omega)]; omega
              refine ⟨?_, ?_⟩
              · unfold rk1; first | (rw [if_pos (by omega)]; exact congr (congrArg l_4 h4_.1) (congr (congrArg l_s0 (congrArg l_i2l (hbv_ _ (by assumption)))) (by omega))) | (rw [if_neg (by omega)]; exact h4_.1)
              · unfold rk2; first | (rw [if_pos (by omega)]; exact congr (congrArg i_or h4_.2) (congr (congrArg i_shl (hbv_ _ (by assumption))) (by omega))) | (rw [if_neg (by omega)]; exact h4_.2)
            · (try simp only [rd_eq, rd_ne, rf_eq, rf_nk, rf_nt, rd_fa, rd_af, rd_fl, rd_al, rd_lf, rd_la, rd_leq, rd_lne, rd_fr, rd_ar, ne_eq, Nat.reduceEqDiff, not_false_eq_true])
              exact h5_
            · intro j_ hj_
              have hu_ := h6_ j_ hj_
              (try simp only [rd_eq, rd_ne, rf_eq, rf_nk, rf_nt, rd_fa, rd_af, rd_fl, rd_al, rd_lf, rd_la, rd_leq, rd_lne, rd_fr, rd_ar, ne_eq, Nat.reduceEqDiff, not_false_eq_true])
              simp only [ett_, if_neg hj_]
              exact hu_
            · omega
          · have c40_ : ¬ (k_ - f_ < 8) := of_decide_eq_false c40_
            exfalso; omega
      · have c13_ : ¬ (v12_ ≠ 0) := of_decide_eq_false c13_
        refine sm_T_go 2 (c1 := (63, [some (.inr (.inr (some (13, 0)))), some (.inl f_), some (.inl tt_), some (.inl k_), some (.inl c_), none, none], [.inl k_, .inr (.inr (some (13, 0)))], S_)) rfl ?_
        refine sm_T_cal (d1 := 0) (Q1 := vq_282 k_ b_ n_ S_) rfl rfl (by decide) (vc_282 k_ b_ n_ S_ hI_ (by exact hb1_) (by exact hn2_) (by exact hn1_) (by omega)) (fun u_ S44_ p47_ => ?_)
        obtain ⟨rfl, v49_, rfl, p47_⟩ := p47_
        have hc63_ := p47_
        rw [ek_] at hc63_
        refine sm_T_cal (d1 := 0) (Q1 := vq_284 v49_ S_) rfl rfl (by decide) (vc_284 v49_ S_ hI_ ) (fun u_ S50_ p53_ => ?_)
        obtain ⟨rfl, v55_, rfl, p53_⟩ := p53_
        have hg66_ := if01 p53_
        rw [hc63_, hbg_] at hg66_
        refine sm_T_b0 (a := 0) (z := 111) rfl (fun c56_ => ?_) (fun c56_ => ?_)
        · have c56_ : v55_ = 0 := of_decide_eq_true c56_
          refine sm_T_go 6 (c1 := (190, [some (.inr (.inr (some (13, 0)))), some (.inl f_), some (.inl tt_), some (.inl k_), some (.inl c_), none, none], [.inl tt_, .inr (.inr (some (123, 0))), .inl tt_, .inr (.inr (some (121, 0)))], S_)) rfl ?_
          refine sm_T_iald (n := 65537) rfl rfl (by omega) (by omega) ?_
          have b57_ : (-2147483648) ≤ S_.2.2.1 123 0 tt_.toNat ∧ S_.2.2.1 123 0 tt_.toNat ≤ 2147483647 := hI_.2 123 0 _
          refine sm_T_b0 (a := 1) (z := 15) rfl (fun c58_ => ?_) (fun c58_ => ?_)
          · have c58_ : (S_.2.2.1 123 0 tt_.toNat) ≠ 0 := of_decide_eq_true c58_
            refine sm_T_go 1 (c1 := (207, [some (.inr (.inr (some (13, 0)))), some (.inl f_), some (.inl tt_), some (.inl k_), some (.inl c_), none, none], [.inl 0, .inl tt_, .inr (.inr (some (121, 0)))], S_)) rfl ?_
            refine sm_T_iast (n := 65537) rfl rfl (by omega) (by omega) ?_
            have hI59_ : gi (sm_aI S_ 121 0 tt_.toNat 0) := gi_aI hI_ (show (-2147483648) ≤ 0 ∧ 0 ≤ 2147483647 from ⟨by omega, by omega⟩)
            have hF60_ : ai_fr (sx_W vw_290) S0_ (sm_aI S_ 121 0 tt_.toNat 0) := ai_fr_tr hF_ (ai_fr_aI rfl)
            refine sm_T_go 5 (c1 := (215, [some (.inr (.inr (some (13, 0)))), some (.inl f_), some (.inl tt_), some (.inl k_), some (.inl c_), none, none], [.inl f_, .inl k_, .inl tt_, .inr (.inr (some (119, 0)))], sm_aI S_ 121 0 tt_.toNat 0)) rfl ?_
            refine sm_T_bin (w := k_ - f_) rfl (bi_sub (by omega) (by omega) (by omega)) ?_
            refine sm_T_go 1 (c1 := (218, [some (.inr (.inr (some (13, 0)))), some (.inl f_), some (.inl tt_), some (.inl k_), some (.inl c_), none, none], [.inl 12, .inl (k_ - f_), .inl tt_, .inr (.inr (some (119, 0)))], sm_aI S_ 121 0 tt_.toNat 0)) rfl ?_
            refine sm_T_br (a := 5) (z := 7) rfl (fun c61_ => ?_) (fun c61_ => ?_)
            · have c61_ : k_ - f_ ≤ 12 := of_decide_eq_true c61_
              refine sm_T_go 3 (c1 := (230, [some (.inr (.inr (some (13, 0)))), some (.inl f_), some (.inl tt_), some (.inl k_), some (.inl c_), none, none], [.inl tt_, .inr (.inr (some (121, 0))), .inl tt_, .inr (.inr (some (119, 0)))], sm_aI S_ 121 0 tt_.toNat 0)) rfl ?_
              refine sm_T_iald (n := 65537) rfl rfl (by omega) (by omega) ?_
              have b62_ : (-2147483648) ≤ (sm_aI S_ 121 0 tt_.toNat 0).2.2.1 121 0 tt_.toNat ∧ (sm_aI S_ 121 0 tt_.toNat 0).2.2.1 121 0 tt_.toNat ≤ 2147483647 := hI59_.2 121 0 _
              refine sm_T_b0 (a := 5) (z := 8) rfl (fun c63_ => ?_) (fun c63_ => ?_)
              · have c63_ : ((sm_aI S_ 121 0 tt_.toNat 0).2.2.1 121 0 tt_.toNat) ≤ 0 := of_decide_eq_true c63_
                refine sm_T_go 2 (c1 := (241, [some (.inr (.inr (some (13, 0)))), some (.inl f_), some (.inl tt_), some (.inl k_), some (.inl c_), none, none], [.inl 1, .inl tt_, .inr (.inr (some (119, 0)))], sm_aI S_ 121 0 tt_.toNat 0)) rfl ?_
                refine sm_T_bas1 (n := 65537) rfl rfl (by omega) (by omega) (by decide) ?_
                have hI64_ : gi (sm_aI (sm_aI S_ 121 0 tt_.toNat 0) 119 0 tt_.toNat 1) := gi_aI hI59_ (show (-128) ≤ 1 ∧ 1 ≤ 127 from ⟨by omega, by omega⟩)
                have hF65_ : ai_fr (sx_W vw_290) S0_ (sm_aI (sm_aI S_ 121 0 tt_.toNat 0) 119 0 tt_.toNat 1) := ai_fr_tr hF60_ (ai_fr_aI rfl)
                refine sm_T_go 1 (c1 := (243, [some (.inr (.inr (some (13, 0)))), some (.inl f_), some (.inl tt_), some (.inl k_), some (.inl c_), none, none], [.inl k_], sm_aI (sm_aI S_ 121 0 tt_.toNat 0) 119 0 tt_.toNat 1)) rfl ?_
                refine sm_T_ri rfl ⟨_, _, rfl, _, rfl, hI64_, hF65_, ?_⟩
                have e4_ : lx_ne b_ n_ p_ = p_ + i_ := by rw [← h2_, lx_e_go]; exact if_neg (by omega)
                have hr_ := fun j_ hj_ => lx_x_b (h3_ j_ hj_)
                have e5_ : (k_ - p_).toNat = i_ := by omega
                rw [e5_] at h4_
                have hkd_ : lx_kd b_ n_ p_ = if i_ ≤ 12 then lx_wk (lx_pk b_ p_ i_) 7 else -1 := by unfold lx_kd; rw [if_neg (by omega), if_pos h0_.2, e4_, show p_ + i_ - p_ = i_ by omega]
                have hsz_ : lx_sz b_ n_ p_ = i_ := by unfold lx_sz; rw [if_neg (by omega), if_pos h0_.2, e4_]; omega
                have hen_ : lx_en b_ n_ p_ = p_ + i_ := by unfold lx_en; rw [if_neg (by omega), if_pos h0_.2, e4_]
                have hw7_ := lx_wk_7 (lx_pk b_ p_ i_)
                have wb := fun hi_ => w_both (b := b_) (p := p_) (L := i_) hi_ hr_
                (try simp only [rd_eq, rd_ne, rf_eq, rf_nk, rf_nt, rd_fa, rd_af, rd_fl, rd_al, rd_lf, rd_la, rd_leq, rd_lne, rd_fr, rd_ar, ne_eq, Nat.reduceEqDiff, not_false_eq_true] at *)
                simp only [ett_, if_true, reduceIte] at *
                first | (have hN_ := fun hi_ => ((if_neg (show ¬ rk2 b_ p_ i_ = 0 by omega)).symm.trans (wb hi_))) | (have hN_ := fun hi_ => ((if_pos (show rk2 b_ p_ i_ = 0 by omega)).symm.trans (wb hi_)); rw [← h4_.1, ← hwo_] at hN_)
                refine ⟨by omega, ⟨h5_.2, ?_, ?_, ?_⟩, ?_⟩
                · first | (rw [hkd_, if_neg (by omega)]; rfl) | (rw [hkd_, if_pos (by omega)]; exact tk_s1 hw7_ (hN_ (by omega)) (by omega)) | (rw [hkd_, if_pos (by omega)]; exact tk_s6 hw7_ (hN_ (by omega)) (by omega))
                · intro hx_; rw [hkd_] at hx_ ⊢; by_cases hi_ : i_ ≤ 12
                  · rw [if_pos hi_]; first | exact tk_n hw7_ (hN_ hi_) | (exfalso; omega)
                  · exact absurd (if_neg hi_) hx_
                · rw [hsz_]; intro _; exact h4_
                · intro j_ hj_; have hu_ := h6_ j_ hj_; simp only [if_neg hj_]; exact hu_
              · have c63_ : ¬ (((sm_aI S_ 121 0 tt_.toNat 0).2.2.1 121 0 tt_.toNat) ≤ 0) := of_decide_eq_false c63_
                refine sm_T_go 3 (c1 := (241, [some (.inr (.inr (some (13, 0)))), some (.inl f_), some (.inl tt_), some (.inl k_), some (.inl c_), none, none], [.inl 6, .inl tt_, .inr (.inr (some (119, 0)))], sm_aI S_ 121 0 tt_.toNat 0)) rfl ?_
                refine sm_T_bas1 (n := 65537) rfl rfl (by omega) (by omega) (by decide) ?_
                have hI66_ : gi (sm_aI (sm_aI S_ 121 0 tt_.toNat 0) 119 0 tt_.toNat 6) := gi_aI hI59_ (show (-128) ≤ 6 ∧ 6 ≤ 127 from ⟨by omega, by omega⟩)
                have hF67_ : ai_fr (sx_W vw_290) S0_ (sm_aI (sm_aI S_ 121 0 tt_.toNat 0) 119 0 tt_.toNat 6) := ai_fr_tr hF60_ (ai_fr_aI rfl)
                refine sm_T_go 1 (c1 := (243, [some (.inr (.inr (some (13, 0)))), some (.inl f_), some (.inl tt_), some (.inl k_), some (.inl c_), none, none], [.inl k_], sm_aI (sm_aI S_ 121 0 tt_.toNat 0) 119 0 tt_.toNat 6)) rfl ?_
                refine sm_T_ri rfl ⟨_, _, rfl, _, rfl, hI66_, hF67_, ?_⟩
                have e4_ : lx_ne b_ n_ p_ = p_ + i_ := by rw [← h2_, lx_e_go]; exact if_neg (by omega)
                have hr_ := fun j_ hj_ => lx_x_b (h3_ j_ hj_)
                have e5_ : (k_ - p_).toNat = i_ := by omega
                rw [e5_] at h4_
                have hkd_ : lx_kd b_ n_ p_ = if i_ ≤ 12 then lx_wk (lx_pk b_ p_ i_) 7 else -1 := by unfold lx_kd; rw [if_neg (by omega), if_pos h0_.2, e4_, show p_ + i_ - p_ = i_ by omega]
                have hsz_ : lx_sz b_ n_ p_ = i_ := by unfold lx_sz; rw [if_neg (by omega), if_pos h0_.2, e4_]; omega
                have hen_ : lx_en b_ n_ p_ = p_ + i_ := by unfold lx_en; rw [if_neg (by omega), if_pos h0_.2, e4_]
                have hw7_ := lx_wk_7 (lx_pk b_ p_ i_)
                have wb := fun hi_ => w_both (b := b_) (p := p_) (L := i_) hi_ hr_
                (try simp only [rd_eq, rd_ne, rf_eq, rf_nk, rf_nt, rd_fa, rd_af, rd_fl, rd_al, rd_lf, rd_la, rd_leq, rd_lne, rd_fr, rd_ar, ne_eq, Nat.reduceEqDiff, not_false_eq_true] at *)
                simp only [ett_, if_true, reduceIte] at *
                first | (have hN_ := fun hi_ => ((if_neg (show ¬ rk2 b_ p_ i_ = 0 by omega)).symm.trans (wb hi_))) | (have hN_ := fun hi_ => ((if_pos (show rk2 b_ p_ i_ = 0 by omega)).symm.trans (wb hi_)); rw [← h4_.1, ← hwo_] at hN_)
                refine ⟨by omega, ⟨h5_.2, ?_, ?_, ?_⟩, ?_⟩
                · first | (rw [hkd_, if_neg (by omega)]; rfl) | (rw [hkd_, if_pos (by omega)]; exact tk_s1 hw7_ (hN_ (by omega)) (by omega)) | (rw [hkd_, if_pos (by omega)]; exact tk_s6 hw7_ (hN_ (by omega)) (by omega))
                · intro hx_; rw [hkd_] at hx_ ⊢; by_cases hi_ : i_ ≤ 12
                  · rw [if_pos hi_]; first | exact tk_n hw7_ (hN_ hi_) | (exfalso; omega)
                  · exact absurd (if_neg hi_) hx_
                · rw [hsz_]; intro _; exact h4_
                · intro j_ hj_; have hu_ := h6_ j_ hj_; simp only [if_neg hj_]; exact hu_
            · have c61_ : ¬ (k_ - f_ ≤ 12) := of_decide_eq_false c61_
              refine sm_T_go 3 (c1 := (241, [some (.inr (.inr (some (13, 0)))), some (.inl f_), some (.inl tt_), some (.inl k_), some (.inl c_), none, none], [.inl 4, .inl tt_, .inr (.inr (some (119, 0)))], sm_aI S_ 121 0 tt_.toNat 0)) rfl ?_
              refine sm_T_bas1 (n := 65537) rfl rfl (by omega) (by omega) (by decide) ?_
              have hI68_ : gi (sm_aI (sm_aI S_ 121 0 tt_.toNat 0) 119 0 tt_.toNat 4) := gi_aI hI59_ (show (-128) ≤ 4 ∧ 4 ≤ 127 from ⟨by omega, by omega⟩)
              have hF69_ : ai_fr (sx_W vw_290) S0_ (sm_aI (sm_aI S_ 121 0 tt_.toNat 0) 119 0 tt_.toNat 4) := ai_fr_tr hF60_ (ai_fr_aI rfl)
              refine sm_T_go 1 (c1 := (243, [some (.inr (.inr (some (13, 0)))), some (.inl f_), some (.inl tt_), some (.inl k_), some (.inl c_), none, none], [.inl k_], sm_aI (sm_aI S_ 121 0 tt_.toNat 0) 119 0 tt_.toNat 4)) rfl ?_
              refine sm_T_ri rfl ⟨_, _, rfl, _, rfl, hI68_, hF69_, ?_⟩
              have e4_ : lx_ne b_ n_ p_ = p_ + i_ := by rw [← h2_, lx_e_go]; exact if_neg (by omega)
              have hr_ := fun j_ hj_ => lx_x_b (h3_ j_ hj_)
              have e5_ : (k_ - p_).toNat = i_ := by omega
              rw [e5_] at h4_
              have hkd_ : lx_kd b_ n_ p_ = if i_ ≤ 12 then lx_wk (lx_pk b_ p_ i_) 7 else -1 := by unfold lx_kd; rw [if_neg (by omega), if_pos h0_.2, e4_, show p_ + i_ - p_ = i_ by omega]
              have hsz_ : lx_sz b_ n_ p_ = i_ := by unfold lx_sz; rw [if_neg (by omega), if_pos h0_.2, e4_]; omega
              have hen_ : lx_en b_ n_ p_ = p_ + i_ := by unfold lx_en; rw [if_neg (by omega), if_pos h0_.2, e4_]
              have hw7_ := lx_wk_7 (lx_pk b_ p_ i_)
              have wb := fun hi_ => w_both (b := b_) (p := p_) (L := i_) hi_ hr_
              (try simp only [rd_eq, rd_ne, rf_eq, rf_nk, rf_nt, rd_fa, rd_af, rd_fl, rd_al, rd_lf, rd_la, rd_leq, rd_lne, rd_fr, rd_ar, ne_eq, Nat.reduceEqDiff, not_false_eq_true] at *)
              simp only [ett_, if_true, reduceIte] at *
              first | (have hN_ := fun hi_ => ((if_neg (show ¬ rk2 b_ p_ i_ = 0 by omega)).symm.trans (wb hi_))) | (have hN_ := fun hi_ => ((if_pos (show rk2 b_ p_ i_ = 0 by omega)).symm.trans (wb hi_)); rw [← h4_.1, ← hwo_] at hN_)
              refine ⟨by omega, ⟨h5_.2, ?_, ?_, ?_⟩, ?_⟩
              · first | (rw [hkd_, if_neg (by omega)]; rfl) | (rw [hkd_, if_pos (by omega)]; exact tk_s1 hw7_ (hN_ (by omega)) (by omega)) | (rw [hkd_, if_pos (by omega)]; exact tk_s6 hw7_ (hN_ (by omega)) (by omega))
              · intro hx_; rw [hkd_] at hx_ ⊢; by_cases hi_ : i_ ≤ 12
                · rw [if_pos hi_]; first | exact tk_n hw7_ (hN_ hi_) | (exfalso; omega)
                · exact absurd (if_neg hi_) hx_
              · rw [hsz_]; intro _; exact h4_
              · intro j_ hj_; have hu_ := h6_ j_ hj_; simp only [if_neg hj_]; exact hu_
          · have c58_ : ¬ ((S_.2.2.1 123 0 tt_.toNat) ≠ 0) := of_decide_eq_false c58_
            refine sm_T_go 3 (c1 := (199, [some (.inr (.inr (some (13, 0)))), some (.inl f_), some (.inl tt_), some (.inl k_), some (.inl c_), none, none], [.inl tt_, .inr (.inr (some (122, 0))), .inl tt_, .inr (.inr (some (121, 0)))], S_)) rfl ?_
            refine sm_T_lald (n := 65537) rfl rfl (by omega) (by omega) ?_
            refine sm_T_cal (d1 := 1) (Q1 := vq_288 ((S_.2.2.2 122 0 tt_.toNat)) S_) rfl rfl (by decide) (vc_288 ((S_.2.2.2 122 0 tt_.toNat)) S_ hI_ ) (fun u_ S70_ p73_ => ?_)
            obtain ⟨rfl, v75_, rfl, p73_⟩ := p73_
            have hwo_ := p73_
            have hwb_ := wo_b (S_.2.2.2 122 0 tt_.toNat)
            refine sm_T_go 1 (c1 := (207, [some (.inr (.inr (some (13, 0)))), some (.inl f_), some (.inl tt_), some (.inl k_), some (.inl c_), none, none], [.inl v75_, .inl tt_, .inr (.inr (some (121, 0)))], S_)) rfl ?_
            refine sm_T_iast (n := 65537) rfl rfl (by omega) (by omega) ?_
            have hI76_ : gi (sm_aI S_ 121 0 tt_.toNat v75_) := gi_aI hI_ (show (-2147483648) ≤ v75_ ∧ v75_ ≤ 2147483647 from ⟨by omega, by omega⟩)
            have hF77_ : ai_fr (sx_W vw_290) S0_ (sm_aI S_ 121 0 tt_.toNat v75_) := ai_fr_tr hF_ (ai_fr_aI rfl)
            refine sm_T_go 5 (c1 := (215, [some (.inr (.inr (some (13, 0)))), some (.inl f_), some (.inl tt_), some (.inl k_), some (.inl c_), none, none], [.inl f_, .inl k_, .inl tt_, .inr (.inr (some (119, 0)))], sm_aI S_ 121 0 tt_.toNat v75_)) rfl ?_
            refine sm_T_bin (w := k_ - f_) rfl (bi_sub (by omega) (by omega) (by omega)) ?_
            refine sm_T_go 1 (c1 := (218, [some (.inr (.inr (some (13, 0)))), some (.inl f_), some (.inl tt_), some (.inl k_), some (.inl c_), none, none], [.inl 12, .inl (k_ - f_), .inl tt_, .inr (.inr (some (119, 0)))], sm_aI S_ 121 0 tt_.toNat v75_)) rfl ?_
            refine sm_T_br (a := 5) (z := 7) rfl (fun c78_ => ?_) (fun c78_ => ?_)
            · have c78_ : k_ - f_ ≤ 12 := of_decide_eq_true c78_
              refine sm_T_go 3 (c1 := (230, [some (.inr (.inr (some (13, 0)))), some (.inl f_), some (.inl tt_), some (.inl k_), some (.inl c_), none, none], [.inl tt_, .inr (.inr (some (121, 0))), .inl tt_, .inr (.inr (some (119, 0)))], sm_aI S_ 121 0 tt_.toNat v75_)) rfl ?_
              refine sm_T_iald (n := 65537) rfl rfl (by omega) (by omega) ?_
              have b79_ : (-2147483648) ≤ (sm_aI S_ 121 0 tt_.toNat v75_).2.2.1 121 0 tt_.toNat ∧ (sm_aI S_ 121 0 tt_.toNat v75_).2.2.1 121 0 tt_.toNat ≤ 2147483647 := hI76_.2 121 0 _
              refine sm_T_b0 (a := 5) (z := 8) rfl (fun c80_ => ?_) (fun c80_ => ?_)
              · have c80_ : ((sm_aI S_ 121 0 tt_.toNat v75_).2.2.1 121 0 tt_.toNat) ≤ 0 := of_decide_eq_true c80_
                refine sm_T_go 2 (c1 := (241, [some (.inr (.inr (some (13, 0)))), some (.inl f_), some (.inl tt_), some (.inl k_), some (.inl c_), none, none], [.inl 1, .inl tt_, .inr (.inr (some (119, 0)))], sm_aI S_ 121 0 tt_.toNat v75_)) rfl ?_
                refine sm_T_bas1 (n := 65537) rfl rfl (by omega) (by omega) (by decide) ?_
                have hI81_ : gi (sm_aI (sm_aI S_ 121 0 tt_.toNat v75_) 119 0 tt_.toNat 1) := gi_aI hI76_ (show (-128) ≤ 1 ∧ 1 ≤ 127 from ⟨by omega, by omega⟩)
                have hF82_ : ai_fr (sx_W vw_290) S0_ (sm_aI (sm_aI S_ 121 0 tt_.toNat v75_) 119 0 tt_.toNat 1) := ai_fr_tr hF77_ (ai_fr_aI rfl)
                refine sm_T_go 1 (c1 := (243, [some (.inr (.inr (some (13, 0)))), some (.inl f_), some (.inl tt_), some (.inl k_), some (.inl c_), none, none], [.inl k_], sm_aI (sm_aI S_ 121 0 tt_.toNat v75_) 119 0 tt_.toNat 1)) rfl ?_
                refine sm_T_ri rfl ⟨_, _, rfl, _, rfl, hI81_, hF82_, ?_⟩
                have e4_ : lx_ne b_ n_ p_ = p_ + i_ := by rw [← h2_, lx_e_go]; exact if_neg (by omega)
                have hr_ := fun j_ hj_ => lx_x_b (h3_ j_ hj_)
                have e5_ : (k_ - p_).toNat = i_ := by omega
                rw [e5_] at h4_
                have hkd_ : lx_kd b_ n_ p_ = if i_ ≤ 12 then lx_wk (lx_pk b_ p_ i_) 7 else -1 := by unfold lx_kd; rw [if_neg (by omega), if_pos h0_.2, e4_, show p_ + i_ - p_ = i_ by omega]
                have hsz_ : lx_sz b_ n_ p_ = i_ := by unfold lx_sz; rw [if_neg (by omega), if_pos h0_.2, e4_]; omega
                have hen_ : lx_en b_ n_ p_ = p_ + i_ := by unfold lx_en; rw [if_neg (by omega), if_pos h0_.2, e4_]
                have hw7_ := lx_wk_7 (lx_pk b_ p_ i_)
                have wb := fun hi_ => w_both (b := b_) (p := p_) (L := i_) hi_ hr_
                (try simp only [rd_eq, rd_ne, rf_eq, rf_nk, rf_nt, rd_fa, rd_af, rd_fl, rd_al, rd_lf, rd_la, rd_leq, rd_lne, rd_fr, rd_ar, ne_eq, Nat.reduceEqDiff, not_false_eq_true] at *)
                simp only [ett_, if_true, reduceIte] at *
                first | (have hN_ := fun hi_ => ((if_neg (show ¬ rk2 b_ p_ i_ = 0 by omega)).symm.trans (wb hi_))) | (have hN_ := fun hi_ => ((if_pos (show rk2 b_ p_ i_ = 0 by omega)).symm.trans (wb hi_)); rw [← h4_.1, ← hwo_] at hN_)
                refine ⟨by omega, ⟨h5_.2, ?_, ?_, ?_⟩, ?_⟩
                · first | (rw [hkd_, if_neg (by omega)]; rfl) | (rw [hkd_, if_pos (by omega)]; exact tk_s1 hw7_ (hN_ (by omega)) (by omega)) | (rw [hkd_, if_pos (by omega)]; exact tk_s6 hw7_ (hN_ (by omega)) (by omega))
                · intro hx_; rw [hkd_] at hx_ ⊢; by_cases hi_ : i_ ≤ 12
                  · rw [if_pos hi_]; first | exact tk_n hw7_ (hN_ hi_) | (exfalso; omega)
                  · exact absurd (if_neg hi_) hx_
                · rw [hsz_]; intro _; exact h4_
                · intro j_ hj_; have hu_ := h6_ j_ hj_; simp only [if_neg hj_]; exact hu_
              · have c80_ : ¬ (((sm_aI S_ 121 0 tt_.toNat v75_).2.2.1 121 0 tt_.toNat) ≤ 0) := of_decide_eq_false c80_
                refine sm_T_go 3 (c1 := (241, [some (.inr (.inr (some (13, 0)))), some (.inl f_), some (.inl tt_), some (.inl k_), some (.inl c_), none, none], [.inl 6, .inl tt_, .inr (.inr (some (119, 0)))], sm_aI S_ 121 0 tt_.toNat v75_)) rfl ?_
                refine sm_T_bas1 (n := 65537) rfl rfl (by omega) (by omega) (by decide) ?_
                have hI83_ : gi (sm_aI (sm_aI S_ 121 0 tt_.toNat v75_) 119 0 tt_.toNat 6) := gi_aI hI76_ (show (-128) ≤ 6 ∧ 6 ≤ 127 from ⟨by omega, by omega⟩)
                have hF84_ : ai_fr (sx_W vw_290) S0_ (sm_aI (sm_aI S_ 121 0 tt_.toNat v75_) 119 0 tt_.toNat 6) := ai_fr_tr hF77_ (ai_fr_aI rfl)
                refine sm_T_go 1 (c1 := (243, [some (.inr (.inr (some (13, 0)))), some (.inl f_), some (.inl tt_), some (.inl k_), some (.inl c_), none, none], [.inl k_], sm_aI (sm_aI S_ 121 0 tt_.toNat v75_) 119 0 tt_.toNat 6)) rfl ?_
                refine sm_T_ri rfl ⟨_, _, rfl, _, rfl, hI83_, hF84_, ?_⟩
                have e4_ : lx_ne b_ n_ p_ = p_ + i_ := by rw [← h2_, lx_e_go]; exact if_neg (by omega)
                have hr_ := fun j_ hj_ => lx_x_b (h3_ j_ hj_)
                have e5_ : (k_ - p_).toNat = i_ := by omega
                rw [e5_] at h4_
                have hkd_ : lx_kd b_ n_ p_ = if i_ ≤ 12 then lx_wk (lx_pk b_ p_ i_) 7 else -1 := by unfold lx_kd; rw [if_neg (by omega), if_pos h0_.2, e4_, show p_ + i_ - p_ = i_ by omega]
                have hsz_ : lx_sz b_ n_ p_ = i_ := by unfold lx_sz; rw [if_neg (by omega), if_pos h0_.2, e4_]; omega
                have hen_ : lx_en b_ n_ p_ = p_ + i_ := by unfold lx_en; rw [if_neg (by omega), if_pos h0_.2, e4_]
                have hw7_ := lx_wk_7 (lx_pk b_ p_ i_)
                have wb := fun hi_ => w_both (b := b_) (p := p_) (L := i_) hi_ hr_
                (try simp only [rd_eq, rd_ne, rf_eq, rf_nk, rf_nt, rd_fa, rd_af, rd_fl, rd_al, rd_lf, rd_la, rd_leq, rd_lne, rd_fr, rd_ar, ne_eq, Nat.reduceEqDiff, not_false_eq_true] at *)
                simp only [ett_, if_true, reduceIte] at *
                first | (have hN_ := fun hi_ => ((if_neg (show ¬ rk2 b_ p_ i_ = 0 by omega)).symm.trans (wb hi_))) | (have hN_ := fun hi_ => ((if_pos (show rk2 b_ p_ i_ = 0 by omega)).symm.trans (wb hi_)); rw [← h4_.1, ← hwo_] at hN_)
                refine ⟨by omega, ⟨h5_.2, ?_, ?_, ?_⟩, ?_⟩
                · first | (rw [hkd_, if_neg (by omega)]; rfl) | (rw [hkd_, if_pos (by omega)]; exact tk_s1 hw7_ (hN_ (by omega)) (by omega)) | (rw [hkd_, if_pos (by omega)]; exact tk_s6 hw7_ (hN_ (by omega)) (by omega))
                · intro hx_; rw [hkd_] at hx_ ⊢; by_cases hi_ : i_ ≤ 12
                  · rw [if_pos hi_]; first | exact tk_n hw7_ (hN_ hi_) | (exfalso; omega)
                  · exact absurd (if_neg hi_) hx_
                · rw [hsz_]; intro _; exact h4_
                · intro j_ hj_; have hu_ := h6_ j_ hj_; simp only [if_neg hj_]; exact hu_
            · have c78_ : ¬ (k_ - f_ ≤ 12) := of_decide_eq_false c78_
              refine sm_T_go 3 (c1 := (241, [some (.inr (.inr (some (13, 0)))), some (.inl f_), some (.inl tt_), some (.inl k_), some (.inl c_), none, none], [.inl 4, .inl tt_, .inr (.inr (some (119, 0)))], sm_aI S_ 121 0 tt_.toNat v75_)) rfl ?_
              refine sm_T_bas1 (n := 65537) rfl rfl (by omega) (by omega) (by decide) ?_
              have hI85_ : gi (sm_aI (sm_aI S_ 121 0 tt_.toNat v75_) 119 0 tt_.toNat 4) := gi_aI hI76_ (show (-128) ≤ 4 ∧ 4 ≤ 127 from ⟨by omega, by omega⟩)
              have hF86_ : ai_fr (sx_W vw_290) S0_ (sm_aI (sm_aI S_ 121 0 tt_.toNat v75_) 119 0 tt_.toNat 4) := ai_fr_tr hF77_ (ai_fr_aI rfl)
              refine sm_T_go 1 (c1 := (243, [some (.inr (.inr (some (13, 0)))), some (.inl f_), some (.inl tt_), some (.inl k_), some (.inl c_), none, none], [.inl k_], sm_aI (sm_aI S_ 121 0 tt_.toNat v75_) 119 0 tt_.toNat 4)) rfl ?_
              refine sm_T_ri rfl ⟨_, _, rfl, _, rfl, hI85_, hF86_, ?_⟩
              have e4_ : lx_ne b_ n_ p_ = p_ + i_ := by rw [← h2_, lx_e_go]; exact if_neg (by omega)
              have hr_ := fun j_ hj_ => lx_x_b (h3_ j_ hj_)
              have e5_ : (k_ - p_).toNat = i_ := by omega
              rw [e5_] at h4_
              have hkd_ : lx_kd b_ n_ p_ = if i_ ≤ 12 then lx_wk (lx_pk b_ p_ i_) 7 else -1 := by unfold lx_kd; rw [if_neg (by omega), if_pos h0_.2, e4_, show p_ + i_ - p_ = i_ by omega]
              have hsz_ : lx_sz b_ n_ p_ = i_ := by unfold lx_sz; rw [if_neg (by omega), if_pos h0_.2, e4_]; omega
              have hen_ : lx_en b_ n_ p_ = p_ + i_ := by unfold lx_en; rw [if_neg (by omega), if_pos h0_.2, e4_]
              have hw7_ := lx_wk_7 (lx_pk b_ p_ i_)
              have wb := fun hi_ => w_both (b := b_) (p := p_) (L := i_) hi_ hr_
              (try simp only [rd_eq, rd_ne, rf_eq, rf_nk, rf_nt, rd_fa, rd_af, rd_fl, rd_al, rd_lf, rd_la, rd_leq, rd_lne, rd_fr, rd_ar, ne_eq, Nat.reduceEqDiff, not_false_eq_true] at *)
              simp only [ett_, if_true, reduceIte] at *
              first | (have hN_ := fun hi_ => ((if_neg (show ¬ rk2 b_ p_ i_ = 0 by omega)).symm.trans (wb hi_))) | (have hN_ := fun hi_ => ((if_pos (show rk2 b_ p_ i_ = 0 by omega)).symm.trans (wb hi_)); rw [← h4_.1, ← hwo_] at hN_)
              refine ⟨by omega, ⟨h5_.2, ?_, ?_, ?_⟩, ?_⟩
              · first | (rw [hkd_, if_neg (by omega)]; rfl) | (rw [hkd_, if_pos (by omega)]; exact tk_s1 hw7_ (hN_ (by omega)) (by omega)) | (rw [hkd_, if_pos (by omega)]; exact tk_s6 hw7_ (hN_ (by omega)) (by omega))
              · intro hx_; rw [hkd_] at hx_ ⊢; by_cases hi_ : i_ ≤ 12
                · rw [if_pos hi_]; first | exact tk_n hw7_ (hN_ hi_) | (exfalso; omega)
                · exact absurd (if_neg hi_) hx_
              · rw [hsz_]; intro _; exact h4_
              · intro j_ hj_; have hu_ := h6_ j_ hj_; simp only [if_neg hj_]; exact hu_
        · have c56_ : ¬ (v55_ = 0) := of_decide_eq_false c56_
          refine sm_T_go 2 (c1 := (74, [some (.inr (.inr (some (13, 0)))), some (.inl f_), some (.inl tt_), some (.inl k_), some (.inl c_), none, none], [.inl f_, .inl k_], S_)) rfl ?_
          refine sm_T_bin (w := k_ - f_) rfl (bi_sub (by omega) (by omega) (by omega)) ?_
          refine sm_T_go 6 (c1 := (86, [some (.inr (.inr (some (13, 0)))), some (.inl f_), some (.inl tt_), some (.inl k_), some (.inl c_), some (.inl (k_ - f_)), none], [.inl 8, .inl (k_ - f_), .inl tt_, .inr (.inr (some (122, 0)))], S_)) rfl ?_
          refine sm_T_br (a := 3) (z := 28) rfl (fun c87_ => ?_) (fun c87_ => ?_)
          · have c87_ : 8 ≤ k_ - f_ := of_decide_eq_true c87_
            refine sm_T_go 3 (c1 := (119, [some (.inr (.inr (some (13, 0)))), some (.inl f_), some (.inl tt_), some (.inl k_), some (.inl c_), some (.inl (k_ - f_)), none], [.inl tt_, .inr (.inr (some (122, 0))), .inl tt_, .inr (.inr (some (122, 0)))], S_)) rfl ?_
            refine sm_T_lald (n := 65537) rfl rfl (by omega) (by omega) ?_
            refine sm_T_last (n := 65537) rfl rfl (by omega) (by omega) ?_
            have hI88_ : gi (sm_aL S_ 122 0 tt_.toNat ((S_.2.2.2 122 0 tt_.toNat))) := gi_aL hI_
            have hF89_ : ai_fr (sx_W vw_290) S0_ (sm_aL S_ 122 0 tt_.toNat ((S_.2.2.2 122 0 tt_.toNat))) := ai_fr_tr hF_ (ai_fr_aL rfl)
            refine sm_T_go 5 (c1 := (130, [some (.inr (.inr (some (13, 0)))), some (.inl f_), some (.inl tt_), some (.inl k_), some (.inl c_), some (.inl (k_ - f_)), none], [.inl 8, .inl (k_ - f_), .inl tt_, .inr (.inr (some (123, 0)))], sm_aL S_ 122 0 tt_.toNat ((S_.2.2.2 122 0 tt_.toNat)))) rfl ?_
            refine sm_T_br (a := 2) (z := 37) rfl (fun c90_ => ?_) (fun c90_ => ?_)
            · have c90_ : k_ - f_ < 8 := of_decide_eq_true c90_
              exfalso; omega
            · have c90_ : ¬ (k_ - f_ < 8) := of_decide_eq_false c90_
              refine sm_T_go 2 (c1 := (137, [some (.inr (.inr (some (13, 0)))), some (.inl f_), some (.inl tt_), some (.inl k_), some (.inl c_), some (.inl (k_ - f_)), none], [.inl 12, .inl (k_ - f_), .inl tt_, .inr (.inr (some (123, 0)))], sm_aL S_ 122 0 tt_.toNat ((S_.2.2.2 122 0 tt_.toNat)))) rfl ?_
              refine sm_T_br (a := 3) (z := 30) rfl (fun c91_ => ?_) (fun c91_ => ?_)
              · have c91_ : 12 ≤ k_ - f_ := of_decide_eq_true c91_
                refine sm_T_go 3 (c1 := (172, [some (.inr (.inr (some (13, 0)))), some (.inl f_), some (.inl tt_), some (.inl k_), some (.inl c_), some (.inl (k_ - f_)), none], [.inl tt_, .inr (.inr (some (123, 0))), .inl tt_, .inr (.inr (some (123, 0)))], sm_aL S_ 122 0 tt_.toNat ((S_.2.2.2 122 0 tt_.toNat)))) rfl ?_
                refine sm_T_iald (n := 65537) rfl rfl (by omega) (by omega) ?_
                have b92_ : (-2147483648) ≤ S_.2.2.1 123 0 tt_.toNat ∧ S_.2.2.1 123 0 tt_.toNat ≤ 2147483647 := hI_.2 123 0 _
                refine sm_T_iast (n := 65537) rfl rfl (by omega) (by omega) ?_
                have hI93_ : gi (sm_aI (sm_aL S_ 122 0 tt_.toNat ((S_.2.2.2 122 0 tt_.toNat))) 123 0 tt_.toNat (S_.2.2.1 123 0 tt_.toNat)) := gi_aI hI88_ (show (-2147483648) ≤ (S_.2.2.1 123 0 tt_.toNat) ∧ (S_.2.2.1 123 0 tt_.toNat) ≤ 2147483647 from ⟨by omega, by omega⟩)
                have hF94_ : ai_fr (sx_W vw_290) S0_ (sm_aI (sm_aL S_ 122 0 tt_.toNat ((S_.2.2.2 122 0 tt_.toNat))) 123 0 tt_.toNat (S_.2.2.1 123 0 tt_.toNat)) := ai_fr_tr hF89_ (ai_fr_aI rfl)
                refine sm_T_inc (a := 3) (z := 1) (v := k_) (w := k_ + 1) rfl rfl (by omega) (by omega) (by omega) ?_
                refine sm_T_go 1 (c1 := (50, [some (.inr (.inr (some (13, 0)))), some (.inl f_), some (.inl tt_), some (.inl (k_ + 1)), some (.inl c_), some (.inl (k_ - f_)), none], [], sm_aI (sm_aL S_ 122 0 tt_.toNat ((S_.2.2.2 122 0 tt_.toNat))) 123 0 tt_.toNat (S_.2.2.1 123 0 tt_.toNat))) rfl ?_
                refine sm_T_wk [some (.inr (.inr (some (13, 0)))), some (.inl f_), some (.inl tt_), some (.inl (k_ + 1)), some (.inl c_), none, none] (by exact ⟨rfl, rfl, rfl, rfl, rfl, trivial⟩) ?_
                refine ih_.1 tt_ (k_ + 1) c_ (sm_aI (sm_aL S_ 122 0 tt_.toNat ((S_.2.2.2 122 0 tt_.toNat))) 123 0 tt_.toNat (S_.2.2.1 123 0 tt_.toNat)) hI93_ hF94_ ⟨?_, ?_, ?_, ?_, ?_, trivial⟩ ?_
                · exact h0_
                · refine ⟨i_ + 1, by omega, by omega, ?_, ?_⟩
                  · rw [← h2_, lx_e_go (p := p_ + i_)]
                    rw [if_pos (by omega)]; rfl
                  · intro j_ hj_; by_cases hq_ : j_ = i_
                    · rw [hq_]; omega
                    · exact h3_ j_ (by omega)
                · have e5_ : (k_ - p_).toNat = i_ := by omega
                  rw [show (k_ + 1 - p_).toNat = i_ + 1 by omega]
                  rw [e5_] at h4_
                  (try simp only [rd_eq, rd_ne, rf_eq, rf_nk, rf_nt, rd_fa, rd_af, rd_fl, rd_al, rd_lf, rd_la, rd_leq, rd_lne, rd_fr, rd_ar, ne_eq, Nat.reduceEqDiff, not_false_eq_true])
                  simp only [ett_, if_true, reduceIte]
                  have hbv_ : ∀ v_ : Int, v_ = rb b_ n_ (p_ + i_) → v_ = b_ (p_ + i_) := by intro v_ hv_; rw [hv_]; unfold rb; rw [if_pos (by omega)]; omega
                  refine ⟨?_, ?_⟩
                  · unfold rk1; first | (rw [if_pos (by omega)]; exact congr (congrArg l_4 h4_.1) (congr (congrArg l_s0 (congrArg l_i2l (hbv_ _ (by assumption)))) (by omega))) | (rw [if_neg (by omega)]; exact h4_.1)
                  · unfold rk2; first | (rw [if_pos (by omega)]; exact congr (congrArg i_or h4_.2) (congr (congrArg i_shl (hbv_ _ (by assumption))) (by omega))) | (rw [if_neg (by omega)]; exact h4_.2)
                · (try simp only [rd_eq, rd_ne, rf_eq, rf_nk, rf_nt, rd_fa, rd_af, rd_fl, rd_al, rd_lf, rd_la, rd_leq, rd_lne, rd_fr, rd_ar, ne_eq, Nat.reduceEqDiff, not_false_eq_true])
                  exact h5_
                · intro j_ hj_
                  have hu_ := h6_ j_ hj_
                  (try simp only [rd_eq, rd_ne, rf_eq, rf_nk, rf_nt, rd_fa, rd_af, rd_fl, rd_al, rd_lf, rd_la, rd_leq, rd_lne, rd_fr, rd_ar, ne_eq, Nat.reduceEqDiff, not_false_eq_true])
                  simp only [ett_, if_neg hj_]
                  exact hu_
                · omega
              · have c91_ : ¬ (12 ≤ k_ - f_) := of_decide_eq_false c91_
                refine sm_T_go 3 (c1 := (145, [some (.inr (.inr (some (13, 0)))), some (.inl f_), some (.inl tt_), some (.inl k_), some (.inl c_), some (.inl (k_ - f_)), none], [.inl tt_, .inr (.inr (some (123, 0))), .inl tt_, .inr (.inr (some (123, 0)))], sm_aL S_ 122 0 tt_.toNat ((S_.2.2.2 122 0 tt_.toNat)))) rfl ?_
                refine sm_T_iald (n := 65537) rfl rfl (by omega) (by omega) ?_
                have b95_ : (-2147483648) ≤ S_.2.2.1 123 0 tt_.toNat ∧ S_.2.2.1 123 0 tt_.toNat ≤ 2147483647 := hI_.2 123 0 _
                refine sm_T_go 2 (c1 := (148, [some (.inr (.inr (some (13, 0)))), some (.inl f_), some (.inl tt_), some (.inl k_), some (.inl c_), some (.inl (k_ - f_)), none], [.inl k_, .inr (.inr (some (13, 0))), .inl (S_.2.2.1 123 0 tt_.toNat), .inl tt_, .inr (.inr (some (123, 0)))], sm_aL S_ 122 0 tt_.toNat ((S_.2.2.2 122 0 tt_.toNat)))) rfl ?_
                refine sm_T_cal (d1 := 0) (Q1 := vq_282 k_ b_ n_ (sm_aL S_ 122 0 tt_.toNat ((S_.2.2.2 122 0 tt_.toNat)))) rfl rfl (by decide) (vc_282 k_ b_ n_ (sm_aL S_ 122 0 tt_.toNat ((S_.2.2.2 122 0 tt_.toNat))) hI88_ (by exact hb1_) (by exact hn2_) (by exact hn1_) (by omega)) (fun u_ S96_ p99_ => ?_)
                obtain ⟨rfl, v101_, rfl, p99_⟩ := p99_
                have hc148_ := p99_
                rw [ek_] at hc148_
                refine sm_T_go 4 (c1 := (159, [some (.inr (.inr (some (13, 0)))), some (.inl f_), some (.inl tt_), some (.inl k_), some (.inl c_), some (.inl (k_ - f_)), none], [.inl 8, .inl (k_ - f_), .inl 8, .inl 24, .inl v101_, .inl (S_.2.2.1 123 0 tt_.toNat), .inl tt_, .inr (.inr (some (123, 0)))], sm_aL S_ 122 0 tt_.toNat ((S_.2.2.2 122 0 tt_.toNat)))) rfl ?_
                refine sm_T_bin (w := k_ - f_ - 8) rfl (bi_sub (by omega) (by omega) (by omega)) ?_
                refine sm_T_bin (w := 8 * k_ - 8 * f_ - 64) rfl (bi_mul (by omega) (by omega) (by omega)) ?_
                refine sm_T_bin (w := -(8 * k_) + 8 * f_ + 88) rfl (bi_sub (by omega) (by omega) (by omega)) ?_
                refine sm_T_bin (w := (i_shl v101_ (-(8 * k_) + 8 * f_ + 88))) rfl rfl ?_
                refine sm_T_bin (w := (i_or (S_.2.2.1 123 0 tt_.toNat) (i_shl v101_ (-(8 * k_) + 8 * f_ + 88)))) rfl rfl ?_
                have b102_ := i_or_n (S_.2.2.1 123 0 tt_.toNat) (i_shl v101_ (-(8 * k_) + 8 * f_ + 88))
                refine sm_T_go 1 (c1 := (173, [some (.inr (.inr (some (13, 0)))), some (.inl f_), some (.inl tt_), some (.inl k_), some (.inl c_), some (.inl (k_ - f_)), none], [.inl (i_or (S_.2.2.1 123 0 tt_.toNat) (i_shl v101_ (-(8 * k_) + 8 * f_ + 88))), .inl tt_, .inr (.inr (some (123, 0)))], sm_aL S_ 122 0 tt_.toNat ((S_.2.2.2 122 0 tt_.toNat)))) rfl ?_
                refine sm_T_iast (n := 65537) rfl rfl (by omega) (by omega) ?_
                have hI103_ : gi (sm_aI (sm_aL S_ 122 0 tt_.toNat ((S_.2.2.2 122 0 tt_.toNat))) 123 0 tt_.toNat (i_or (S_.2.2.1 123 0 tt_.toNat) (i_shl v101_ (-(8 * k_) + 8 * f_ + 88)))) := gi_aI hI88_ (show (-2147483648) ≤ (i_or (S_.2.2.1 123 0 tt_.toNat) (i_shl v101_ (-(8 * k_) + 8 * f_ + 88))) ∧ (i_or (S_.2.2.1 123 0 tt_.toNat) (i_shl v101_ (-(8 * k_) + 8 * f_ + 88))) ≤ 2147483647 from ⟨by omega, by omega⟩)
                have hF104_ : ai_fr (sx_W vw_290) S0_ (sm_aI (sm_aL S_ 122 0 tt_.toNat ((S_.2.2.2 122 0 tt_.toNat))) 123 0 tt_.toNat (i_or (S_.2.2.1 123 0 tt_.toNat) (i_shl v101_ (-(8 * k_) + 8 * f_ + 88)))) := ai_fr_tr hF89_ (ai_fr_aI rfl)
                refine sm_T_inc (a := 3) (z := 1) (v := k_) (w := k_ + 1) rfl rfl (by omega) (by omega) (by omega) ?_
                refine sm_T_go 1 (c1 := (50, [some (.inr (.inr (some (13, 0)))), some (.inl f_), some (.inl tt_), some (.inl (k_ + 1)), some (.inl c_), some (.inl (k_ - f_)), none], [], sm_aI (sm_aL S_ 122 0 tt_.toNat ((S_.2.2.2 122 0 tt_.toNat))) 123 0 tt_.toNat (i_or (S_.2.2.1 123 0 tt_.toNat) (i_shl v101_ (-(8 * k_) + 8 * f_ + 88))))) rfl ?_
                refine sm_T_wk [some (.inr (.inr (some (13, 0)))), some (.inl f_), some (.inl tt_), some (.inl (k_ + 1)), some (.inl c_), none, none] (by exact ⟨rfl, rfl, rfl, rfl, rfl, trivial⟩) ?_
                refine ih_.1 tt_ (k_ + 1) c_ (sm_aI (sm_aL S_ 122 0 tt_.toNat ((S_.2.2.2 122 0 tt_.toNat))) 123 0 tt_.toNat (i_or (S_.2.2.1 123 0 tt_.toNat) (i_shl v101_ (-(8 * k_) + 8 * f_ + 88)))) hI103_ hF104_ ⟨?_, ?_, ?_, ?_, ?_, trivial⟩ ?_
                · exact h0_
                · refine ⟨i_ + 1, by omega, by omega, ?_, ?_⟩
                  · rw [← h2_, lx_e_go (p := p_ + i_)]
                    rw [if_pos (by omega)]; rfl
                  · intro j_ hj_; by_cases hq_ : j_ = i_
                    · rw [hq_]; omega
                    · exact h3_ j_ (by omega)
                · have e5_ : (k_ - p_).toNat = i_ := by omega
                  rw [show (k_ + 1 - p_).toNat = i_ + 1 by omega]
                  rw [e5_] at h4_
                  (try simp only [rd_eq, rd_ne, rf_eq, rf_nk, rf_nt, rd_fa, rd_af, rd_fl, rd_al, rd_lf, rd_la, rd_leq, rd_lne, rd_fr, rd_ar, ne_eq, Nat.reduceEqDiff, not_false_eq_true])
                  simp only [ett_, if_true, reduceIte]
                  have hbv_ : ∀ v_ : Int, v_ = rb b_ n_ (p_ + i_) → v_ = b_ (p_ + i_) := by intro v_ hv_; rw [hv_]; unfold rb; rw [if_pos (by omega)]; omega
                  refine ⟨?_, ?_⟩
                  · unfold rk1; first | (rw [if_pos (by omega)]; exact congr (congrArg l_4 h4_.1) (congr (congrArg l_s0 (congrArg l_i2l (hbv_ _ (by assumption)))) (by omega))) | (rw [if_neg (by omega)]; exact h4_.1)
                  · unfold rk2; first | (rw [if_pos (by omega)]; exact congr (congrArg i_or h4_.2) (congr (congrArg i_shl (hbv_ _ (by assumption))) (by omega))) | (rw [if_neg (by omega)]; exact h4_.2)
                · (try simp only [rd_eq, rd_ne, rf_eq, rf_nk, rf_nt, rd_fa, rd_af, rd_fl, rd_al, rd_lf, rd_la, rd_leq, rd_lne, rd_fr, rd_ar, ne_eq, Nat.reduceEqDiff, not_false_eq_true])
                  exact h5_
                · intro j_ hj_
                  have hu_ := h6_ j_ hj_
                  (try simp only [rd_eq, rd_ne, rf_eq, rf_nk, rf_nt, rd_fa, rd_af, rd_fl, rd_al, rd_lf, rd_la, rd_leq, rd_lne, rd_fr, rd_ar, ne_eq, Nat.reduceEqDiff, not_false_eq_true])
                  simp only [ett_, if_neg hj_]
                  exact hu_
                · omega
          · have c87_ : ¬ (8 ≤ k_ - f_) := of_decide_eq_false c87_
            refine sm_T_go 3 (c1 := (94, [some (.inr (.inr (some (13, 0)))), some (.inl f_), some (.inl tt_), some (.inl k_), some (.inl c_), some (.inl (k_ - f_)), none], [.inl tt_, .inr (.inr (some (122, 0))), .inl tt_, .inr (.inr (some (122, 0)))], S_)) rfl ?_
            refine sm_T_lald (n := 65537) rfl rfl (by omega) (by omega) ?_
            refine sm_T_go 2 (c1 := (97, [some (.inr (.inr (some (13, 0)))), some (.inl f_), some (.inl tt_), some (.inl k_), some (.inl c_), some (.inl (k_ - f_)), none], [.inl k_, .inr (.inr (some (13, 0))), .inr (.inl (S_.2.2.2 122 0 tt_.toNat)), .inl tt_, .inr (.inr (some (122, 0)))], S_)) rfl ?_
            refine sm_T_cal (d1 := 0) (Q1 := vq_282 k_ b_ n_ S_) rfl rfl (by decide) (vc_282 k_ b_ n_ S_ hI_ (by exact hb1_) (by exact hn2_) (by exact hn1_) (by omega)) (fun u_ S105_ p108_ => ?_)
            obtain ⟨rfl, v110_, rfl, p108_⟩ := p108_
            have hc97_ := p108_
            rw [ek_] at hc97_
            refine sm_T_go 4 (c1 := (107, [some (.inr (.inr (some (13, 0)))), some (.inl f_), some (.inl tt_), some (.inl k_), some (.inl c_), some (.inl (k_ - f_)), none], [.inl (k_ - f_), .inl 8, .inl 56, .inr (.inl (l_i2l v110_)), .inr (.inl (S_.2.2.2 122 0 tt_.toNat)), .inl tt_, .inr (.inr (some (122, 0)))], S_)) rfl ?_
            refine sm_T_bin (w := 8 * k_ - 8 * f_) rfl (bi_mul (by omega) (by omega) (by omega)) ?_
            refine sm_T_bin (w := -(8 * k_) + 8 * f_ + 56) rfl (bi_sub (by omega) (by omega) (by omega)) ?_
            refine sm_T_go 3 (c1 := (120, [some (.inr (.inr (some (13, 0)))), some (.inl f_), some (.inl tt_), some (.inl k_), some (.inl c_), some (.inl (k_ - f_)), none], [.inr (.inl (l_4 ((S_.2.2.2 122 0 tt_.toNat)) ((l_s0 ((l_i2l v110_)) (-(8 * k_) + 8 * f_ + 56))))), .inl tt_, .inr (.inr (some (122, 0)))], S_)) rfl ?_
            refine sm_T_last (n := 65537) rfl rfl (by omega) (by omega) ?_
            have hI111_ : gi (sm_aL S_ 122 0 tt_.toNat ((l_4 ((S_.2.2.2 122 0 tt_.toNat)) ((l_s0 ((l_i2l v110_)) (-(8 * k_) + 8 * f_ + 56)))))) := gi_aL hI_
            have hF112_ : ai_fr (sx_W vw_290) S0_ (sm_aL S_ 122 0 tt_.toNat ((l_4 ((S_.2.2.2 122 0 tt_.toNat)) ((l_s0 ((l_i2l v110_)) (-(8 * k_) + 8 * f_ + 56)))))) := ai_fr_tr hF_ (ai_fr_aL rfl)
            refine sm_T_go 5 (c1 := (130, [some (.inr (.inr (some (13, 0)))), some (.inl f_), some (.inl tt_), some (.inl k_), some (.inl c_), some (.inl (k_ - f_)), none], [.inl 8, .inl (k_ - f_), .inl tt_, .inr (.inr (some (123, 0)))], sm_aL S_ 122 0 tt_.toNat ((l_4 ((S_.2.2.2 122 0 tt_.toNat)) ((l_s0 ((l_i2l v110_)) (-(8 * k_) + 8 * f_ + 56))))))) rfl ?_
            refine sm_T_br (a := 2) (z := 37) rfl (fun c113_ => ?_) (fun c113_ => ?_)
            · have c113_ : k_ - f_ < 8 := of_decide_eq_true c113_
              refine sm_T_go 3 (c1 := (172, [some (.inr (.inr (some (13, 0)))), some (.inl f_), some (.inl tt_), some (.inl k_), some (.inl c_), some (.inl (k_ - f_)), none], [.inl tt_, .inr (.inr (some (123, 0))), .inl tt_, .inr (.inr (some (123, 0)))], sm_aL S_ 122 0 tt_.toNat ((l_4 ((S_.2.2.2 122 0 tt_.toNat)) ((l_s0 ((l_i2l v110_)) (-(8 * k_) + 8 * f_ + 56))))))) rfl ?_
              refine sm_T_iald (n := 65537) rfl rfl (by omega) (by omega) ?_
              have b114_ : (-2147483648) ≤ S_.2.2.1 123 0 tt_.toNat ∧ S_.2.2.1 123 0 tt_.toNat ≤ 2147483647 := hI_.2 123 0 _
              refine sm_T_iast (n := 65537) rfl rfl (by omega) (by omega) ?_
              have hI115_ : gi (sm_aI (sm_aL S_ 122 0 tt_.toNat ((l_4 ((S_.2.2.2 122 0 tt_.toNat)) ((l_s0 ((l_i2l v110_)) (-(8 * k_) + 8 * f_ + 56)))))) 123 0 tt_.toNat (S_.2.2.1 123 0 tt_.toNat)) := gi_aI hI111_ (show (-2147483648) ≤ (S_.2.2.1 123 0 tt_.toNat) ∧ (S_.2.2.1 123 0 tt_.toNat) ≤ 2147483647 from ⟨by omega, by omega⟩)
              have hF116_ : ai_fr (sx_W vw_290) S0_ (sm_aI (sm_aL S_ 122 0 tt_.toNat ((l_4 ((S_.2.2.2 122 0 tt_.toNat)) ((l_s0 ((l_i2l v110_)) (-(8 * k_) + 8 * f_ + 56)))))) 123 0 tt_.toNat (S_.2.2.1 123 0 tt_.toNat)) := ai_fr_tr hF112_ (ai_fr_aI rfl)
              refine sm_T_inc (a := 3) (z := 1) (v := k_) (w := k_ + 1) rfl rfl (by omega) (by omega) (by omega) ?_
              refine sm_T_go 1 (c1 := (50, [some (.inr (.inr (some (13, 0)))), some (.inl f_), some (.inl tt_), some (.inl (k_ + 1)), some (.inl c_), some (.inl (k_ - f_)), none], [], sm_aI (sm_aL S_ 122 0 tt_.toNat ((l_4 ((S_.2.2.2 122 0 tt_.toNat)) ((l_s0 ((l_i2l v110_)) (-(8 * k_) + 8 * f_ + 56)))))) 123 0 tt_.toNat (S_.2.2.1 123 0 tt_.toNat))) rfl ?_
              refine sm_T_wk [some (.inr (.inr (some (13, 0)))), some (.inl f_), some (.inl tt_), some (.inl (k_ + 1)), some (.inl c_), none, none] (by exact ⟨rfl, rfl, rfl, rfl, rfl, trivial⟩) ?_
              refine ih_.1 tt_ (k_ + 1) c_ (sm_aI (sm_aL S_ 122 0 tt_.toNat ((l_4 ((S_.2.2.2 122 0 tt_.toNat)) ((l_s0 ((l_i2l v110_)) (-(8 * k_) + 8 * f_ + 56)))))) 123 0 tt_.toNat (S_.2.2.1 123 0 tt_.toNat)) hI115_ hF116_ ⟨?_, ?_, ?_, ?_, ?_, trivial⟩ ?_
              · exact h0_
              · refine ⟨i_ + 1, by omega, by omega, ?_, ?_⟩
                · rw [← h2_, lx_e_go (p := p_ + i_)]
                  rw [if_pos (by omega)]; rfl
                · intro j_ hj_; by_cases hq_ : j_ = i_
                  · rw [hq_]; omega
                  · exact h3_ j_ (by omega)
              · have e5_ : (k_ - p_).toNat = i_ := by omega
                rw [show (k_ + 1 - p_).toNat = i_ + 1 by omega]
                rw [e5_] at h4_
                (try simp only [rd_eq, rd_ne, rf_eq, rf_nk, rf_nt, rd_fa, rd_af, rd_fl, rd_al, rd_lf, rd_la, rd_leq, rd_lne, rd_fr, rd_ar, ne_eq, Nat.reduceEqDiff, not_false_eq_true])
                simp only [ett_, if_true, reduceIte]
                have hbv_ : ∀ v_ : Int, v_ = rb b_ n_ (p_ + i_) → v_ = b_ (p_ + i_) := by intro v_ hv_; rw [hv_]; unfold rb; rw [if_pos (by omega)]; omega
                refine ⟨?_, ?_⟩
                · unfold rk1; first | (rw [if_pos (by omega)]; exact congr (congrArg l_4 h4_.1) (congr (congrArg l_s0 (congrArg l_i2l (hbv_ _ (by assumption)))) (by omega))) | (rw [if_neg (by omega)]; exact h4_.1)
                · unfold rk2; first | (rw [if_pos (by omega)]; exact congr (congrArg i_or h4_.2) (congr (congrArg i_shl (hbv_ _ (by assumption))) (by omega))) | (rw [if_neg (by omega)]; exact h4_.2)
              · (try simp only [rd_eq, rd_ne, rf_eq, rf_nk, rf_nt, rd_fa, rd_af, rd_fl, rd_al, rd_lf, rd_la, rd_leq, rd_lne, rd_fr, rd_ar, ne_eq, Nat.reduceEqDiff, not_false_eq_true])
                exact h5_
              · intro j_ hj_
                have hu_ := h6_ j_ hj_
                (try simp only [rd_eq, rd_ne, rf_eq, rf_nk, rf_nt, rd_fa, rd_af, rd_fl, rd_al, rd_lf, rd_la, rd_leq, rd_lne, rd_fr, rd_ar, ne_eq, Nat.reduceEqDiff, not_false_eq_true])
                simp only [ett_, if_neg hj_]
                exact hu_
              · omega
            · have c113_ : ¬ (k_ - f_ < 8) := of_decide_eq_false c113_
              exfalso; omega
    · rintro tt_ k_ c_ S_ hI_ hF_ ⟨h0_, h1_, h4_, h5_, h6_, -⟩ hm_
      have hb1_ : S_.2.2.1 118 0 = b_ := (fr_arr hF_ rfl).trans hb_
      have hn2_ : (S_.1 13 0 2) = (n_ : Int) := (hF_.1 13 0 2 rfl).trans hn_
      have hbb_ : ∀ k_, -128 ≤ b_ k_ ∧ b_ k_ ≤ 127 := fun k_ => by rw [← hb1_]; exact hI_.2 118 0 k_
      obtain ⟨i_, hk_, hin_, h2_, h3_⟩ := h1_
      have ek_ : k_.toNat = p_ + i_ := by omega
      have ett_ : tt_.toNat = t_ := by omega
      have hbi_ := hbb_ (p_ + i_)
      have hbl_ := rb_l (n := n_) hbi_
      have hbg_ := rb_g (n := n_) hbi_
      have ei_ : (k_ - p_).toNat = i_ := by omega
      have hv_ := lx_v_b (b := b_) (p := p_) (k := min i_ 6) (by omega) (fun j_ hj_ => h3_ j_ (by omega))
      have hv2_ : (10 : Int) ^ (min i_ 6) ≤ 10 ^ 6 := by exact_mod_cast Nat.pow_le_pow_right (by decide) (show min i_ 6 ≤ 6 by omega)
      have hv3_ : (10 : Int) ^ 6 = 1000000 := by decide
      refine sm_T_go 2 (c1 := (254, [some (.inr (.inr (some (13, 0)))), some (.inl f_), some (.inl tt_), some (.inl k_), some (.inl c_), none, none], [.inl k_, .inr (.inr (some (13, 0)))], S_)) rfl ?_
      refine sm_T_cal (d1 := 0) (Q1 := vq_282 k_ b_ n_ S_) rfl rfl (by decide) (vc_282 k_ b_ n_ S_ hI_ (by exact hb1_) (by exact hn2_) (by exact hn1_) (by omega)) (fun u_ S1_ p4_ => ?_)
      obtain ⟨rfl, v6_, rfl, p4_⟩ := p4_
      have hc254_ := p4_
      rw [ek_] at hc254_
      refine sm_T_cal (d1 := 0) (Q1 := vq_284 v6_ S_) rfl rfl (by decide) (vc_284 v6_ S_ hI_ ) (fun u_ S7_ p10_ => ?_)
      obtain ⟨rfl, v12_, rfl, p10_⟩ := p10_
      have hg257_ := if01 p10_
      rw [hc254_, hbg_] at hg257_
      refine sm_T_b0 (a := 0) (z := 50) rfl (fun c13_ => ?_) (fun c13_ => ?_)
      · have c13_ : v12_ = 0 := of_decide_eq_true c13_
        refine sm_T_go 5 (c1 := (317, [some (.inr (.inr (some (13, 0)))), some (.inl f_), some (.inl tt_), some (.inl k_), some (.inl c_), none, none], [.inl f_, .inl k_, .inl tt_, .inr (.inr (some (119, 0)))], S_)) rfl ?_
        refine sm_T_bin (w := k_ - f_) rfl (bi_sub (by omega) (by omega) (by omega)) ?_
        refine sm_T_go 1 (c1 := (320, [some (.inr (.inr (some (13, 0)))), some (.inl f_), some (.inl tt_), some (.inl k_), some (.inl c_), none, none], [.inl 6, .inl (k_ - f_), .inl tt_, .inr (.inr (some (119, 0)))], S_)) rfl ?_
        refine sm_T_br (a := 5) (z := 7) rfl (fun c14_ => ?_) (fun c14_ => ?_)
        · have c14_ : k_ - f_ ≤ 6 := of_decide_eq_true c14_
          refine sm_T_go 2 (c1 := (329, [some (.inr (.inr (some (13, 0)))), some (.inl f_), some (.inl tt_), some (.inl k_), some (.inl c_), none, none], [.inl 2, .inl tt_, .inr (.inr (some (119, 0)))], S_)) rfl ?_
          refine sm_T_bas1 (n := 65537) rfl rfl (by omega) (by omega) (by decide) ?_
          have hI15_ : gi (sm_aI S_ 119 0 tt_.toNat 2) := gi_aI hI_ (show (-128) ≤ 2 ∧ 2 ≤ 127 from ⟨by omega, by omega⟩)
          have hF16_ : ai_fr (sx_W vw_290) S0_ (sm_aI S_ 119 0 tt_.toNat 2) := ai_fr_tr hF_ (ai_fr_aI rfl)
          refine sm_T_go 1 (c1 := (331, [some (.inr (.inr (some (13, 0)))), some (.inl f_), some (.inl tt_), some (.inl k_), some (.inl c_), none, none], [.inl k_], sm_aI S_ 119 0 tt_.toNat 2)) rfl ?_
          refine sm_T_ri rfl ⟨_, _, rfl, _, rfl, hI15_, hF16_, ?_⟩
          have e4_ : lx_de b_ n_ p_ = p_ + i_ := by rw [← h2_, lx_f_go]; exact if_neg (by omega)
          have hkd_ : lx_kd b_ n_ p_ = if i_ ≤ 6 then 2 else -1 := by unfold lx_kd; rw [if_neg (by omega), if_neg h0_.2.1, if_pos h0_.2.2, e4_, show p_ + i_ - p_ = i_ by omega]
          have hen_ : lx_en b_ n_ p_ = p_ + i_ := by unfold lx_en; rw [if_neg (by omega), if_neg h0_.2.1, if_pos h0_.2.2, e4_]
          have hvl_ : lx_vl b_ n_ p_ = lx_v b_ p_ (min i_ 6) := by unfold lx_vl; rw [e4_, show p_ + i_ - p_ = i_ by omega]
          rw [ei_] at h4_
          (try simp only [rd_eq, rd_ne, rf_eq, rf_nk, rf_nt, rd_fa, rd_af, rd_fl, rd_al, rd_lf, rd_la, rd_leq, rd_lne, rd_fr, rd_ar, ne_eq, Nat.reduceEqDiff, not_false_eq_true] at *)
          simp only [ett_, if_true, reduceIte] at *
          refine ⟨by omega, ⟨h5_, ?_, ?_, ?_⟩, ?_⟩
          · rw [hkd_]; first | (rw [if_pos (by omega)]; rfl) | (rw [if_neg (by omega)]; rfl)
          · intro hx_; rw [hkd_] at hx_ ⊢; by_cases hi_ : i_ ≤ 6
            · rw [if_pos hi_, hvl_]; exact h4_
            · exact absurd (if_neg hi_) hx_
          · rw [hkd_]; intro h_; split at h_ <;> omega
          · intro j_ hj_; have hu_ := h6_ j_ hj_; simp only [if_neg hj_]; exact hu_
        · have c14_ : ¬ (k_ - f_ ≤ 6) := of_decide_eq_false c14_
          refine sm_T_go 3 (c1 := (329, [some (.inr (.inr (some (13, 0)))), some (.inl f_), some (.inl tt_), some (.inl k_), some (.inl c_), none, none], [.inl 4, .inl tt_, .inr (.inr (some (119, 0)))], S_)) rfl ?_
          refine sm_T_bas1 (n := 65537) rfl rfl (by omega) (by omega) (by decide) ?_
          have hI17_ : gi (sm_aI S_ 119 0 tt_.toNat 4) := gi_aI hI_ (show (-128) ≤ 4 ∧ 4 ≤ 127 from ⟨by omega, by omega⟩)
          have hF18_ : ai_fr (sx_W vw_290) S0_ (sm_aI S_ 119 0 tt_.toNat 4) := ai_fr_tr hF_ (ai_fr_aI rfl)
          refine sm_T_go 1 (c1 := (331, [some (.inr (.inr (some (13, 0)))), some (.inl f_), some (.inl tt_), some (.inl k_), some (.inl c_), none, none], [.inl k_], sm_aI S_ 119 0 tt_.toNat 4)) rfl ?_
          refine sm_T_ri rfl ⟨_, _, rfl, _, rfl, hI17_, hF18_, ?_⟩
          have e4_ : lx_de b_ n_ p_ = p_ + i_ := by rw [← h2_, lx_f_go]; exact if_neg (by omega)
          have hkd_ : lx_kd b_ n_ p_ = if i_ ≤ 6 then 2 else -1 := by unfold lx_kd; rw [if_neg (by omega), if_neg h0_.2.1, if_pos h0_.2.2, e4_, show p_ + i_ - p_ = i_ by omega]
          have hen_ : lx_en b_ n_ p_ = p_ + i_ := by unfold lx_en; rw [if_neg (by omega), if_neg h0_.2.1, if_pos h0_.2.2, e4_]
          have hvl_ : lx_vl b_ n_ p_ = lx_v b_ p_ (min i_ 6) := by unfold lx_vl; rw [e4_, show p_ + i_ - p_ = i_ by omega]
          rw [ei_] at h4_
          (try simp only [rd_eq, rd_ne, rf_eq, rf_nk, rf_nt, rd_fa, rd_af, rd_fl, rd_al, rd_lf, rd_la, rd_leq, rd_lne, rd_fr, rd_ar, ne_eq, Nat.reduceEqDiff, not_false_eq_true] at *)
          simp only [ett_, if_true, reduceIte] at *
          refine ⟨by omega, ⟨h5_, ?_, ?_, ?_⟩, ?_⟩
          · rw [hkd_]; first | (rw [if_pos (by omega)]; rfl) | (rw [if_neg (by omega)]; rfl)
          · intro hx_; rw [hkd_] at hx_ ⊢; by_cases hi_ : i_ ≤ 6
            · rw [if_pos hi_, hvl_]; exact h4_
            · exact absurd (if_neg hi_) hx_
          · rw [hkd_]; intro h_; split at h_ <;> omega
          · intro j_ hj_; have hu_ := h6_ j_ hj_; simp only [if_neg hj_]; exact hu_
      · have c13_ : ¬ (v12_ = 0) := of_decide_eq_false c13_
        refine sm_T_go 5 (c1 := (270, [some (.inr (.inr (some (13, 0)))), some (.inl f_), some (.inl tt_), some (.inl k_), some (.inl c_), none, none], [.inl f_, .inl k_, .inl tt_, .inr (.inr (some (121, 0)))], S_)) rfl ?_
        refine sm_T_bin (w := k_ - f_) rfl (bi_sub (by omega) (by omega) (by omega)) ?_
        refine sm_T_go 1 (c1 := (273, [some (.inr (.inr (some (13, 0)))), some (.inl f_), some (.inl tt_), some (.inl k_), some (.inl c_), none, none], [.inl 6, .inl (k_ - f_), .inl tt_, .inr (.inr (some (121, 0)))], S_)) rfl ?_
        refine sm_T_br (a := 3) (z := 24) rfl (fun c19_ => ?_) (fun c19_ => ?_)
        · have c19_ : 6 ≤ k_ - f_ := of_decide_eq_true c19_
          refine sm_T_go 3 (c1 := (302, [some (.inr (.inr (some (13, 0)))), some (.inl f_), some (.inl tt_), some (.inl k_), some (.inl c_), none, none], [.inl tt_, .inr (.inr (some (121, 0))), .inl tt_, .inr (.inr (some (121, 0)))], S_)) rfl ?_
          refine sm_T_iald (n := 65537) rfl rfl (by omega) (by omega) ?_
          have b20_ : (-2147483648) ≤ S_.2.2.1 121 0 tt_.toNat ∧ S_.2.2.1 121 0 tt_.toNat ≤ 2147483647 := hI_.2 121 0 _
          refine sm_T_iast (n := 65537) rfl rfl (by omega) (by omega) ?_
          have hI21_ : gi (sm_aI S_ 121 0 tt_.toNat (S_.2.2.1 121 0 tt_.toNat)) := gi_aI hI_ (show (-2147483648) ≤ (S_.2.2.1 121 0 tt_.toNat) ∧ (S_.2.2.1 121 0 tt_.toNat) ≤ 2147483647 from ⟨by omega, by omega⟩)
          have hF22_ : ai_fr (sx_W vw_290) S0_ (sm_aI S_ 121 0 tt_.toNat (S_.2.2.1 121 0 tt_.toNat)) := ai_fr_tr hF_ (ai_fr_aI rfl)
          refine sm_T_inc (a := 3) (z := 1) (v := k_) (w := k_ + 1) rfl rfl (by omega) (by omega) (by omega) ?_
          refine sm_T_go 1 (c1 := (252, [some (.inr (.inr (some (13, 0)))), some (.inl f_), some (.inl tt_), some (.inl (k_ + 1)), some (.inl c_), none, none], [], sm_aI S_ 121 0 tt_.toNat (S_.2.2.1 121 0 tt_.toNat))) rfl ?_
          refine ih_.2.1 tt_ (k_ + 1) c_ (sm_aI S_ 121 0 tt_.toNat (S_.2.2.1 121 0 tt_.toNat)) hI21_ hF22_ ⟨?_, ?_, ?_, ?_, ?_, trivial⟩ ?_
          · exact h0_
          · refine ⟨i_ + 1, by omega, by omega, ?_, ?_⟩
            · rw [← h2_, lx_f_go (p := p_ + i_)]
              rw [if_pos (by omega)]; rfl
            · intro j_ hj_; by_cases hq_ : j_ = i_
              · rw [hq_]; omega
              · exact h3_ j_ (by omega)
          · rw [show (k_ + 1 - p_).toNat = i_ + 1 by omega]
            try rw [ei_] at h4_
            (try simp only [rd_eq, rd_ne, rf_eq, rf_nk, rf_nt, rd_fa, rd_af, rd_fl, rd_al, rd_lf, rd_la, rd_leq, rd_lne, rd_fr, rd_ar, ne_eq, Nat.reduceEqDiff, not_false_eq_true])
            simp only [ett_, if_true, reduceIte]
            have hbv_ : ∀ v_ : Int, v_ = rb b_ n_ (p_ + i_) → v_ = b_ (p_ + i_) := by intro v_ hv_; rw [hv_]; unfold rb; rw [if_pos (by omega)]; omega
            first | (rw [show min (i_ + 1) 6 = min i_ 6 by omega]; exact h4_) | (rw [show min (i_ + 1) 6 = i_ + 1 by omega]; unfold lx_v; rw [← ett_, h44_]; omega)
          · (try simp only [rd_eq, rd_ne, rf_eq, rf_nk, rf_nt, rd_fa, rd_af, rd_fl, rd_al, rd_lf, rd_la, rd_leq, rd_lne, rd_fr, rd_ar, ne_eq, Nat.reduceEqDiff, not_false_eq_true])
            exact h5_
          · intro j_ hj_
            have hu_ := h6_ j_ hj_
            (try simp only [rd_eq, rd_ne, rf_eq, rf_nk, rf_nt, rd_fa, rd_af, rd_fl, rd_al, rd_lf, rd_la, rd_leq, rd_lne, rd_fr, rd_ar, ne_eq, Nat.reduceEqDiff, not_false_eq_true])
            simp only [ett_, if_neg hj_]
            exact hu_
          · omega
        · have c19_ : ¬ (6 ≤ k_ - f_) := of_decide_eq_false c19_
          rw [ei_] at h4_
          have hw6_ := lx_v_c (b := b_) (p := p_) (k := i_) (by omega) h3_ (by omega)
          have hm6_ : min i_ 6 = i_ := by omega
          have h44_ : S_.2.2.1 121 0 tt_.toNat = lx_v b_ p_ i_ := by rw [ett_, h4_, hm6_]
          have hcb_ : rb b_ n_ (p_ + i_) = b_ (p_ + i_) := by unfold rb; rw [if_pos (by omega)]; omega
          refine sm_T_go 4 (c1 := (283, [some (.inr (.inr (some (13, 0)))), some (.inl f_), some (.inl tt_), some (.inl k_), some (.inl c_), none, none], [.inl tt_, .inr (.inr (some (121, 0))), .inl 10, .inl tt_, .inr (.inr (some (121, 0)))], S_)) rfl ?_
          refine sm_T_iald (n := 65537) rfl rfl (by omega) (by omega) ?_
          have b23_ : (-2147483648) ≤ S_.2.2.1 121 0 tt_.toNat ∧ S_.2.2.1 121 0 tt_.toNat ≤ 2147483647 := hI_.2 121 0 _
          refine sm_T_bin (w := 10 * (S_.2.2.1 121 0 tt_.toNat)) rfl (bi_mul (by omega) (by omega) (by omega)) ?_
          refine sm_T_go 2 (c1 := (287, [some (.inr (.inr (some (13, 0)))), some (.inl f_), some (.inl tt_), some (.inl k_), some (.inl c_), none, none], [.inl k_, .inr (.inr (some (13, 0))), .inl (10 * (S_.2.2.1 121 0 tt_.toNat)), .inl tt_, .inr (.inr (some (121, 0)))], S_)) rfl ?_
          refine sm_T_cal (d1 := 0) (Q1 := vq_282 k_ b_ n_ S_) rfl rfl (by decide) (vc_282 k_ b_ n_ S_ hI_ (by exact hb1_) (by exact hn2_) (by exact hn1_) (by omega)) (fun u_ S24_ p27_ => ?_)
          obtain ⟨rfl, v29_, rfl, p27_⟩ := p27_
          have hc287_ := p27_
          rw [ek_] at hc287_
          refine sm_T_bin (w := 10 * (S_.2.2.1 121 0 tt_.toNat) + v29_) rfl (bi_add (by omega) (by omega) (by omega)) ?_
          refine sm_T_go 1 (c1 := (293, [some (.inr (.inr (some (13, 0)))), some (.inl f_), some (.inl tt_), some (.inl k_), some (.inl c_), none, none], [.inl 48, .inl (10 * (S_.2.2.1 121 0 tt_.toNat) + v29_), .inl tt_, .inr (.inr (some (121, 0)))], S_)) rfl ?_
          refine sm_T_bin (w := 10 * (S_.2.2.1 121 0 tt_.toNat) + v29_ - 48) rfl (bi_sub (by omega) (by omega) (by omega)) ?_
          refine sm_T_go 1 (c1 := (303, [some (.inr (.inr (some (13, 0)))), some (.inl f_), some (.inl tt_), some (.inl k_), some (.inl c_), none, none], [.inl (10 * (S_.2.2.1 121 0 tt_.toNat) + v29_ - 48), .inl tt_, .inr (.inr (some (121, 0)))], S_)) rfl ?_
          refine sm_T_iast (n := 65537) rfl rfl (by omega) (by omega) ?_
          have hI30_ : gi (sm_aI S_ 121 0 tt_.toNat (10 * (S_.2.2.1 121 0 tt_.toNat) + v29_ - 48)) := gi_aI hI_ (show (-2147483648) ≤ 10 * (S_.2.2.1 121 0 tt_.toNat) + v29_ - 48 ∧ 10 * (S_.2.2.1 121 0 tt_.toNat) + v29_ - 48 ≤ 2147483647 from ⟨by omega, by omega⟩)
          have hF31_ : ai_fr (sx_W vw_290) S0_ (sm_aI S_ 121 0 tt_.toNat (10 * (S_.2.2.1 121 0 tt_.toNat) + v29_ - 48)) := ai_fr_tr hF_ (ai_fr_aI rfl)
          refine sm_T_inc (a := 3) (z := 1) (v := k_) (w := k_ + 1) rfl rfl (by omega) (by omega) (by omega) ?_
          refine sm_T_go 1 (c1 := (252, [some (.inr (.inr (some (13, 0)))), some (.inl f_), some (.inl tt_), some (.inl (k_ + 1)), some (.inl c_), none, none], [], sm_aI S_ 121 0 tt_.toNat (10 * (S_.2.2.1 121 0 tt_.toNat) + v29_ - 48))) rfl ?_
          refine ih_.2.1 tt_ (k_ + 1) c_ (sm_aI S_ 121 0 tt_.toNat (10 * (S_.2.2.1 121 0 tt_.toNat) + v29_ - 48)) hI30_ hF31_ ⟨?_, ?_, ?_, ?_, ?_, trivial⟩ ?_
          · exact h0_
          · refine ⟨i_ + 1, by omega, by omega, ?_, ?_⟩
            · rw [← h2_, lx_f_go (p := p_ + i_)]
              rw [if_pos (by omega)]; rfl
            · intro j_ hj_; by_cases hq_ : j_ = i_
              · rw [hq_]; omega
              · exact h3_ j_ (by omega)
          · rw [show (k_ + 1 - p_).toNat = i_ + 1 by omega]
            try rw [ei_] at h4_
            (try simp only [rd_eq, rd_ne, rf_eq, rf_nk, rf_nt, rd_fa, rd_af, rd_fl, rd_al, rd_lf, rd_la, rd_leq, rd_lne, rd_fr, rd_ar, ne_eq, Nat.reduceEqDiff, not_false_eq_true])
            simp only [ett_, if_true, reduceIte]
            have hbv_ : ∀ v_ : Int, v_ = rb b_ n_ (p_ + i_) → v_ = b_ (p_ + i_) := by intro v_ hv_; rw [hv_]; unfold rb; rw [if_pos (by omega)]; omega
            first | (rw [show min (i_ + 1) 6 = min i_ 6 by omega]; exact h4_) | (rw [show min (i_ + 1) 6 = i_ + 1 by omega]; unfold lx_v; rw [← ett_, h44_]; omega)
          · (try simp only [rd_eq, rd_ne, rf_eq, rf_nk, rf_nt, rd_fa, rd_af, rd_fl, rd_al, rd_lf, rd_la, rd_leq, rd_lne, rd_fr, rd_ar, ne_eq, Nat.reduceEqDiff, not_false_eq_true])
            exact h5_
          · intro j_ hj_
            have hu_ := h6_ j_ hj_
            (try simp only [rd_eq, rd_ne, rf_eq, rf_nk, rf_nt, rd_fa, rd_af, rd_fl, rd_al, rd_lf, rd_la, rd_leq, rd_lne, rd_fr, rd_ar, ne_eq, Nat.reduceEqDiff, not_false_eq_true])
            simp only [ett_, if_neg hj_]
            exact hu_
          · omega
    · rintro tt_ k_ c_ S_ hI_ hF_ ⟨h0_, h1_, h5_, h6_, -⟩ hm_
      have hb1_ : S_.2.2.1 118 0 = b_ := (fr_arr hF_ rfl).trans hb_
      have hn2_ : (S_.1 13 0 2) = (n_ : Int) := (hF_.1 13 0 2 rfl).trans hn_
      have hbb_ : ∀ k_, -128 ≤ b_ k_ ∧ b_ k_ ≤ 127 := fun k_ => by rw [← hb1_]; exact hI_.2 118 0 k_
      obtain ⟨h01_, h02_, h03_⟩ := h0_
      have ett_ : tt_.toNat = t_ := by omega
      have hbi_ := hbb_ p_
      have hrp_ : c_ = b_ p_ % 256 := by rw [h03_]; unfold rb; rw [if_pos hpn_]
      refine sm_T_go 2 (c1 := (336, [some (.inr (.inr (some (13, 0)))), some (.inl f_), some (.inl tt_), some (.inl k_), some (.inl c_), none, none], [.inl 60, .inl c_], S_)) rfl ?_
      refine sm_T_br (a := 1) (z := 19) rfl (fun c1_ => ?_) (fun c1_ => ?_)
      · have c1_ : c_ ≠ 60 := of_decide_eq_true c1_
        refine sm_T_go 4 (c1 := (362, [some (.inr (.inr (some (13, 0)))), some (.inl f_), some (.inl tt_), some (.inl k_), some (.inl c_), some (.inl 0), none], [.inl 61, .inl c_], S_)) rfl ?_
        refine sm_T_br (a := 1) (z := 19) rfl (fun c2_ => ?_) (fun c2_ => ?_)
        · have c2_ : c_ ≠ 61 := of_decide_eq_true c2_
          refine sm_T_go 8 (c1 := (396, [some (.inr (.inr (some (13, 0)))), some (.inl f_), some (.inl tt_), some (.inl k_), some (.inl c_), some (.inl 0), some (.inl 0)], [.inl c_, .inl tt_, .inr (.inr (some (119, 0)))], S_)) rfl ?_
          refine sm_T_cal (d1 := 0) (Q1 := vq_289 c_ S_) rfl rfl (by decide) (vc_289 c_ S_ hI_ ) (fun u_ S3_ p6_ => ?_)
          obtain ⟨rfl, v8_, rfl, p6_⟩ := p6_
          have hs396_ : hide (_ ∨ _) := if01 p6_
          rw [h03_, rb_s hbi_] at hs396_
          clear p6_
          refine sm_T_b0 (a := 0) (z := 7) rfl (fun c9_ => ?_) (fun c9_ => ?_)
          · have c9_ : v8_ = 0 := of_decide_eq_true c9_
            refine sm_T_go 2 (c1 := (408, [some (.inr (.inr (some (13, 0)))), some (.inl f_), some (.inl tt_), some (.inl k_), some (.inl c_), some (.inl 0), some (.inl 0)], [.inl 4, .inl tt_, .inr (.inr (some (119, 0)))], S_)) rfl ?_
            refine sm_T_bas1 (n := 65537) rfl rfl (by omega) (by omega) (by decide) ?_
            have hI10_ : gi (sm_aI S_ 119 0 tt_.toNat 4) := gi_aI hI_ (show (-128) ≤ 4 ∧ 4 ≤ 127 from ⟨by omega, by omega⟩)
            have hF11_ : ai_fr (sx_W vw_290) S0_ (sm_aI S_ 119 0 tt_.toNat 4) := ai_fr_tr hF_ (ai_fr_aI rfl)
            refine sm_T_go 8 (c1 := (438, [some (.inr (.inr (some (13, 0)))), some (.inl f_), some (.inl tt_), some (.inl k_), some (.inl c_), some (.inl 0), some (.inl 0)], [.inl c_, .inl tt_, .inr (.inr (some (121, 0)))], sm_aI S_ 119 0 tt_.toNat 4)) rfl ?_
            refine sm_T_iast (n := 65537) rfl rfl (by omega) (by omega) ?_
            have hI12_ : gi (sm_aI (sm_aI S_ 119 0 tt_.toNat 4) 121 0 tt_.toNat c_) := gi_aI hI10_ (show (-2147483648) ≤ c_ ∧ c_ ≤ 2147483647 from ⟨by omega, by omega⟩)
            have hF13_ : ai_fr (sx_W vw_290) S0_ (sm_aI (sm_aI S_ 119 0 tt_.toNat 4) 121 0 tt_.toNat c_) := ai_fr_tr hF11_ (ai_fr_aI rfl)
            refine sm_T_go 6 (c1 := (455, [some (.inr (.inr (some (13, 0)))), some (.inl f_), some (.inl tt_), some (.inl k_), some (.inl c_), some (.inl 0), some (.inl 0)], [.inl 1, .inl k_], sm_aI (sm_aI S_ 119 0 tt_.toNat 4) 121 0 tt_.toNat c_)) rfl ?_
            refine sm_T_bin (w := k_ + 1) rfl (bi_add (by omega) (by omega) (by omega)) ?_
            refine sm_T_ri rfl ⟨_, _, rfl, _, rfl, hI12_, hF13_, ?_⟩
            have hkd_ : lx_kd b_ n_ p_ = if lx_sk b_ n_ p_ = 0 then -1 else lx_sk b_ n_ p_ := by unfold lx_kd; rw [if_neg (Nat.not_le.mpr hpn_), if_neg (show ¬ lx_l (b_ p_) from (hide_o h1_).1), if_neg (show ¬ lx_g (b_ p_) from (hide_o h1_).2)]
            have hen_ : lx_en b_ n_ p_ = lx_sn b_ n_ p_ := by unfold lx_en; rw [if_neg (Nat.not_le.mpr hpn_), if_neg (show ¬ lx_l (b_ p_) from (hide_o h1_).1), if_neg (show ¬ lx_g (b_ p_) from (hide_o h1_).2)]
            first | (have hsn_ : lx_sn b_ n_ p_ = p_ + 2 := if_pos ⟨by omega, by omega, by omega⟩) | (have hsn_ : lx_sn b_ n_ p_ = p_ + 2 := by unfold lx_sn; rw [if_neg (by omega), if_pos ⟨by omega, by omega, by omega⟩]) | (have hsn_ : lx_sn b_ n_ p_ = p_ + 1 := by unfold lx_sn; rw [if_neg (by omega), if_neg (by omega)])
            first | (have hsk_ : lx_sk b_ n_ p_ = 256 := if_pos ⟨by omega, by omega, by omega⟩) | (have hsk_ : lx_sk b_ n_ p_ = 257 := by unfold lx_sk; rw [if_neg (by omega), if_pos ⟨by omega, by omega, by omega⟩]) | (have hsk_ : lx_sk b_ n_ p_ = b_ p_ ∧ 33 ≤ b_ p_ := by unfold lx_sk; rw [if_neg (by omega), if_neg (by omega)]; rcases hide_o hs396_ with hs_ | hs_; (refine ⟨if_pos hs_.2.2, ?_⟩; rcases hs_.2.2 with q_ | q_ | q_ | q_ | q_ | q_ | q_ | q_ | q_ | q_ | q_ | q_ | q_ | q_ | q_ | q_ <;> (rw [q_]; decide)); (exfalso; have hs1_ := hs_.1; clear hs_; omega)) | (have hsk_ : lx_sk b_ n_ p_ = 0 := by unfold lx_sk; rw [if_neg (by omega), if_neg (by omega)]; rcases hide_o hs396_ with hs_ | hs_; (exfalso; have hs1_ := hs_.1; clear hs_; omega); (exact if_neg (fun hh_ => hs_.2 ⟨hpn_, hh_⟩)))
            (try simp only [rd_eq, rd_ne, rf_eq, rf_nk, rf_nt, rd_fa, rd_af, rd_fl, rd_al, rd_lf, rd_la, rd_leq, rd_lne, rd_fr, rd_ar, ne_eq, Nat.reduceEqDiff, not_false_eq_true] at *)
            simp only [ett_, if_true, reduceIte] at *
            refine ⟨?_, ⟨h5_, ?_, ?_, ?_⟩, ?_⟩
            · rw [hen_, hsn_]; push_cast; omega
            · rw [hkd_]; first | (rw [if_neg (by omega)]; exact (tk_g (show 33 ≤ lx_sk b_ n_ p_ by omega)).1) | (rw [if_pos (by omega)]; rfl) | (exfalso; rcases hide_o hs396_ with hs_ | hs_; (have hs1_ := hs_.1; clear hs_; omega); (refine hs_.2 ⟨hpn_, ?_⟩; have hb61_ : b_ p_ = 61 := (by clear hs_; omega); rw [hb61_]; decide))
            · intro hx_; rw [hkd_] at hx_ ⊢; by_cases hz_ : lx_sk b_ n_ p_ = 0
              · exact absurd (if_pos hz_) hx_
              · rw [if_neg hz_, ← (tk_g (show 33 ≤ lx_sk b_ n_ p_ by omega)).2 (lx_vl b_ n_ p_)]; omega
            · rw [hkd_]; intro h_; split at h_ <;> omega
            · intro j_ hj_; have hu_ := h6_ j_ hj_; simp only [if_neg hj_]; exact hu_
          · have c9_ : ¬ (v8_ = 0) := of_decide_eq_false c9_
            refine sm_T_go 3 (c1 := (408, [some (.inr (.inr (some (13, 0)))), some (.inl f_), some (.inl tt_), some (.inl k_), some (.inl c_), some (.inl 0), some (.inl 0)], [.inl 3, .inl tt_, .inr (.inr (some (119, 0)))], S_)) rfl ?_
            refine sm_T_bas1 (n := 65537) rfl rfl (by omega) (by omega) (by decide) ?_
            have hI14_ : gi (sm_aI S_ 119 0 tt_.toNat 3) := gi_aI hI_ (show (-128) ≤ 3 ∧ 3 ≤ 127 from ⟨by omega, by omega⟩)
            have hF15_ : ai_fr (sx_W vw_290) S0_ (sm_aI S_ 119 0 tt_.toNat 3) := ai_fr_tr hF_ (ai_fr_aI rfl)
            refine sm_T_go 8 (c1 := (438, [some (.inr (.inr (some (13, 0)))), some (.inl f_), some (.inl tt_), some (.inl k_), some (.inl c_), some (.inl 0), some (.inl 0)], [.inl c_, .inl tt_, .inr (.inr (some (121, 0)))], sm_aI S_ 119 0 tt_.toNat 3)) rfl ?_
            refine sm_T_iast (n := 65537) rfl rfl (by omega) (by omega) ?_
            have hI16_ : gi (sm_aI (sm_aI S_ 119 0 tt_.toNat 3) 121 0 tt_.toNat c_) := gi_aI hI14_ (show (-2147483648) ≤ c_ ∧ c_ ≤ 2147483647 from ⟨by omega, by omega⟩)
            have hF17_ : ai_fr (sx_W vw_290) S0_ (sm_aI (sm_aI S_ 119 0 tt_.toNat 3) 121 0 tt_.toNat c_) := ai_fr_tr hF15_ (ai_fr_aI rfl)
            refine sm_T_go 6 (c1 := (455, [some (.inr (.inr (some (13, 0)))), some (.inl f_), some (.inl tt_), some (.inl k_), some (.inl c_), some (.inl 0), some (.inl 0)], [.inl 1, .inl k_], sm_aI (sm_aI S_ 119 0 tt_.toNat 3) 121 0 tt_.toNat c_)) rfl ?_
            refine sm_T_bin (w := k_ + 1) rfl (bi_add (by omega) (by omega) (by omega)) ?_
            refine sm_T_ri rfl ⟨_, _, rfl, _, rfl, hI16_, hF17_, ?_⟩
            have hkd_ : lx_kd b_ n_ p_ = if lx_sk b_ n_ p_ = 0 then -1 else lx_sk b_ n_ p_ := by unfold lx_kd; rw [if_neg (Nat.not_le.mpr hpn_), if_neg (show ¬ lx_l (b_ p_) from (hide_o h1_).1), if_neg (show ¬ lx_g (b_ p_) from (hide_o h1_).2)]
            have hen_ : lx_en b_ n_ p_ = lx_sn b_ n_ p_ := by unfold lx_en; rw [if_neg (Nat.not_le.mpr hpn_), if_neg (show ¬ lx_l (b_ p_) from (hide_o h1_).1), if_neg (show ¬ lx_g (b_ p_) from (hide_o h1_).2)]
            first | (have hsn_ : lx_sn b_ n_ p_ = p_ + 2 := if_pos ⟨by omega, by omega, by omega⟩) | (have hsn_ : lx_sn b_ n_ p_ = p_ + 2 := by unfold lx_sn; rw [if_neg (by omega), if_pos ⟨by omega, by omega, by omega⟩]) | (have hsn_ : lx_sn b_ n_ p_ = p_ + 1 := by unfold lx_sn; rw [if_neg (by omega), if_neg (by omega)])
            first | (have hsk_ : lx_sk b_ n_ p_ = 256 := if_pos ⟨by omega, by omega, by omega⟩) | (have hsk_ : lx_sk b_ n_ p_ = 257 := by unfold lx_sk; rw [if_neg (by omega), if_pos ⟨by omega, by omega, by omega⟩]) | (have hsk_ : lx_sk b_ n_ p_ = b_ p_ ∧ 33 ≤ b_ p_ := by unfold lx_sk; rw [if_neg (by omega), if_neg (by omega)]; rcases hide_o hs396_ with hs_ | hs_; (refine ⟨if_pos hs_.2.2, ?_⟩; rcases hs_.2.2 with q_ | q_ | q_ | q_ | q_ | q_ | q_ | q_ | q_ | q_ | q_ | q_ | q_ | q_ | q_ | q_ <;> (rw [q_]; decide)); (exfalso; have hs1_ := hs_.1; clear hs_; omega)) | (have hsk_ : lx_sk b_ n_ p_ = 0 := by unfold lx_sk; rw [if_neg (by omega), if_neg (by omega)]; rcases hide_o hs396_ with hs_ | hs_; (exfalso; have hs1_ := hs_.1; clear hs_; omega); (exact if_neg (fun hh_ => hs_.2 ⟨hpn_, hh_⟩)))
            (try simp only [rd_eq, rd_ne, rf_eq, rf_nk, rf_nt, rd_fa, rd_af, rd_fl, rd_al, rd_lf, rd_la, rd_leq, rd_lne, rd_fr, rd_ar, ne_eq, Nat.reduceEqDiff, not_false_eq_true] at *)
            simp only [ett_, if_true, reduceIte] at *
            refine ⟨?_, ⟨h5_, ?_, ?_, ?_⟩, ?_⟩
            · rw [hen_, hsn_]; push_cast; omega
            · rw [hkd_]; first | (rw [if_neg (by omega)]; exact (tk_g (show 33 ≤ lx_sk b_ n_ p_ by omega)).1) | (rw [if_pos (by omega)]; rfl) | (exfalso; rcases hide_o hs396_ with hs_ | hs_; (have hs1_ := hs_.1; clear hs_; omega); (refine hs_.2 ⟨hpn_, ?_⟩; have hb61_ : b_ p_ = 61 := (by clear hs_; omega); rw [hb61_]; decide))
            · intro hx_; rw [hkd_] at hx_ ⊢; by_cases hz_ : lx_sk b_ n_ p_ = 0
              · exact absurd (if_pos hz_) hx_
              · rw [if_neg hz_, ← (tk_g (show 33 ≤ lx_sk b_ n_ p_ by omega)).2 (lx_vl b_ n_ p_)]; omega
            · rw [hkd_]; intro h_; split at h_ <;> omega
            · intro j_ hj_; have hu_ := h6_ j_ hj_; simp only [if_neg hj_]; exact hu_
        · have c2_ : ¬ (c_ ≠ 61) := of_decide_eq_false c2_
          refine sm_T_go 3 (c1 := (368, [some (.inr (.inr (some (13, 0)))), some (.inl f_), some (.inl tt_), some (.inl k_), some (.inl c_), some (.inl 0), none], [.inl 1, .inl k_, .inr (.inr (some (13, 0)))], S_)) rfl ?_
          refine sm_T_bin (w := k_ + 1) rfl (bi_add (by omega) (by omega) (by omega)) ?_
          refine sm_T_cal (d1 := 0) (Q1 := vq_282 (k_ + 1) b_ n_ S_) rfl rfl (by decide) (vc_282 (k_ + 1) b_ n_ S_ hI_ (by exact hb1_) (by exact hn2_) (by exact hn1_) (by omega)) (fun u_ S18_ p21_ => ?_)
          obtain ⟨rfl, v23_, rfl, p21_⟩ := p21_
          have hd369_ : (v23_ = 61 ↔ p_ + 1 < n_ ∧ b_ (p_ + 1) = 61) := by rw [p21_, show (k_ + 1).toNat = p_ + 1 by omega]; exact rb_c (hbb_ (p_ + 1)) (by decide)
          clear p21_
          refine sm_T_go 1 (c1 := (374, [some (.inr (.inr (some (13, 0)))), some (.inl f_), some (.inl tt_), some (.inl k_), some (.inl c_), some (.inl 0), none], [.inl 61, .inl v23_], S_)) rfl ?_
          refine sm_T_br (a := 1) (z := 7) rfl (fun c24_ => ?_) (fun c24_ => ?_)
          · have c24_ : v23_ ≠ 61 := of_decide_eq_true c24_
            refine sm_T_go 8 (c1 := (396, [some (.inr (.inr (some (13, 0)))), some (.inl f_), some (.inl tt_), some (.inl k_), some (.inl c_), some (.inl 0), some (.inl 0)], [.inl c_, .inl tt_, .inr (.inr (some (119, 0)))], S_)) rfl ?_
            refine sm_T_cal (d1 := 0) (Q1 := vq_289 c_ S_) rfl rfl (by decide) (vc_289 c_ S_ hI_ ) (fun u_ S25_ p28_ => ?_)
            obtain ⟨rfl, v30_, rfl, p28_⟩ := p28_
            have hs396_ : hide (_ ∨ _) := if01 p28_
            rw [h03_, rb_s hbi_] at hs396_
            clear p28_
            refine sm_T_b0 (a := 0) (z := 7) rfl (fun c31_ => ?_) (fun c31_ => ?_)
            · have c31_ : v30_ = 0 := of_decide_eq_true c31_
              refine sm_T_go 2 (c1 := (408, [some (.inr (.inr (some (13, 0)))), some (.inl f_), some (.inl tt_), some (.inl k_), some (.inl c_), some (.inl 0), some (.inl 0)], [.inl 4, .inl tt_, .inr (.inr (some (119, 0)))], S_)) rfl ?_
              refine sm_T_bas1 (n := 65537) rfl rfl (by omega) (by omega) (by decide) ?_
              have hI32_ : gi (sm_aI S_ 119 0 tt_.toNat 4) := gi_aI hI_ (show (-128) ≤ 4 ∧ 4 ≤ 127 from ⟨by omega, by omega⟩)
              have hF33_ : ai_fr (sx_W vw_290) S0_ (sm_aI S_ 119 0 tt_.toNat 4) := ai_fr_tr hF_ (ai_fr_aI rfl)
              refine sm_T_go 8 (c1 := (438, [some (.inr (.inr (some (13, 0)))), some (.inl f_), some (.inl tt_), some (.inl k_), some (.inl c_), some (.inl 0), some (.inl 0)], [.inl c_, .inl tt_, .inr (.inr (some (121, 0)))], sm_aI S_ 119 0 tt_.toNat 4)) rfl ?_
              refine sm_T_iast (n := 65537) rfl rfl (by omega) (by omega) ?_
              have hI34_ : gi (sm_aI (sm_aI S_ 119 0 tt_.toNat 4) 121 0 tt_.toNat c_) := gi_aI hI32_ (show (-2147483648) ≤ c_ ∧ c_ ≤ 2147483647 from ⟨by omega, by omega⟩)
              have hF35_ : ai_fr (sx_W vw_290) S0_ (sm_aI (sm_aI S_ 119 0 tt_.toNat 4) 121 0 tt_.toNat c_) := ai_fr_tr hF33_ (ai_fr_aI rfl)
              refine sm_T_go 6 (c1 := (455, [some (.inr (.inr (some (13, 0)))), some (.inl f_), some (.inl tt_), some (.inl k_), some (.inl c_), some (.inl 0), some (.inl 0)], [.inl 1, .inl k_], sm_aI (sm_aI S_ 119 0 tt_.toNat 4) 121 0 tt_.toNat c_)) rfl ?_
              refine sm_T_bin (w := k_ + 1) rfl (bi_add (by omega) (by omega) (by omega)) ?_
              refine sm_T_ri rfl ⟨_, _, rfl, _, rfl, hI34_, hF35_, ?_⟩
              have hkd_ : lx_kd b_ n_ p_ = if lx_sk b_ n_ p_ = 0 then -1 else lx_sk b_ n_ p_ := by unfold lx_kd; rw [if_neg (Nat.not_le.mpr hpn_), if_neg (show ¬ lx_l (b_ p_) from (hide_o h1_).1), if_neg (show ¬ lx_g (b_ p_) from (hide_o h1_).2)]
              have hen_ : lx_en b_ n_ p_ = lx_sn b_ n_ p_ := by unfold lx_en; rw [if_neg (Nat.not_le.mpr hpn_), if_neg (show ¬ lx_l (b_ p_) from (hide_o h1_).1), if_neg (show ¬ lx_g (b_ p_) from (hide_o h1_).2)]
              first | (have hsn_ : lx_sn b_ n_ p_ = p_ + 2 := if_pos ⟨by omega, by omega, by omega⟩) | (have hsn_ : lx_sn b_ n_ p_ = p_ + 2 := by unfold lx_sn; rw [if_neg (by omega), if_pos ⟨by omega, by omega, by omega⟩]) | (have hsn_ : lx_sn b_ n_ p_ = p_ + 1 := by unfold lx_sn; rw [if_neg (by omega), if_neg (by omega)])
              first | (have hsk_ : lx_sk b_ n_ p_ = 256 := if_pos ⟨by omega, by omega, by omega⟩) | (have hsk_ : lx_sk b_ n_ p_ = 257 := by unfold lx_sk; rw [if_neg (by omega), if_pos ⟨by omega, by omega, by omega⟩]) | (have hsk_ : lx_sk b_ n_ p_ = b_ p_ ∧ 33 ≤ b_ p_ := by unfold lx_sk; rw [if_neg (by omega), if_neg (by omega)]; rcases hide_o hs396_ with hs_ | hs_; (refine ⟨if_pos hs_.2.2, ?_⟩; rcases hs_.2.2 with q_ | q_ | q_ | q_ | q_ | q_ | q_ | q_ | q_ | q_ | q_ | q_ | q_ | q_ | q_ | q_ <;> (rw [q_]; decide)); (exfalso; have hs1_ := hs_.1; clear hs_; omega)) | (have hsk_ : lx_sk b_ n_ p_ = 0 := by unfold lx_sk; rw [if_neg (by omega), if_neg (by omega)]; rcases hide_o hs396_ with hs_ | hs_; (exfalso; have hs1_ := hs_.1; clear hs_; omega); (exact if_neg (fun hh_ => hs_.2 ⟨hpn_, hh_⟩)))
              (try simp only [rd_eq, rd_ne, rf_eq, rf_nk, rf_nt, rd_fa, rd_af, rd_fl, rd_al, rd_lf, rd_la, rd_leq, rd_lne, rd_fr, rd_ar, ne_eq, Nat.reduceEqDiff, not_false_eq_true] at *)
              simp only [ett_, if_true, reduceIte] at *
              refine ⟨?_, ⟨h5_, ?_, ?_, ?_⟩, ?_⟩
              · rw [hen_, hsn_]; push_cast; omega
              · rw [hkd_]; first | (rw [if_neg (by omega)]; exact (tk_g (show 33 ≤ lx_sk b_ n_ p_ by omega)).1) | (rw [if_pos (by omega)]; rfl) | (exfalso; rcases hide_o hs396_ with hs_ | hs_; (have hs1_ := hs_.1; clear hs_; omega); (refine hs_.2 ⟨hpn_, ?_⟩; have hb61_ : b_ p_ = 61 := (by clear hs_; omega); rw [hb61_]; decide))
              · intro hx_; rw [hkd_] at hx_ ⊢; by_cases hz_ : lx_sk b_ n_ p_ = 0
                · exact absurd (if_pos hz_) hx_
                · rw [if_neg hz_, ← (tk_g (show 33 ≤ lx_sk b_ n_ p_ by omega)).2 (lx_vl b_ n_ p_)]; omega
              · rw [hkd_]; intro h_; split at h_ <;> omega
              · intro j_ hj_; have hu_ := h6_ j_ hj_; simp only [if_neg hj_]; exact hu_
            · have c31_ : ¬ (v30_ = 0) := of_decide_eq_false c31_
              refine sm_T_go 3 (c1 := (408, [some (.inr (.inr (some (13, 0)))), some (.inl f_), some (.inl tt_), some (.inl k_), some (.inl c_), some (.inl 0), some (.inl 0)], [.inl 3, .inl tt_, .inr (.inr (some (119, 0)))], S_)) rfl ?_
              refine sm_T_bas1 (n := 65537) rfl rfl (by omega) (by omega) (by decide) ?_
              have hI36_ : gi (sm_aI S_ 119 0 tt_.toNat 3) := gi_aI hI_ (show (-128) ≤ 3 ∧ 3 ≤ 127 from ⟨by omega, by omega⟩)
              have hF37_ : ai_fr (sx_W vw_290) S0_ (sm_aI S_ 119 0 tt_.toNat 3) := ai_fr_tr hF_ (ai_fr_aI rfl)
              refine sm_T_go 8 (c1 := (438, [some (.inr (.inr (some (13, 0)))), some (.inl f_), some (.inl tt_), some (.inl k_), some (.inl c_), some (.inl 0), some (.inl 0)], [.inl c_, .inl tt_, .inr (.inr (some (121, 0)))], sm_aI S_ 119 0 tt_.toNat 3)) rfl ?_
              refine sm_T_iast (n := 65537) rfl rfl (by omega) (by omega) ?_
              have hI38_ : gi (sm_aI (sm_aI S_ 119 0 tt_.toNat 3) 121 0 tt_.toNat c_) := gi_aI hI36_ (show (-2147483648) ≤ c_ ∧ c_ ≤ 2147483647 from ⟨by omega, by omega⟩)
              have hF39_ : ai_fr (sx_W vw_290) S0_ (sm_aI (sm_aI S_ 119 0 tt_.toNat 3) 121 0 tt_.toNat c_) := ai_fr_tr hF37_ (ai_fr_aI rfl)
              refine sm_T_go 6 (c1 := (455, [some (.inr (.inr (some (13, 0)))), some (.inl f_), some (.inl tt_), some (.inl k_), some (.inl c_), some (.inl 0), some (.inl 0)], [.inl 1, .inl k_], sm_aI (sm_aI S_ 119 0 tt_.toNat 3) 121 0 tt_.toNat c_)) rfl ?_
              refine sm_T_bin (w := k_ + 1) rfl (bi_add (by omega) (by omega) (by omega)) ?_
              refine sm_T_ri rfl ⟨_, _, rfl, _, rfl, hI38_, hF39_, ?_⟩
              have hkd_ : lx_kd b_ n_ p_ = if lx_sk b_ n_ p_ = 0 then -1 else lx_sk b_ n_ p_ := by unfold lx_kd; rw [if_neg (Nat.not_le.mpr hpn_), if_neg (show ¬ lx_l (b_ p_) from (hide_o h1_).1), if_neg (show ¬ lx_g (b_ p_) from (hide_o h1_).2)]
              have hen_ : lx_en b_ n_ p_ = lx_sn b_ n_ p_ := by unfold lx_en; rw [if_neg (Nat.not_le.mpr hpn_), if_neg (show ¬ lx_l (b_ p_) from (hide_o h1_).1), if_neg (show ¬ lx_g (b_ p_) from (hide_o h1_).2)]
              first | (have hsn_ : lx_sn b_ n_ p_ = p_ + 2 := if_pos ⟨by omega, by omega, by omega⟩) | (have hsn_ : lx_sn b_ n_ p_ = p_ + 2 := by unfold lx_sn; rw [if_neg (by omega), if_pos ⟨by omega, by omega, by omega⟩]) | (have hsn_ : lx_sn b_ n_ p_ = p_ + 1 := by unfold lx_sn; rw [if_neg (by omega), if_neg (by omega)])
              first | (have hsk_ : lx_sk b_ n_ p_ = 256 := if_pos ⟨by omega, by omega, by omega⟩) | (have hsk_ : lx_sk b_ n_ p_ = 257 := by unfold lx_sk; rw [if_neg (by omega), if_pos ⟨by omega, by omega, by omega⟩]) | (have hsk_ : lx_sk b_ n_ p_ = b_ p_ ∧ 33 ≤ b_ p_ := by unfold lx_sk; rw [if_neg (by omega), if_neg (by omega)]; rcases hide_o hs396_ with hs_ | hs_; (refine ⟨if_pos hs_.2.2, ?_⟩; rcases hs_.2.2 with q_ | q_ | q_ | q_ | q_ | q_ | q_ | q_ | q_ | q_ | q_ | q_ | q_ | q_ | q_ | q_ <;> (rw [q_]; decide)); (exfalso; have hs1_ := hs_.1; clear hs_; omega)) | (have hsk_ : lx_sk b_ n_ p_ = 0 := by unfold lx_sk; rw [if_neg (by omega), if_neg (by omega)]; rcases hide_o hs396_ with hs_ | hs_; (exfalso; have hs1_ := hs_.1; clear hs_; omega); (exact if_neg (fun hh_ => hs_.2 ⟨hpn_, hh_⟩)))
              (try simp only [rd_eq, rd_ne, rf_eq, rf_nk, rf_nt, rd_fa, rd_af, rd_fl, rd_al, rd_lf, rd_la, rd_leq, rd_lne, rd_fr, rd_ar, ne_eq, Nat.reduceEqDiff, not_false_eq_true] at *)
              simp only [ett_, if_true, reduceIte] at *
              refine ⟨?_, ⟨h5_, ?_, ?_, ?_⟩, ?_⟩
              · rw [hen_, hsn_]; push_cast; omega
              · rw [hkd_]; first | (rw [if_neg (by omega)]; exact (tk_g (show 33 ≤ lx_sk b_ n_ p_ by omega)).1) | (rw [if_pos (by omega)]; rfl) | (exfalso; rcases hide_o hs396_ with hs_ | hs_; (have hs1_ := hs_.1; clear hs_; omega); (refine hs_.2 ⟨hpn_, ?_⟩; have hb61_ : b_ p_ = 61 := (by clear hs_; omega); rw [hb61_]; decide))
              · intro hx_; rw [hkd_] at hx_ ⊢; by_cases hz_ : lx_sk b_ n_ p_ = 0
                · exact absurd (if_pos hz_) hx_
                · rw [if_neg hz_, ← (tk_g (show 33 ≤ lx_sk b_ n_ p_ by omega)).2 (lx_vl b_ n_ p_)]; omega
              · rw [hkd_]; intro h_; split at h_ <;> omega
              · intro j_ hj_; have hu_ := h6_ j_ hj_; simp only [if_neg hj_]; exact hu_
          · have c24_ : ¬ (v23_ ≠ 61) := of_decide_eq_false c24_
            refine sm_T_go 9 (c1 := (396, [some (.inr (.inr (some (13, 0)))), some (.inl f_), some (.inl tt_), some (.inl k_), some (.inl c_), some (.inl 0), some (.inl 1)], [.inl c_, .inl tt_, .inr (.inr (some (119, 0)))], S_)) rfl ?_
            refine sm_T_cal (d1 := 0) (Q1 := vq_289 c_ S_) rfl rfl (by decide) (vc_289 c_ S_ hI_ ) (fun u_ S40_ p43_ => ?_)
            obtain ⟨rfl, v45_, rfl, p43_⟩ := p43_
            have hs396_ : hide (_ ∨ _) := if01 p43_
            rw [h03_, rb_s hbi_] at hs396_
            clear p43_
            refine sm_T_b0 (a := 0) (z := 7) rfl (fun c46_ => ?_) (fun c46_ => ?_)
            · have c46_ : v45_ = 0 := of_decide_eq_true c46_
              refine sm_T_go 2 (c1 := (408, [some (.inr (.inr (some (13, 0)))), some (.inl f_), some (.inl tt_), some (.inl k_), some (.inl c_), some (.inl 0), some (.inl 1)], [.inl 4, .inl tt_, .inr (.inr (some (119, 0)))], S_)) rfl ?_
              refine sm_T_bas1 (n := 65537) rfl rfl (by omega) (by omega) (by decide) ?_
              have hI47_ : gi (sm_aI S_ 119 0 tt_.toNat 4) := gi_aI hI_ (show (-128) ≤ 4 ∧ 4 ≤ 127 from ⟨by omega, by omega⟩)
              have hF48_ : ai_fr (sx_W vw_290) S0_ (sm_aI S_ 119 0 tt_.toNat 4) := ai_fr_tr hF_ (ai_fr_aI rfl)
              refine sm_T_go 9 (c1 := (438, [some (.inr (.inr (some (13, 0)))), some (.inl f_), some (.inl tt_), some (.inl k_), some (.inl c_), some (.inl 0), some (.inl 1)], [.inl 257, .inl tt_, .inr (.inr (some (121, 0)))], sm_aI S_ 119 0 tt_.toNat 4)) rfl ?_
              refine sm_T_iast (n := 65537) rfl rfl (by omega) (by omega) ?_
              have hI49_ : gi (sm_aI (sm_aI S_ 119 0 tt_.toNat 4) 121 0 tt_.toNat 257) := gi_aI hI47_ (show (-2147483648) ≤ 257 ∧ 257 ≤ 2147483647 from ⟨by omega, by omega⟩)
              have hF50_ : ai_fr (sx_W vw_290) S0_ (sm_aI (sm_aI S_ 119 0 tt_.toNat 4) 121 0 tt_.toNat 257) := ai_fr_tr hF48_ (ai_fr_aI rfl)
              refine sm_T_go 7 (c1 := (455, [some (.inr (.inr (some (13, 0)))), some (.inl f_), some (.inl tt_), some (.inl k_), some (.inl c_), some (.inl 0), some (.inl 1)], [.inl 2, .inl k_], sm_aI (sm_aI S_ 119 0 tt_.toNat 4) 121 0 tt_.toNat 257)) rfl ?_
              refine sm_T_bin (w := k_ + 2) rfl (bi_add (by omega) (by omega) (by omega)) ?_
              refine sm_T_ri rfl ⟨_, _, rfl, _, rfl, hI49_, hF50_, ?_⟩
              have hkd_ : lx_kd b_ n_ p_ = if lx_sk b_ n_ p_ = 0 then -1 else lx_sk b_ n_ p_ := by unfold lx_kd; rw [if_neg (Nat.not_le.mpr hpn_), if_neg (show ¬ lx_l (b_ p_) from (hide_o h1_).1), if_neg (show ¬ lx_g (b_ p_) from (hide_o h1_).2)]
              have hen_ : lx_en b_ n_ p_ = lx_sn b_ n_ p_ := by unfold lx_en; rw [if_neg (Nat.not_le.mpr hpn_), if_neg (show ¬ lx_l (b_ p_) from (hide_o h1_).1), if_neg (show ¬ lx_g (b_ p_) from (hide_o h1_).2)]
              first | (have hsn_ : lx_sn b_ n_ p_ = p_ + 2 := if_pos ⟨by omega, by omega, by omega⟩) | (have hsn_ : lx_sn b_ n_ p_ = p_ + 2 := by unfold lx_sn; rw [if_neg (by omega), if_pos ⟨by omega, by omega, by omega⟩]) | (have hsn_ : lx_sn b_ n_ p_ = p_ + 1 := by unfold lx_sn; rw [if_neg (by omega), if_neg (by omega)])
              first | (have hsk_ : lx_sk b_ n_ p_ = 256 := if_pos ⟨by omega, by omega, by omega⟩) | (have hsk_ : lx_sk b_ n_ p_ = 257 := by unfold lx_sk; rw [if_neg (by omega), if_pos ⟨by omega, by omega, by omega⟩]) | (have hsk_ : lx_sk b_ n_ p_ = b_ p_ ∧ 33 ≤ b_ p_ := by unfold lx_sk; rw [if_neg (by omega), if_neg (by omega)]; rcases hide_o hs396_ with hs_ | hs_; (refine ⟨if_pos hs_.2.2, ?_⟩; rcases hs_.2.2 with q_ | q_ | q_ | q_ | q_ | q_ | q_ | q_ | q_ | q_ | q_ | q_ | q_ | q_ | q_ | q_ <;> (rw [q_]; decide)); (exfalso; have hs1_ := hs_.1; clear hs_; omega)) | (have hsk_ : lx_sk b_ n_ p_ = 0 := by unfold lx_sk; rw [if_neg (by omega), if_neg (by omega)]; rcases hide_o hs396_ with hs_ | hs_; (exfalso; have hs1_ := hs_.1; clear hs_; omega); (exact if_neg (fun hh_ => hs_.2 ⟨hpn_, hh_⟩)))
              (try simp only [rd_eq, rd_ne, rf_eq, rf_nk, rf_nt, rd_fa, rd_af, rd_fl, rd_al, rd_lf, rd_la, rd_leq, rd_lne, rd_fr, rd_ar, ne_eq, Nat.reduceEqDiff, not_false_eq_true] at *)
              simp only [ett_, if_true, reduceIte] at *
              refine ⟨?_, ⟨h5_, ?_, ?_, ?_⟩, ?_⟩
              · rw [hen_, hsn_]; push_cast; omega
              · rw [hkd_]; first | (rw [if_neg (by omega)]; exact (tk_g (show 33 ≤ lx_sk b_ n_ p_ by omega)).1) | (rw [if_pos (by omega)]; rfl) | (exfalso; rcases hide_o hs396_ with hs_ | hs_; (have hs1_ := hs_.1; clear hs_; omega); (refine hs_.2 ⟨hpn_, ?_⟩; have hb61_ : b_ p_ = 61 := (by clear hs_; omega); rw [hb61_]; decide))
              · intro hx_; rw [hkd_] at hx_ ⊢; by_cases hz_ : lx_sk b_ n_ p_ = 0
                · exact absurd (if_pos hz_) hx_
                · rw [if_neg hz_, ← (tk_g (show 33 ≤ lx_sk b_ n_ p_ by omega)).2 (lx_vl b_ n_ p_)]; omega
              · rw [hkd_]; intro h_; split at h_ <;> omega
              · intro j_ hj_; have hu_ := h6_ j_ hj_; simp only [if_neg hj_]; exact hu_
            · have c46_ : ¬ (v45_ = 0) := of_decide_eq_false c46_
              refine sm_T_go 3 (c1 := (408, [some (.inr (.inr (some (13, 0)))), some (.inl f_), some (.inl tt_), some (.inl k_), some (.inl c_), some (.inl 0), some (.inl 1)], [.inl 3, .inl tt_, .inr (.inr (some (119, 0)))], S_)) rfl ?_
              refine sm_T_bas1 (n := 65537) rfl rfl (by omega) (by omega) (by decide) ?_
              have hI51_ : gi (sm_aI S_ 119 0 tt_.toNat 3) := gi_aI hI_ (show (-128) ≤ 3 ∧ 3 ≤ 127 from ⟨by omega, by omega⟩)
              have hF52_ : ai_fr (sx_W vw_290) S0_ (sm_aI S_ 119 0 tt_.toNat 3) := ai_fr_tr hF_ (ai_fr_aI rfl)
              refine sm_T_go 9 (c1 := (438, [some (.inr (.inr (some (13, 0)))), some (.inl f_), some (.inl tt_), some (.inl k_), some (.inl c_), some (.inl 0), some (.inl 1)], [.inl 257, .inl tt_, .inr (.inr (some (121, 0)))], sm_aI S_ 119 0 tt_.toNat 3)) rfl ?_
              refine sm_T_iast (n := 65537) rfl rfl (by omega) (by omega) ?_
              have hI53_ : gi (sm_aI (sm_aI S_ 119 0 tt_.toNat 3) 121 0 tt_.toNat 257) := gi_aI hI51_ (show (-2147483648) ≤ 257 ∧ 257 ≤ 2147483647 from ⟨by omega, by omega⟩)
              have hF54_ : ai_fr (sx_W vw_290) S0_ (sm_aI (sm_aI S_ 119 0 tt_.toNat 3) 121 0 tt_.toNat 257) := ai_fr_tr hF52_ (ai_fr_aI rfl)
              refine sm_T_go 7 (c1 := (455, [some (.inr (.inr (some (13, 0)))), some (.inl f_), some (.inl tt_), some (.inl k_), some (.inl c_), some (.inl 0), some (.inl 1)], [.inl 2, .inl k_], sm_aI (sm_aI S_ 119 0 tt_.toNat 3) 121 0 tt_.toNat 257)) rfl ?_
              refine sm_T_bin (w := k_ + 2) rfl (bi_add (by omega) (by omega) (by omega)) ?_
              refine sm_T_ri rfl ⟨_, _, rfl, _, rfl, hI53_, hF54_, ?_⟩
              have hkd_ : lx_kd b_ n_ p_ = if lx_sk b_ n_ p_ = 0 then -1 else lx_sk b_ n_ p_ := by unfold lx_kd; rw [if_neg (Nat.not_le.mpr hpn_), if_neg (show ¬ lx_l (b_ p_) from (hide_o h1_).1), if_neg (show ¬ lx_g (b_ p_) from (hide_o h1_).2)]
              have hen_ : lx_en b_ n_ p_ = lx_sn b_ n_ p_ := by unfold lx_en; rw [if_neg (Nat.not_le.mpr hpn_), if_neg (show ¬ lx_l (b_ p_) from (hide_o h1_).1), if_neg (show ¬ lx_g (b_ p_) from (hide_o h1_).2)]
              first | (have hsn_ : lx_sn b_ n_ p_ = p_ + 2 := if_pos ⟨by omega, by omega, by omega⟩) | (have hsn_ : lx_sn b_ n_ p_ = p_ + 2 := by unfold lx_sn; rw [if_neg (by omega), if_pos ⟨by omega, by omega, by omega⟩]) | (have hsn_ : lx_sn b_ n_ p_ = p_ + 1 := by unfold lx_sn; rw [if_neg (by omega), if_neg (by omega)])
              first | (have hsk_ : lx_sk b_ n_ p_ = 256 := if_pos ⟨by omega, by omega, by omega⟩) | (have hsk_ : lx_sk b_ n_ p_ = 257 := by unfold lx_sk; rw [if_neg (by omega), if_pos ⟨by omega, by omega, by omega⟩]) | (have hsk_ : lx_sk b_ n_ p_ = b_ p_ ∧ 33 ≤ b_ p_ := by unfold lx_sk; rw [if_neg (by omega), if_neg (by omega)]; rcases hide_o hs396_ with hs_ | hs_; (refine ⟨if_pos hs_.2.2, ?_⟩; rcases hs_.2.2 with q_ | q_ | q_ | q_ | q_ | q_ | q_ | q_ | q_ | q_ | q_ | q_ | q_ | q_ | q_ | q_ <;> (rw [q_]; decide)); (exfalso; have hs1_ := hs_.1; clear hs_; omega)) | (have hsk_ : lx_sk b_ n_ p_ = 0 := by unfold lx_sk; rw [if_neg (by omega), if_neg (by omega)]; rcases hide_o hs396_ with hs_ | hs_; (exfalso; have hs1_ := hs_.1; clear hs_; omega); (exact if_neg (fun hh_ => hs_.2 ⟨hpn_, hh_⟩)))
              (try simp only [rd_eq, rd_ne, rf_eq, rf_nk, rf_nt, rd_fa, rd_af, rd_fl, rd_al, rd_lf, rd_la, rd_leq, rd_lne, rd_fr, rd_ar, ne_eq, Nat.reduceEqDiff, not_false_eq_true] at *)
              simp only [ett_, if_true, reduceIte] at *
              refine ⟨?_, ⟨h5_, ?_, ?_, ?_⟩, ?_⟩
              · rw [hen_, hsn_]; push_cast; omega
              · rw [hkd_]; first | (rw [if_neg (by omega)]; exact (tk_g (show 33 ≤ lx_sk b_ n_ p_ by omega)).1) | (rw [if_pos (by omega)]; rfl) | (exfalso; rcases hide_o hs396_ with hs_ | hs_; (have hs1_ := hs_.1; clear hs_; omega); (refine hs_.2 ⟨hpn_, ?_⟩; have hb61_ : b_ p_ = 61 := (by clear hs_; omega); rw [hb61_]; decide))
              · intro hx_; rw [hkd_] at hx_ ⊢; by_cases hz_ : lx_sk b_ n_ p_ = 0
                · exact absurd (if_pos hz_) hx_
                · rw [if_neg hz_, ← (tk_g (show 33 ≤ lx_sk b_ n_ p_ by omega)).2 (lx_vl b_ n_ p_)]; omega
              · rw [hkd_]; intro h_; split at h_ <;> omega
              · intro j_ hj_; have hu_ := h6_ j_ hj_; simp only [if_neg hj_]; exact hu_
      · have c1_ : ¬ (c_ ≠ 60) := of_decide_eq_false c1_
        refine sm_T_go 3 (c1 := (342, [some (.inr (.inr (some (13, 0)))), some (.inl f_), some (.inl tt_), some (.inl k_), some (.inl c_), none, none], [.inl 1, .inl k_, .inr (.inr (some (13, 0)))], S_)) rfl ?_
        refine sm_T_bin (w := k_ + 1) rfl (bi_add (by omega) (by omega) (by omega)) ?_
        refine sm_T_cal (d1 := 0) (Q1 := vq_282 (k_ + 1) b_ n_ S_) rfl rfl (by decide) (vc_282 (k_ + 1) b_ n_ S_ hI_ (by exact hb1_) (by exact hn2_) (by exact hn1_) (by omega)) (fun u_ S55_ p58_ => ?_)
        obtain ⟨rfl, v60_, rfl, p58_⟩ := p58_
        have hd343_ : (v60_ = 45 ↔ p_ + 1 < n_ ∧ b_ (p_ + 1) = 45) := by rw [p58_, show (k_ + 1).toNat = p_ + 1 by omega]; exact rb_c (hbb_ (p_ + 1)) (by decide)
        clear p58_
        refine sm_T_go 1 (c1 := (348, [some (.inr (.inr (some (13, 0)))), some (.inl f_), some (.inl tt_), some (.inl k_), some (.inl c_), none, none], [.inl 45, .inl v60_], S_)) rfl ?_
        refine sm_T_br (a := 1) (z := 7) rfl (fun c61_ => ?_) (fun c61_ => ?_)
        · have c61_ : v60_ ≠ 45 := of_decide_eq_true c61_
          refine sm_T_go 4 (c1 := (362, [some (.inr (.inr (some (13, 0)))), some (.inl f_), some (.inl tt_), some (.inl k_), some (.inl c_), some (.inl 0), none], [.inl 61, .inl c_], S_)) rfl ?_
          refine sm_T_br (a := 1) (z := 19) rfl (fun c62_ => ?_) (fun c62_ => ?_)
          · have c62_ : c_ ≠ 61 := of_decide_eq_true c62_
            refine sm_T_go 8 (c1 := (396, [some (.inr (.inr (some (13, 0)))), some (.inl f_), some (.inl tt_), some (.inl k_), some (.inl c_), some (.inl 0), some (.inl 0)], [.inl c_, .inl tt_, .inr (.inr (some (119, 0)))], S_)) rfl ?_
            refine sm_T_cal (d1 := 0) (Q1 := vq_289 c_ S_) rfl rfl (by decide) (vc_289 c_ S_ hI_ ) (fun u_ S63_ p66_ => ?_)
            obtain ⟨rfl, v68_, rfl, p66_⟩ := p66_
            have hs396_ : hide (_ ∨ _) := if01 p66_
            rw [h03_, rb_s hbi_] at hs396_
            clear p66_
            refine sm_T_b0 (a := 0) (z := 7) rfl (fun c69_ => ?_) (fun c69_ => ?_)
            · have c69_ : v68_ = 0 := of_decide_eq_true c69_
              refine sm_T_go 2 (c1 := (408, [some (.inr (.inr (some (13, 0)))), some (.inl f_), some (.inl tt_), some (.inl k_), some (.inl c_), some (.inl 0), some (.inl 0)], [.inl 4, .inl tt_, .inr (.inr (some (119, 0)))], S_)) rfl ?_
              refine sm_T_bas1 (n := 65537) rfl rfl (by omega) (by omega) (by decide) ?_
              have hI70_ : gi (sm_aI S_ 119 0 tt_.toNat 4) := gi_aI hI_ (show (-128) ≤ 4 ∧ 4 ≤ 127 from ⟨by omega, by omega⟩)
              have hF71_ : ai_fr (sx_W vw_290) S0_ (sm_aI S_ 119 0 tt_.toNat 4) := ai_fr_tr hF_ (ai_fr_aI rfl)
              refine sm_T_go 8 (c1 := (438, [some (.inr (.inr (some (13, 0)))), some (.inl f_), some (.inl tt_), some (.inl k_), some (.inl c_), some (.inl 0), some (.inl 0)], [.inl c_, .inl tt_, .inr (.inr (some (121, 0)))], sm_aI S_ 119 0 tt_.toNat 4)) rfl ?_
              refine sm_T_iast (n := 65537) rfl rfl (by omega) (by omega) ?_
              have hI72_ : gi (sm_aI (sm_aI S_ 119 0 tt_.toNat 4) 121 0 tt_.toNat c_) := gi_aI hI70_ (show (-2147483648) ≤ c_ ∧ c_ ≤ 2147483647 from ⟨by omega, by omega⟩)
              have hF73_ : ai_fr (sx_W vw_290) S0_ (sm_aI (sm_aI S_ 119 0 tt_.toNat 4) 121 0 tt_.toNat c_) := ai_fr_tr hF71_ (ai_fr_aI rfl)
              refine sm_T_go 6 (c1 := (455, [some (.inr (.inr (some (13, 0)))), some (.inl f_), some (.inl tt_), some (.inl k_), some (.inl c_), some (.inl 0), some (.inl 0)], [.inl 1, .inl k_], sm_aI (sm_aI S_ 119 0 tt_.toNat 4) 121 0 tt_.toNat c_)) rfl ?_
              refine sm_T_bin (w := k_ + 1) rfl (bi_add (by omega) (by omega) (by omega)) ?_
              refine sm_T_ri rfl ⟨_, _, rfl, _, rfl, hI72_, hF73_, ?_⟩
              have hkd_ : lx_kd b_ n_ p_ = if lx_sk b_ n_ p_ = 0 then -1 else lx_sk b_ n_ p_ := by unfold lx_kd; rw [if_neg (Nat.not_le.mpr hpn_), if_neg (show ¬ lx_l (b_ p_) from (hide_o h1_).1), if_neg (show ¬ lx_g (b_ p_) from (hide_o h1_).2)]
              have hen_ : lx_en b_ n_ p_ = lx_sn b_ n_ p_ := by unfold lx_en; rw [if_neg (Nat.not_le.mpr hpn_), if_neg (show ¬ lx_l (b_ p_) from (hide_o h1_).1), if_neg (show ¬ lx_g (b_ p_) from (hide_o h1_).2)]
              first | (have hsn_ : lx_sn b_ n_ p_ = p_ + 2 := if_pos ⟨by omega, by omega, by omega⟩) | (have hsn_ : lx_sn b_ n_ p_ = p_ + 2 := by unfold lx_sn; rw [if_neg (by omega), if_pos ⟨by omega, by omega, by omega⟩]) | (have hsn_ : lx_sn b_ n_ p_ = p_ + 1 := by unfold lx_sn; rw [if_neg (by omega), if_neg (by omega)])
              first | (have hsk_ : lx_sk b_ n_ p_ = 256 := if_pos ⟨by omega, by omega, by omega⟩) | (have hsk_ : lx_sk b_ n_ p_ = 257 := by unfold lx_sk; rw [if_neg (by omega), if_pos ⟨by omega, by omega, by omega⟩]) | (have hsk_ : lx_sk b_ n_ p_ = b_ p_ ∧ 33 ≤ b_ p_ := by unfold lx_sk; rw [if_neg (by omega), if_neg (by omega)]; rcases hide_o hs396_ with hs_ | hs_; (refine ⟨if_pos hs_.2.2, ?_⟩; rcases hs_.2.2 with q_ | q_ | q_ | q_ | q_ | q_ | q_ | q_ | q_ | q_ | q_ | q_ | q_ | q_ | q_ | q_ <;> (rw [q_]; decide)); (exfalso; have hs1_ := hs_.1; clear hs_; omega)) | (have hsk_ : lx_sk b_ n_ p_ = 0 := by unfold lx_sk; rw [if_neg (by omega), if_neg (by omega)]; rcases hide_o hs396_ with hs_ | hs_; (exfalso; have hs1_ := hs_.1; clear hs_; omega); (exact if_neg (fun hh_ => hs_.2 ⟨hpn_, hh_⟩)))
              (try simp only [rd_eq, rd_ne, rf_eq, rf_nk, rf_nt, rd_fa, rd_af, rd_fl, rd_al, rd_lf, rd_la, rd_leq, rd_lne, rd_fr, rd_ar, ne_eq, Nat.reduceEqDiff, not_false_eq_true] at *)
              simp only [ett_, if_true, reduceIte] at *
              refine ⟨?_, ⟨h5_, ?_, ?_, ?_⟩, ?_⟩
              · rw [hen_, hsn_]; push_cast; omega
              · rw [hkd_]; first | (rw [if_neg (by omega)]; exact (tk_g (show 33 ≤ lx_sk b_ n_ p_ by omega)).1) | (rw [if_pos (by omega)]; rfl) | (exfalso; rcases hide_o hs396_ with hs_ | hs_; (have hs1_ := hs_.1; clear hs_; omega); (refine hs_.2 ⟨hpn_, ?_⟩; have hb61_ : b_ p_ = 61 := (by clear hs_; omega); rw [hb61_]; decide))
              · intro hx_; rw [hkd_] at hx_ ⊢; by_cases hz_ : lx_sk b_ n_ p_ = 0
                · exact absurd (if_pos hz_) hx_
                · rw [if_neg hz_, ← (tk_g (show 33 ≤ lx_sk b_ n_ p_ by omega)).2 (lx_vl b_ n_ p_)]; omega
              · rw [hkd_]; intro h_; split at h_ <;> omega
              · intro j_ hj_; have hu_ := h6_ j_ hj_; simp only [if_neg hj_]; exact hu_
            · have c69_ : ¬ (v68_ = 0) := of_decide_eq_false c69_
              refine sm_T_go 3 (c1 := (408, [some (.inr (.inr (some (13, 0)))), some (.inl f_), some (.inl tt_), some (.inl k_), some (.inl c_), some (.inl 0), some (.inl 0)], [.inl 3, .inl tt_, .inr (.inr (some (119, 0)))], S_)) rfl ?_
              refine sm_T_bas1 (n := 65537) rfl rfl (by omega) (by omega) (by decide) ?_
              have hI74_ : gi (sm_aI S_ 119 0 tt_.toNat 3) := gi_aI hI_ (show (-128) ≤ 3 ∧ 3 ≤ 127 from ⟨by omega, by omega⟩)
              have hF75_ : ai_fr (sx_W vw_290) S0_ (sm_aI S_ 119 0 tt_.toNat 3) := ai_fr_tr hF_ (ai_fr_aI rfl)
              refine sm_T_go 8 (c1 := (438, [some (.inr (.inr (some (13, 0)))), some (.inl f_), some (.inl tt_), some (.inl k_), some (.inl c_), some (.inl 0), some (.inl 0)], [.inl c_, .inl tt_, .inr (.inr (some (121, 0)))], sm_aI S_ 119 0 tt_.toNat 3)) rfl ?_
              refine sm_T_iast (n := 65537) rfl rfl (by omega) (by omega) ?_
              have hI76_ : gi (sm_aI (sm_aI S_ 119 0 tt_.toNat 3) 121 0 tt_.toNat c_) := gi_aI hI74_ (show (-2147483648) ≤ c_ ∧ c_ ≤ 2147483647 from ⟨by omega, by omega⟩)
              have hF77_ : ai_fr (sx_W vw_290) S0_ (sm_aI (sm_aI S_ 119 0 tt_.toNat 3) 121 0 tt_.toNat c_) := ai_fr_tr hF75_ (ai_fr_aI rfl)
              refine sm_T_go 6 (c1 := (455, [some (.inr (.inr (some (13, 0)))), some (.inl f_), some (.inl tt_), some (.inl k_), some (.inl c_), some (.inl 0), some (.inl 0)], [.inl 1, .inl k_], sm_aI (sm_aI S_ 119 0 tt_.toNat 3) 121 0 tt_.toNat c_)) rfl ?_
              refine sm_T_bin (w := k_ + 1) rfl (bi_add (by omega) (by omega) (by omega)) ?_
              refine sm_T_ri rfl ⟨_, _, rfl, _, rfl, hI76_, hF77_, ?_⟩
              have hkd_ : lx_kd b_ n_ p_ = if lx_sk b_ n_ p_ = 0 then -1 else lx_sk b_ n_ p_ := by unfold lx_kd; rw [if_neg (Nat.not_le.mpr hpn_), if_neg (show ¬ lx_l (b_ p_) from (hide_o h1_).1), if_neg (show ¬ lx_g (b_ p_) from (hide_o h1_).2)]
              have hen_ : lx_en b_ n_ p_ = lx_sn b_ n_ p_ := by unfold lx_en; rw [if_neg (Nat.not_le.mpr hpn_), if_neg (show ¬ lx_l (b_ p_) from (hide_o h1_).1), if_neg (show ¬ lx_g (b_ p_) from (hide_o h1_).2)]
              first | (have hsn_ : lx_sn b_ n_ p_ = p_ + 2 := if_pos ⟨by omega, by omega, by omega⟩) | (have hsn_ : lx_sn b_ n_ p_ = p_ + 2 := by unfold lx_sn; rw [if_neg (by omega), if_pos ⟨by omega, by omega, by omega⟩]) | (have hsn_ : lx_sn b_ n_ p_ = p_ + 1 := by unfold lx_sn; rw [if_neg (by omega), if_neg (by omega)])
              first | (have hsk_ : lx_sk b_ n_ p_ = 256 := if_pos ⟨by omega, by omega, by omega⟩) | (have hsk_ : lx_sk b_ n_ p_ = 257 := by unfold lx_sk; rw [if_neg (by omega), if_pos ⟨by omega, by omega, by omega⟩]) | (have hsk_ : lx_sk b_ n_ p_ = b_ p_ ∧ 33 ≤ b_ p_ := by unfold lx_sk; rw [if_neg (by omega), if_neg (by omega)]; rcases hide_o hs396_ with hs_ | hs_; (refine ⟨if_pos hs_.2.2, ?_⟩; rcases hs_.2.2 with q_ | q_ | q_ | q_ | q_ | q_ | q_ | q_ | q_ | q_ | q_ | q_ | q_ | q_ | q_ | q_ <;> (rw [q_]; decide)); (exfalso; have hs1_ := hs_.1; clear hs_; omega)) | (have hsk_ : lx_sk b_ n_ p_ = 0 := by unfold lx_sk; rw [if_neg (by omega), if_neg (by omega)]; rcases hide_o hs396_ with hs_ | hs_; (exfalso; have hs1_ := hs_.1; clear hs_; omega); (exact if_neg (fun hh_ => hs_.2 ⟨hpn_, hh_⟩)))
              (try simp only [rd_eq, rd_ne, rf_eq, rf_nk, rf_nt, rd_fa, rd_af, rd_fl, rd_al, rd_lf, rd_la, rd_leq, rd_lne, rd_fr, rd_ar, ne_eq, Nat.reduceEqDiff, not_false_eq_true] at *)
              simp only [ett_, if_true, reduceIte] at *
              refine ⟨?_, ⟨h5_, ?_, ?_, ?_⟩, ?_⟩
              · rw [hen_, hsn_]; push_cast; omega
              · rw [hkd_]; first | (rw [if_neg (by omega)]; exact (tk_g (show 33 ≤ lx_sk b_ n_ p_ by omega)).1) | (rw [if_pos (by omega)]; rfl) | (exfalso; rcases hide_o hs396_ with hs_ | hs_; (have hs1_ := hs_.1; clear hs_; omega); (refine hs_.2 ⟨hpn_, ?_⟩; have hb61_ : b_ p_ = 61 := (by clear hs_; omega); rw [hb61_]; decide))
              · intro hx_; rw [hkd_] at hx_ ⊢; by_cases hz_ : lx_sk b_ n_ p_ = 0
                · exact absurd (if_pos hz_) hx_
                · rw [if_neg hz_, ← (tk_g (show 33 ≤ lx_sk b_ n_ p_ by omega)).2 (lx_vl b_ n_ p_)]; omega
              · rw [hkd_]; intro h_; split at h_ <;> omega
              · intro j_ hj_; have hu_ := h6_ j_ hj_; simp only [if_neg hj_]; exact hu_
          · have c62_ : ¬ (c_ ≠ 61) := of_decide_eq_false c62_
            exfalso; omega
        · have c61_ : ¬ (v60_ ≠ 45) := of_decide_eq_false c61_
          refine sm_T_go 5 (c1 := (362, [some (.inr (.inr (some (13, 0)))), some (.inl f_), some (.inl tt_), some (.inl k_), some (.inl c_), some (.inl 1), none], [.inl 61, .inl c_], S_)) rfl ?_
          refine sm_T_br (a := 1) (z := 19) rfl (fun c78_ => ?_) (fun c78_ => ?_)
          · have c78_ : c_ ≠ 61 := of_decide_eq_true c78_
            refine sm_T_go 10 (c1 := (408, [some (.inr (.inr (some (13, 0)))), some (.inl f_), some (.inl tt_), some (.inl k_), some (.inl c_), some (.inl 1), some (.inl 0)], [.inl 3, .inl tt_, .inr (.inr (some (119, 0)))], S_)) rfl ?_
            refine sm_T_bas1 (n := 65537) rfl rfl (by omega) (by omega) (by decide) ?_
            have hI79_ : gi (sm_aI S_ 119 0 tt_.toNat 3) := gi_aI hI_ (show (-128) ≤ 3 ∧ 3 ≤ 127 from ⟨by omega, by omega⟩)
            have hF80_ : ai_fr (sx_W vw_290) S0_ (sm_aI S_ 119 0 tt_.toNat 3) := ai_fr_tr hF_ (ai_fr_aI rfl)
            refine sm_T_go 7 (c1 := (438, [some (.inr (.inr (some (13, 0)))), some (.inl f_), some (.inl tt_), some (.inl k_), some (.inl c_), some (.inl 1), some (.inl 0)], [.inl 256, .inl tt_, .inr (.inr (some (121, 0)))], sm_aI S_ 119 0 tt_.toNat 3)) rfl ?_
            refine sm_T_iast (n := 65537) rfl rfl (by omega) (by omega) ?_
            have hI81_ : gi (sm_aI (sm_aI S_ 119 0 tt_.toNat 3) 121 0 tt_.toNat 256) := gi_aI hI79_ (show (-2147483648) ≤ 256 ∧ 256 ≤ 2147483647 from ⟨by omega, by omega⟩)
            have hF82_ : ai_fr (sx_W vw_290) S0_ (sm_aI (sm_aI S_ 119 0 tt_.toNat 3) 121 0 tt_.toNat 256) := ai_fr_tr hF80_ (ai_fr_aI rfl)
            refine sm_T_go 5 (c1 := (455, [some (.inr (.inr (some (13, 0)))), some (.inl f_), some (.inl tt_), some (.inl k_), some (.inl c_), some (.inl 1), some (.inl 0)], [.inl 2, .inl k_], sm_aI (sm_aI S_ 119 0 tt_.toNat 3) 121 0 tt_.toNat 256)) rfl ?_
            refine sm_T_bin (w := k_ + 2) rfl (bi_add (by omega) (by omega) (by omega)) ?_
            refine sm_T_ri rfl ⟨_, _, rfl, _, rfl, hI81_, hF82_, ?_⟩
            have hkd_ : lx_kd b_ n_ p_ = if lx_sk b_ n_ p_ = 0 then -1 else lx_sk b_ n_ p_ := by unfold lx_kd; rw [if_neg (Nat.not_le.mpr hpn_), if_neg (show ¬ lx_l (b_ p_) from (hide_o h1_).1), if_neg (show ¬ lx_g (b_ p_) from (hide_o h1_).2)]
            have hen_ : lx_en b_ n_ p_ = lx_sn b_ n_ p_ := by unfold lx_en; rw [if_neg (Nat.not_le.mpr hpn_), if_neg (show ¬ lx_l (b_ p_) from (hide_o h1_).1), if_neg (show ¬ lx_g (b_ p_) from (hide_o h1_).2)]
            first | (have hsn_ : lx_sn b_ n_ p_ = p_ + 2 := if_pos ⟨by omega, by omega, by omega⟩) | (have hsn_ : lx_sn b_ n_ p_ = p_ + 2 := by unfold lx_sn; rw [if_neg (by omega), if_pos ⟨by omega, by omega, by omega⟩]) | (have hsn_ : lx_sn b_ n_ p_ = p_ + 1 := by unfold lx_sn; rw [if_neg (by omega), if_neg (by omega)])
            first | (have hsk_ : lx_sk b_ n_ p_ = 256 := if_pos ⟨by omega, by omega, by omega⟩) | (have hsk_ : lx_sk b_ n_ p_ = 257 := by unfold lx_sk; rw [if_neg (by omega), if_pos ⟨by omega, by omega, by omega⟩]) | (have hsk_ : lx_sk b_ n_ p_ = b_ p_ ∧ 33 ≤ b_ p_ := by unfold lx_sk; rw [if_neg (by omega), if_neg (by omega)]; rcases hide_o hs396_ with hs_ | hs_; (refine ⟨if_pos hs_.2.2, ?_⟩; rcases hs_.2.2 with q_ | q_ | q_ | q_ | q_ | q_ | q_ | q_ | q_ | q_ | q_ | q_ | q_ | q_ | q_ | q_ <;> (rw [q_]; decide)); (exfalso; have hs1_ := hs_.1; clear hs_; omega)) | (have hsk_ : lx_sk b_ n_ p_ = 0 := by unfold lx_sk; rw [if_neg (by omega), if_neg (by omega)]; rcases hide_o hs396_ with hs_ | hs_; (exfalso; have hs1_ := hs_.1; clear hs_; omega); (exact if_neg (fun hh_ => hs_.2 ⟨hpn_, hh_⟩)))
            (try simp only [rd_eq, rd_ne, rf_eq, rf_nk, rf_nt, rd_fa, rd_af, rd_fl, rd_al, rd_lf, rd_la, rd_leq, rd_lne, rd_fr, rd_ar, ne_eq, Nat.reduceEqDiff, not_false_eq_true] at *)
            simp only [ett_, if_true, reduceIte] at *
            refine ⟨?_, ⟨h5_, ?_, ?_, ?_⟩, ?_⟩
            · rw [hen_, hsn_]; push_cast; omega
            · rw [hkd_]; first | (rw [if_neg (by omega)]; exact (tk_g (show 33 ≤ lx_sk b_ n_ p_ by omega)).1) | (rw [if_pos (by omega)]; rfl) | (exfalso; rcases hide_o hs396_ with hs_ | hs_; (have hs1_ := hs_.1; clear hs_; omega); (refine hs_.2 ⟨hpn_, ?_⟩; have hb61_ : b_ p_ = 61 := (by clear hs_; omega); rw [hb61_]; decide))
            · intro hx_; rw [hkd_] at hx_ ⊢; by_cases hz_ : lx_sk b_ n_ p_ = 0
              · exact absurd (if_pos hz_) hx_
              · rw [if_neg hz_, ← (tk_g (show 33 ≤ lx_sk b_ n_ p_ by omega)).2 (lx_vl b_ n_ p_)]; omega
            · rw [hkd_]; intro h_; split at h_ <;> omega
            · intro j_ hj_; have hu_ := h6_ j_ hj_; simp only [if_neg hj_]; exact hu_
          · have c78_ : ¬ (c_ ≠ 61) := of_decide_eq_false c78_
            exfalso; omega
set_option maxHeartbeats 16000000 in
set_option maxRecDepth 20000 in
theorem vc_290 {sc_ : Nat × (Nat → Int)} (f_ : Int) (b_ : Nat → Int) (n_ : Nat) (p_ : Nat) (t_ : Nat) (S0_ : sm_S) (hI_ : gi S0_) (hb_ : S0_.2.2.1 118 0 = b_) (hn_ : (S0_.1 13 0 2) = (n_ : Int)) (hn1_ : n_ ≤ 1280) (hp_ : f_ = (p_ : Int)) (hpn_ : p_ < n_) (ht_ : (S0_.1 13 0 3) = (t_ : Int)) (ht1_ : t_ ≤ 1280) : sm_T (mt_P sc_) 2 290 (0, [some (.inr (.inr (some (13, 0)))), some (.inl f_), none, none, none, none, none], [], S0_) (fun r_ => ∃ u_ S1_, r_ = (.inl u_, S1_, 0) ∧ vq_290 f_ b_ n_ p_ t_ S0_ u_ S1_) := by
  have hF_ : ai_fr (sx_W vw_290) S0_ S0_ := ai_fr_rf
  have hI0_ := hI_
  have hb1_ := hb_
  have hn2_ := hn_
  have hbb_ : ∀ k_, -128 ≤ b_ k_ ∧ b_ k_ ≤ 127 := fun k_ => by rw [← hb_]; exact hI0_.2 118 0 k_
  have ett_ : (S0_.1 13 0 3).toNat = t_ := by omega
  have ef_ : f_.toNat = p_ := by omega
  have hbi_ := hbb_ p_
  have hbl_ := rb_l (n := n_) hbi_
  have hbg_ := rb_g (n := n_) hbi_
  have b1_ : 0 ≤ S0_.1 13 0 3 ∧ S0_.1 13 0 3 ≤ 1280 := hI_.1 13 0 3 rfl
  refine sm_T_go 7 (c1 := (11, [some (.inr (.inr (some (13, 0)))), some (.inl f_), some (.inl (S0_.1 13 0 3)), none, none, none, none], [.inl f_, .inl (S0_.1 13 0 3), .inr (.inr (some (120, 0)))], S0_)) rfl ?_
  refine sm_T_iast (n := 65537) rfl rfl (by omega) (by omega) ?_
  have hI2_ : gi (sm_aI S0_ 120 0 (S0_.1 13 0 3).toNat f_) := gi_aI hI_ (show 0 ≤ f_ ∧ f_ ≤ 1280 from ⟨by omega, by omega⟩)
  have hF3_ : ai_fr (sx_W vw_290) S0_ (sm_aI S0_ 120 0 (S0_.1 13 0 3).toNat f_) := ai_fr_tr hF_ (ai_fr_aI rfl)
  refine sm_T_go 4 (c1 := (18, [some (.inr (.inr (some (13, 0)))), some (.inl f_), some (.inl (S0_.1 13 0 3)), none, none, none, none], [.inl 0, .inl (S0_.1 13 0 3), .inr (.inr (some (121, 0)))], sm_aI S0_ 120 0 (S0_.1 13 0 3).toNat f_)) rfl ?_
  refine sm_T_iast (n := 65537) rfl rfl (by omega) (by omega) ?_
  have hI4_ : gi (sm_aI (sm_aI S0_ 120 0 (S0_.1 13 0 3).toNat f_) 121 0 (S0_.1 13 0 3).toNat 0) := gi_aI hI2_ (show (-2147483648) ≤ 0 ∧ 0 ≤ 2147483647 from ⟨by omega, by omega⟩)
  have hF5_ : ai_fr (sx_W vw_290) S0_ (sm_aI (sm_aI S0_ 120 0 (S0_.1 13 0 3).toNat f_) 121 0 (S0_.1 13 0 3).toNat 0) := ai_fr_tr hF3_ (ai_fr_aI rfl)
  refine sm_T_go 4 (c1 := (25, [some (.inr (.inr (some (13, 0)))), some (.inl f_), some (.inl (S0_.1 13 0 3)), none, none, none, none], [.inr (.inl 0), .inl (S0_.1 13 0 3), .inr (.inr (some (122, 0)))], sm_aI (sm_aI S0_ 120 0 (S0_.1 13 0 3).toNat f_) 121 0 (S0_.1 13 0 3).toNat 0)) rfl ?_
  refine sm_T_last (n := 65537) rfl rfl (by omega) (by omega) ?_
  have hI6_ : gi (sm_aL (sm_aI (sm_aI S0_ 120 0 (S0_.1 13 0 3).toNat f_) 121 0 (S0_.1 13 0 3).toNat 0) 122 0 (S0_.1 13 0 3).toNat 0) := gi_aL hI4_
  have hF7_ : ai_fr (sx_W vw_290) S0_ (sm_aL (sm_aI (sm_aI S0_ 120 0 (S0_.1 13 0 3).toNat f_) 121 0 (S0_.1 13 0 3).toNat 0) 122 0 (S0_.1 13 0 3).toNat 0) := ai_fr_tr hF5_ (ai_fr_aL rfl)
  refine sm_T_go 4 (c1 := (32, [some (.inr (.inr (some (13, 0)))), some (.inl f_), some (.inl (S0_.1 13 0 3)), none, none, none, none], [.inl 0, .inl (S0_.1 13 0 3), .inr (.inr (some (123, 0)))], sm_aL (sm_aI (sm_aI S0_ 120 0 (S0_.1 13 0 3).toNat f_) 121 0 (S0_.1 13 0 3).toNat 0) 122 0 (S0_.1 13 0 3).toNat 0)) rfl ?_
  refine sm_T_iast (n := 65537) rfl rfl (by omega) (by omega) ?_
  have hI8_ : gi (sm_aI (sm_aL (sm_aI (sm_aI S0_ 120 0 (S0_.1 13 0 3).toNat f_) 121 0 (S0_.1 13 0 3).toNat 0) 122 0 (S0_.1 13 0 3).toNat 0) 123 0 (S0_.1 13 0 3).toNat 0) := gi_aI hI6_ (show (-2147483648) ≤ 0 ∧ 0 ≤ 2147483647 from ⟨by omega, by omega⟩)
  have hF9_ : ai_fr (sx_W vw_290) S0_ (sm_aI (sm_aL (sm_aI (sm_aI S0_ 120 0 (S0_.1 13 0 3).toNat f_) 121 0 (S0_.1 13 0 3).toNat 0) 122 0 (S0_.1 13 0 3).toNat 0) 123 0 (S0_.1 13 0 3).toNat 0) := ai_fr_tr hF7_ (ai_fr_aI rfl)
  refine sm_T_go 4 (c1 := (37, [some (.inr (.inr (some (13, 0)))), some (.inl f_), some (.inl (S0_.1 13 0 3)), some (.inl f_), none, none, none], [.inl f_, .inr (.inr (some (13, 0)))], sm_aI (sm_aL (sm_aI (sm_aI S0_ 120 0 (S0_.1 13 0 3).toNat f_) 121 0 (S0_.1 13 0 3).toNat 0) 122 0 (S0_.1 13 0 3).toNat 0) 123 0 (S0_.1 13 0 3).toNat 0)) rfl ?_
  refine sm_T_cal (d1 := 0) (Q1 := vq_282 f_ b_ n_ (sm_aI (sm_aL (sm_aI (sm_aI S0_ 120 0 (S0_.1 13 0 3).toNat f_) 121 0 (S0_.1 13 0 3).toNat 0) 122 0 (S0_.1 13 0 3).toNat 0) 123 0 (S0_.1 13 0 3).toNat 0)) rfl rfl (by decide) (vc_282 f_ b_ n_ (sm_aI (sm_aL (sm_aI (sm_aI S0_ 120 0 (S0_.1 13 0 3).toNat f_) 121 0 (S0_.1 13 0 3).toNat 0) 122 0 (S0_.1 13 0 3).toNat 0) 123 0 (S0_.1 13 0 3).toNat 0) hI8_ (by exact hb1_) (by exact hn2_) (by exact hn1_) (by omega)) (fun u_ S10_ p13_ => ?_)
  obtain ⟨rfl, v15_, rfl, p13_⟩ := p13_
  have hc37_ := p13_
  rw [ef_] at hc37_
  have hrbb : -1 ≤ rb b_ n_ p_ ∧ rb b_ n_ p_ ≤ 255 := by unfold rb; split <;> omega
  refine sm_T_go 2 (c1 := (44, [some (.inr (.inr (some (13, 0)))), some (.inl f_), some (.inl (S0_.1 13 0 3)), some (.inl f_), some (.inl v15_), none, none], [.inl v15_], sm_aI (sm_aL (sm_aI (sm_aI S0_ 120 0 (S0_.1 13 0 3).toNat f_) 121 0 (S0_.1 13 0 3).toNat 0) 122 0 (S0_.1 13 0 3).toNat 0) 123 0 (S0_.1 13 0 3).toNat 0)) rfl ?_
  refine sm_T_cal (d1 := 0) (Q1 := vq_283 v15_ (sm_aI (sm_aL (sm_aI (sm_aI S0_ 120 0 (S0_.1 13 0 3).toNat f_) 121 0 (S0_.1 13 0 3).toNat 0) 122 0 (S0_.1 13 0 3).toNat 0) 123 0 (S0_.1 13 0 3).toNat 0)) rfl rfl (by decide) (vc_283 v15_ (sm_aI (sm_aL (sm_aI (sm_aI S0_ 120 0 (S0_.1 13 0 3).toNat f_) 121 0 (S0_.1 13 0 3).toNat 0) 122 0 (S0_.1 13 0 3).toNat 0) 123 0 (S0_.1 13 0 3).toNat 0) hI8_ ) (fun u_ S16_ p19_ => ?_)
  obtain ⟨rfl, v21_, rfl, p19_⟩ := p19_
  have hl44_ := if01 p19_
  rw [hc37_, hbl_] at hl44_
  refine sm_T_b0 (a := 0) (z := 197) rfl (fun c22_ => ?_) (fun c22_ => ?_)
  · have c22_ : v21_ = 0 := of_decide_eq_true c22_
    refine sm_T_go 1 (c1 := (246, [some (.inr (.inr (some (13, 0)))), some (.inl f_), some (.inl (S0_.1 13 0 3)), some (.inl f_), some (.inl v15_), none, none], [.inl v15_], sm_aI (sm_aL (sm_aI (sm_aI S0_ 120 0 (S0_.1 13 0 3).toNat f_) 121 0 (S0_.1 13 0 3).toNat 0) 122 0 (S0_.1 13 0 3).toNat 0) 123 0 (S0_.1 13 0 3).toNat 0)) rfl ?_
    refine sm_T_cal (d1 := 0) (Q1 := vq_284 v15_ (sm_aI (sm_aL (sm_aI (sm_aI S0_ 120 0 (S0_.1 13 0 3).toNat f_) 121 0 (S0_.1 13 0 3).toNat 0) 122 0 (S0_.1 13 0 3).toNat 0) 123 0 (S0_.1 13 0 3).toNat 0)) rfl rfl (by decide) (vc_284 v15_ (sm_aI (sm_aL (sm_aI (sm_aI S0_ 120 0 (S0_.1 13 0 3).toNat f_) 121 0 (S0_.1 13 0 3).toNat 0) 122 0 (S0_.1 13 0 3).toNat 0) 123 0 (S0_.1 13 0 3).toNat 0) hI8_ ) (fun u_ S23_ p26_ => ?_)
    obtain ⟨rfl, v28_, rfl, p26_⟩ := p26_
    have hg246_ := if01 p26_
    rw [hc37_, hbg_] at hg246_
    refine sm_T_b0 (a := 0) (z := 83) rfl (fun c29_ => ?_) (fun c29_ => ?_)
    · have c29_ : v28_ = 0 := of_decide_eq_true c29_
      refine sm_T_go 0 (c1 := (332, [some (.inr (.inr (some (13, 0)))), some (.inl f_), some (.inl (S0_.1 13 0 3)), some (.inl f_), some (.inl v15_), none, none], [], sm_aI (sm_aL (sm_aI (sm_aI S0_ 120 0 (S0_.1 13 0 3).toNat f_) 121 0 (S0_.1 13 0 3).toNat 0) 122 0 (S0_.1 13 0 3).toNat 0) 123 0 (S0_.1 13 0 3).toNat 0)) rfl ?_
      refine (vl_290 f_ b_ n_ p_ t_ S0_ hb_ hn_ hn1_ hp_ hpn_ ht_ ht1_ _).2.2 (S0_.1 13 0 3) f_ v15_ (sm_aI (sm_aL (sm_aI (sm_aI S0_ 120 0 (S0_.1 13 0 3).toNat f_) 121 0 (S0_.1 13 0 3).toNat 0) 122 0 (S0_.1 13 0 3).toNat 0) 123 0 (S0_.1 13 0 3).toNat 0) hI8_ hF9_ ⟨?_, ?_, ?_, ?_, trivial⟩ (Nat.lt_succ_self _)
      · exact ⟨ht_, hp_, hc37_⟩
      · exact ⟨by omega, by omega⟩
      · (try simp only [rd_eq, rd_ne, rf_eq, rf_nk, rf_nt, rd_fa, rd_af, rd_fl, rd_al, rd_lf, rd_la, rd_leq, rd_lne, rd_fr, rd_ar, ne_eq, Nat.reduceEqDiff, not_false_eq_true])
        simp only [ett_, if_true, reduceIte]
        exact hp_
      · intro j_ hj_
        (try simp only [rd_eq, rd_ne, rf_eq, rf_nk, rf_nt, rd_fa, rd_af, rd_fl, rd_al, rd_lf, rd_la, rd_leq, rd_lne, rd_fr, rd_ar, ne_eq, Nat.reduceEqDiff, not_false_eq_true])
        simp only [ett_, if_neg hj_]
        exact ⟨trivial, trivial, trivial, trivial, trivial⟩
    · have c29_ : ¬ (v28_ = 0) := of_decide_eq_false c29_
      refine sm_T_go 0 (c1 := (252, [some (.inr (.inr (some (13, 0)))), some (.inl f_), some (.inl (S0_.1 13 0 3)), some (.inl f_), some (.inl v15_), none, none], [], sm_aI (sm_aL (sm_aI (sm_aI S0_ 120 0 (S0_.1 13 0 3).toNat f_) 121 0 (S0_.1 13 0 3).toNat 0) 122 0 (S0_.1 13 0 3).toNat 0) 123 0 (S0_.1 13 0 3).toNat 0)) rfl ?_
      refine (vl_290 f_ b_ n_ p_ t_ S0_ hb_ hn_ hn1_ hp_ hpn_ ht_ ht1_ _).2.1 (S0_.1 13 0 3) f_ v15_ (sm_aI (sm_aL (sm_aI (sm_aI S0_ 120 0 (S0_.1 13 0 3).toNat f_) 121 0 (S0_.1 13 0 3).toNat 0) 122 0 (S0_.1 13 0 3).toNat 0) 123 0 (S0_.1 13 0 3).toNat 0) hI8_ hF9_ ⟨?_, ?_, ?_, ?_, ?_, trivial⟩ (Nat.lt_succ_self _)
      · exact ⟨ht_, by omega, by omega⟩
      · exact ⟨0, by omega, by omega, rfl, fun j_ hj_ => absurd hj_ (Nat.not_lt_zero _)⟩
      · rw [show (f_ - p_).toNat = 0 by omega]
        (try simp only [rd_eq, rd_ne, rf_eq, rf_nk, rf_nt, rd_fa, rd_af, rd_fl, rd_al, rd_lf, rd_la, rd_leq, rd_lne, rd_fr, rd_ar, ne_eq, Nat.reduceEqDiff, not_false_eq_true])
        simp only [ett_, if_true, reduceIte]
        rfl
      · (try simp only [rd_eq, rd_ne, rf_eq, rf_nk, rf_nt, rd_fa, rd_af, rd_fl, rd_al, rd_lf, rd_la, rd_leq, rd_lne, rd_fr, rd_ar, ne_eq, Nat.reduceEqDiff, not_false_eq_true])
        simp only [ett_, if_true, reduceIte]
        exact hp_
      · intro j_ hj_
        (try simp only [rd_eq, rd_ne, rf_eq, rf_nk, rf_nt, rd_fa, rd_af, rd_fl, rd_al, rd_lf, rd_la, rd_leq, rd_lne, rd_fr, rd_ar, ne_eq, Nat.reduceEqDiff, not_false_eq_true])
        simp only [ett_, if_neg hj_]
        exact ⟨trivial, trivial, trivial, trivial, trivial⟩
  · have c22_ : ¬ (v21_ = 0) := of_decide_eq_false c22_
    refine sm_T_go 0 (c1 := (50, [some (.inr (.inr (some (13, 0)))), some (.inl f_), some (.inl (S0_.1 13 0 3)), some (.inl f_), some (.inl v15_), none, none], [], sm_aI (sm_aL (sm_aI (sm_aI S0_ 120 0 (S0_.1 13 0 3).toNat f_) 121 0 (S0_.1 13 0 3).toNat 0) 122 0 (S0_.1 13 0 3).toNat 0) 123 0 (S0_.1 13 0 3).toNat 0)) rfl ?_
    refine (vl_290 f_ b_ n_ p_ t_ S0_ hb_ hn_ hn1_ hp_ hpn_ ht_ ht1_ _).1 (S0_.1 13 0 3) f_ v15_ (sm_aI (sm_aL (sm_aI (sm_aI S0_ 120 0 (S0_.1 13 0 3).toNat f_) 121 0 (S0_.1 13 0 3).toNat 0) 122 0 (S0_.1 13 0 3).toNat 0) 123 0 (S0_.1 13 0 3).toNat 0) hI8_ hF9_ ⟨?_, ?_, ?_, ?_, ?_, trivial⟩ (Nat.lt_succ_self _)
    · exact ⟨ht_, by omega⟩
    · exact ⟨0, by omega, by omega, rfl, fun j_ hj_ => absurd hj_ (Nat.not_lt_zero _)⟩
    · rw [show (f_ - p_).toNat = 0 by omega]
      (try simp only [rd_eq, rd_ne, rf_eq, rf_nk, rf_nt, rd_fa, rd_af, rd_fl, rd_al, rd_lf, rd_la, rd_leq, rd_lne, rd_fr, rd_ar, ne_eq, Nat.reduceEqDiff, not_false_eq_true])
      simp only [ett_, if_true, reduceIte]
      exact ⟨rfl, rfl⟩
    · (try simp only [rd_eq, rd_ne, rf_eq, rf_nk, rf_nt, rd_fa, rd_af, rd_fl, rd_al, rd_lf, rd_la, rd_leq, rd_lne, rd_fr, rd_ar, ne_eq, Nat.reduceEqDiff, not_false_eq_true])
      simp only [ett_, if_true, reduceIte]
      exact ⟨trivial, hp_⟩
    · intro j_ hj_
      (try simp only [rd_eq, rd_ne, rf_eq, rf_nk, rf_nt, rd_fa, rd_af, rd_fl, rd_al, rd_lf, rd_la, rd_leq, rd_lne, rd_fr, rd_ar, ne_eq, Nat.reduceEqDiff, not_false_eq_true])
      simp only [ett_, if_neg hj_]
      exact ⟨trivial, trivial, trivial, trivial, trivial⟩
end
