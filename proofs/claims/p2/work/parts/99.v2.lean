/-! the class: taking tokens; written by wip/p55/gen/vg -/
/-! Text.fail -/
def vw_187 : sx_Wl := ([(10, 6), (10, 7)], [], [])
def vq_187 (code : Int) (place : Int) (S0_ : sm_S) (u_ : Option sm_V) (S1_ : sm_S) : Prop := u_ = none ∧ gi S1_ ∧ ai_fr (sx_W vw_187) S0_ S1_ ∧ (False)
def vx_187 (code : Int) (place : Int) (S0_ : sm_S) (S1_ : sm_S) : Prop := gi S1_ ∧ ai_fr (sx_W vw_187) S0_ S1_ ∧ ((S1_.1 10 0 6) = code ∧ (S1_.1 10 0 7) = place)
theorem vc_187 {sc_ : Nat × (Nat → Int)} (code : Int) (place : Int) (S0_ : sm_S) (hI_ : gi S0_) (h1_ : 0 ≤ code ∧ code ≤ 23) (h2_ : 0 ≤ place ∧ place ≤ 1280) : sm_T (mt_P sc_) 0 187 (0, [some (.inr (.inr (some (10, 0)))), some (.inl code), some (.inl place)], [], S0_) (fun r_ => (∃ u_ S1_, r_ = (.inl u_, S1_, 0) ∧ vq_187 code place S0_ u_ S1_) ∨ ∃ S1_, r_ = (.inr 2, S1_, 1) ∧ vx_187 code place S0_ S1_) := by
  have hF_ : ai_fr (sx_W vw_187) S0_ S0_ := ai_fr_rf
  have hI1_ : gi (sm_pI S0_ 10 0 6 code) := gi_pI hI_ (show 0 ≤ code ∧ code ≤ 23 from ⟨by omega, by omega⟩)
  have hF2_ : ai_fr (sx_W vw_187) S0_ (sm_pI S0_ 10 0 6 code) := ai_fr_tr hF_ (ai_fr_pI rfl)
  have hI3_ : gi (sm_pI (sm_pI S0_ 10 0 6 code) 10 0 7 place) := gi_pI hI1_ (show 0 ≤ place ∧ place ≤ 4095 from ⟨by omega, by omega⟩)
  have hF4_ : ai_fr (sx_W vw_187) S0_ (sm_pI (sm_pI S0_ 10 0 6 code) 10 0 7 place) := ai_fr_tr hF2_ (ai_fr_pI rfl)
  refine sm_T_go 6 (c1 := (10, [some (.inr (.inr (some (10, 0)))), some (.inl code), some (.inl place)], [], sm_pI (sm_pI S0_ 10 0 6 code) 10 0 7 place)) rfl ?_
  refine sm_T_th rfl rfl (Or.inr ⟨_, rfl, hI3_, hF4_, ?_⟩)
  exact ⟨rfl, rfl⟩
/-! Text.advance -/
def vw_191 : sx_Wl := ([(10, 2), (10, 3), (10, 4), (10, 5), (10, 6), (10, 7), (10, 8)], [], [])
def vq_191 (b_ : Nat → Int) (n_ : Nat) (q_ : Nat) (S0_ : sm_S) (u_ : Option sm_V) (S1_ : sm_S) : Prop := u_ = none ∧ gi S1_ ∧ ai_fr (sx_W vw_191) S0_ S1_ ∧ (ct b_ n_ (lx_k b_ n_ q_) S1_)
def vx_191 (b_ : Nat → Int) (n_ : Nat) (q_ : Nat) (S0_ : sm_S) (S1_ : sm_S) : Prop := gi S1_ ∧ ai_fr (sx_W vw_191) S0_ S1_ ∧ (lx_kd b_ n_ (lx_k b_ n_ q_) = -1 ∧ ter S1_ (1, (lx_k b_ n_ q_)))
theorem vc_191 {sc_ : Nat × (Nat → Int)} (b_ : Nat → Int) (n_ : Nat) (q_ : Nat) (S0_ : sm_S) (hI_ : gi S0_) (hb_ : S0_.2.2.1 98 0 = b_) (hn_ : (S0_.1 10 0 1) = (n_ : Int)) (hn1_ : n_ ≤ 1280) (hp_ : (S0_.1 10 0 8) = (q_ : Int)) (hpn_ : q_ ≤ n_) : sm_T (mt_P sc_) 1 191 (0, [some (.inr (.inr (some (10, 0)))), none, none], [], S0_) (fun r_ => (∃ u_ S1_, r_ = (.inl u_, S1_, 0) ∧ vq_191 b_ n_ q_ S0_ u_ S1_) ∨ ∃ S1_, r_ = (.inr 2, S1_, 1) ∧ vx_191 b_ n_ q_ S0_ S1_) := by
  have hF_ : ai_fr (sx_W vw_191) S0_ S0_ := ai_fr_rf
  refine sm_T_go 1 (c1 := (1, [some (.inr (.inr (some (10, 0)))), none, none], [.inr (.inr (some (10, 0)))], S0_)) rfl ?_
  refine sm_T_cal (d1 := 0) (Q1 := vq_192 b_ n_ q_ S0_) rfl rfl (by decide) (vc_192 b_ n_ q_ S0_ hI_ (by exact hb_) (by exact hn_) (by exact hn1_) (by exact hp_) (by exact hpn_)) (fun u_ S1_ p4_ => ?_)
  obtain ⟨rfl, hI2_, hF3_, p4_⟩ := p4_
  have hF5_ : ai_fr (sx_W vw_191) S0_ S1_ := ai_fr_tr hF_ (fr_le hF3_ rfl)
  have hb2_ : S1_.2.2.1 98 0 = b_ := (fr_arr hF3_ rfl).trans hb_
  have hn2_ : S1_.1 10 0 1 = (n_ : Int) := (hF3_.1 10 0 1 rfl).trans hn_
  have hk_ := p4_
  have hkl_ := lx_k_le (b := b_) hpn_
  have e9_ : S1_.2.2.1 98 0 (S1_.1 10 0 8).toNat = b_ (lx_k b_ n_ q_) := by rw [hb2_, hk_]; rfl
  have b6_ : 0 ≤ S1_.1 10 0 8 ∧ S1_.1 10 0 8 ≤ 1280 := hI2_.1 10 0 8 rfl
  have hI7_ : gi (sm_pI S1_ 10 0 3 (S1_.1 10 0 8)) := gi_pI hI2_ (show 0 ≤ (S1_.1 10 0 8) ∧ (S1_.1 10 0 8) ≤ 1280 from ⟨by omega, by omega⟩)
  have hF8_ : ai_fr (sx_W vw_191) S0_ (sm_pI S1_ 10 0 3 (S1_.1 10 0 8)) := ai_fr_tr hF5_ (ai_fr_pI rfl)
  have hI9_ : gi (sm_pI (sm_pI S1_ 10 0 3 (S1_.1 10 0 8)) 10 0 4 0) := gi_pI hI7_ (show 0 ≤ 0 ∧ 0 ≤ 1280 from ⟨by omega, by omega⟩)
  have hF10_ : ai_fr (sx_W vw_191) S0_ (sm_pI (sm_pI S1_ 10 0 3 (S1_.1 10 0 8)) 10 0 4 0) := ai_fr_tr hF8_ (ai_fr_pI rfl)
  have b11_ : 0 ≤ S1_.1 10 0 1 ∧ S1_.1 10 0 1 ≤ 1280 := hI2_.1 10 0 1 rfl
  refine sm_T_go 11 (c1 := (25, [some (.inr (.inr (some (10, 0)))), none, none], [.inl (S1_.1 10 0 1), .inl (S1_.1 10 0 8)], sm_pI (sm_pI S1_ 10 0 3 (S1_.1 10 0 8)) 10 0 4 0)) rfl ?_
  refine sm_T_br (a := 2) (z := 9) rfl (fun c12_ => ?_) (fun c12_ => ?_)
  · have c12_ : (S1_.1 10 0 8) < (S1_.1 10 0 1) := of_decide_eq_true c12_
    refine sm_T_go 4 (c1 := (42, [some (.inr (.inr (some (10, 0)))), none, none], [.inl (S1_.1 10 0 8), .inr (.inr (some (98, 0)))], sm_pI (sm_pI S1_ 10 0 3 (S1_.1 10 0 8)) 10 0 4 0)) rfl ?_
    refine sm_T_bald (n := 65536) rfl rfl (by omega) (by omega) ?_
    have b13_ : (-128) ≤ S1_.2.2.1 98 0 (S1_.1 10 0 8).toNat ∧ S1_.2.2.1 98 0 (S1_.1 10 0 8).toNat ≤ 127 := hI2_.2 98 0 _
    refine sm_T_go 3 (c1 := (47, [some (.inr (.inr (some (10, 0)))), some (.inl (S1_.2.2.1 98 0 (S1_.1 10 0 8).toNat)), none], [.inl 32, .inl (S1_.2.2.1 98 0 (S1_.1 10 0 8).toNat)], sm_pI (sm_pI S1_ 10 0 3 (S1_.1 10 0 8)) 10 0 4 0)) rfl ?_
    refine sm_T_bin (w := (i_or (S1_.2.2.1 98 0 (S1_.1 10 0 8).toNat) 32)) rfl rfl ?_
    have b14_ := lx_or (x := (S1_.2.2.1 98 0 (S1_.1 10 0 8).toNat)) (by omega) (by omega)
    refine sm_T_go 1 (c1 := (50, [some (.inr (.inr (some (10, 0)))), some (.inl (S1_.2.2.1 98 0 (S1_.1 10 0 8).toNat)), none], [.inl 97, .inl (i_or (S1_.2.2.1 98 0 (S1_.1 10 0 8).toNat) 32)], sm_pI (sm_pI S1_ 10 0 3 (S1_.1 10 0 8)) 10 0 4 0)) rfl ?_
    refine sm_T_br (a := 2) (z := 12) rfl (fun c15_ => ?_) (fun c15_ => ?_)
    · have c15_ : (i_or (S1_.2.2.1 98 0 (S1_.1 10 0 8).toNat) 32) < 97 := of_decide_eq_true c15_
      refine sm_T_go 2 (c1 := (65, [some (.inr (.inr (some (10, 0)))), some (.inl (S1_.2.2.1 98 0 (S1_.1 10 0 8).toNat)), none], [.inl 95, .inl (S1_.2.2.1 98 0 (S1_.1 10 0 8).toNat)], sm_pI (sm_pI S1_ 10 0 3 (S1_.1 10 0 8)) 10 0 4 0)) rfl ?_
      refine sm_T_br (a := 1) (z := 11) rfl (fun c16_ => ?_) (fun c16_ => ?_)
      · have c16_ : (S1_.2.2.1 98 0 (S1_.1 10 0 8).toNat) ≠ 95 := of_decide_eq_true c16_
        refine sm_T_go 2 (c1 := (79, [some (.inr (.inr (some (10, 0)))), some (.inl (S1_.2.2.1 98 0 (S1_.1 10 0 8).toNat)), none], [.inl 48, .inl (S1_.2.2.1 98 0 (S1_.1 10 0 8).toNat)], sm_pI (sm_pI S1_ 10 0 3 (S1_.1 10 0 8)) 10 0 4 0)) rfl ?_
        refine sm_T_br (a := 2) (z := 17) rfl (fun c17_ => ?_) (fun c17_ => ?_)
        · have c17_ : (S1_.2.2.1 98 0 (S1_.1 10 0 8).toNat) < 48 := of_decide_eq_true c17_
          refine sm_T_go 2 (c1 := (98, [some (.inr (.inr (some (10, 0)))), some (.inl (S1_.2.2.1 98 0 (S1_.1 10 0 8).toNat)), none], [.inl (S1_.2.2.1 98 0 (S1_.1 10 0 8).toNat), .inr (.inr (some (10, 0)))], sm_pI (sm_pI S1_ 10 0 3 (S1_.1 10 0 8)) 10 0 4 0)) rfl ?_
          refine sm_T_cal (d1 := 0) (Q1 := vq_195 (S1_.2.2.1 98 0 (S1_.1 10 0 8).toNat) b_ n_ (lx_k b_ n_ q_) (sm_pI (sm_pI S1_ 10 0 3 (S1_.1 10 0 8)) 10 0 4 0)) rfl rfl (by decide) (vc_195 (S1_.2.2.1 98 0 (S1_.1 10 0 8).toNat) b_ n_ (lx_k b_ n_ q_) (sm_pI (sm_pI S1_ 10 0 3 (S1_.1 10 0 8)) 10 0 4 0) hI9_ (by exact hb2_) (by exact hn2_) (by exact hn1_) (by exact hk_) (by omega) (by exact e9_)) (fun u_ S18_ p21_ => ?_)
          obtain ⟨v23_, rfl, hI19_, hF20_, p21_⟩ := p21_
          have hF22_ : ai_fr (sx_W vw_191) S0_ S18_ := ai_fr_tr hF10_ (fr_le hF20_ rfl)
          have hb3_ : S18_.2.2.1 98 0 = b_ := (fr_arr hF20_ rfl).trans hb2_
          have hn3_ : S18_.1 10 0 1 = (n_ : Int) := (hF20_.1 10 0 1 rfl).trans hn2_
          have hst_ : S18_.1 10 0 3 = (lx_k b_ n_ q_ : Nat) := (hF20_.1 10 0 3 rfl).trans hk_
          have hr_ := p21_
          have hl_ : ¬ lx_l (b_ (lx_k b_ n_ q_)) := by omega
          have hg_ : ¬ lx_g (b_ (lx_k b_ n_ q_)) := by omega
          have hkd_ : lx_kd b_ n_ (lx_k b_ n_ q_) = if lx_sk b_ n_ (lx_k b_ n_ q_) = 0 then -1 else lx_sk b_ n_ (lx_k b_ n_ q_) := by unfold lx_kd; rw [if_neg (by omega), if_neg hl_, if_neg hg_]
          have hsk_ := lx_sk_b (b := b_) (n := n_) (p := (lx_k b_ n_ q_))
          have hen_ : lx_en b_ n_ (lx_k b_ n_ q_) = lx_sn b_ n_ (lx_k b_ n_ q_) := by unfold lx_en; rw [if_neg (by omega), if_neg hl_, if_neg hg_]
          have hsz_ : lx_sz b_ n_ (lx_k b_ n_ q_) = 0 := by unfold lx_sz; rw [if_neg (by omega), if_neg hl_, if_neg hg_]
          have hzz_ : S18_.1 10 0 4 = 0 := (hF20_.1 10 0 4 rfl).trans rfl
          have hvv_ : lx_kd b_ n_ (lx_k b_ n_ q_) = 2 → S18_.1 10 0 5 = lx_vl b_ n_ (lx_k b_ n_ q_) := by intro h_; rw [hkd_] at h_; split at h_ <;> omega
          refine sm_T_go 2 (c1 := (103, [some (.inr (.inr (some (10, 0)))), some (.inl (S1_.2.2.1 98 0 (S1_.1 10 0 8).toNat)), some (.inl v23_)], [.inl v23_], S18_)) rfl ?_
          refine sm_T_b0 (a := 1) (z := 12) rfl (fun c24_ => ?_) (fun c24_ => ?_)
          · have c24_ : v23_ ≠ 0 := of_decide_eq_true c24_
            refine sm_T_rv rfl (Or.inl ⟨_, _, rfl, rfl, hI19_, hF22_, ?_⟩)
            refine ⟨hb3_, hn3_, hn1_, by omega, ?_, hst_, ?_, ?_, ?_, hvv_⟩
            · rw [hkd_]; split <;> omega
            · rw [hen_]; exact hr_.2.1
            · first | (rw [hkd_, if_pos (by omega)]; exact hr_.2.2.2) | (rw [hkd_, if_pos (by omega)]; exact hr_.2.2.2.1) | (rw [hkd_, if_neg (by omega)]; exact hr_.2.2 (by omega))
            · rw [hsz_]; first | exact hr_.2.2.1 | exact hzz_
          · have c24_ : ¬ (v23_ ≠ 0) := of_decide_eq_false c24_
            have b25_ : 0 ≤ S18_.1 10 0 3 ∧ S18_.1 10 0 3 ≤ 1280 := hI19_.1 10 0 3 rfl
            refine sm_T_go 4 (c1 := (112, [some (.inr (.inr (some (10, 0)))), some (.inl (S1_.2.2.1 98 0 (S1_.1 10 0 8).toNat)), some (.inl v23_)], [.inl (S18_.1 10 0 3), .inl 1, .inr (.inr (some (10, 0)))], S18_)) rfl ?_
            refine sm_T_calx (d1 := 0) (Q1 := vq_187 1 (S18_.1 10 0 3) S18_) (Q2 := vx_187 1 (S18_.1 10 0 3) S18_) rfl rfl (by decide) (vc_187 1 (S18_.1 10 0 3) S18_ hI19_ (by decide) (by omega)) rfl (fun S26_ p29_ => ?_) (fun u_ S26_ p29_ => ?_)
            · obtain ⟨hI27_, hF28_, p29_⟩ := p29_
              refine Or.inr ⟨_, rfl, hI27_, ai_fr_tr hF22_ (fr_le hF28_ rfl), ?_⟩
              refine ⟨?_, p29_.1, p29_.2.trans hst_⟩
              rw [hkd_]; first | (rw [if_neg (by omega)]) | (rw [if_pos (by omega)])
            · exact (p29_.2.2.2).elim
        · have c17_ : ¬ ((S1_.2.2.1 98 0 (S1_.1 10 0 8).toNat) < 48) := of_decide_eq_false c17_
          refine sm_T_go 2 (c1 := (85, [some (.inr (.inr (some (10, 0)))), some (.inl (S1_.2.2.1 98 0 (S1_.1 10 0 8).toNat)), none], [.inl 57, .inl (S1_.2.2.1 98 0 (S1_.1 10 0 8).toNat)], sm_pI (sm_pI S1_ 10 0 3 (S1_.1 10 0 8)) 10 0 4 0)) rfl ?_
          refine sm_T_br (a := 4) (z := 11) rfl (fun c31_ => ?_) (fun c31_ => ?_)
          · have c31_ : 57 < (S1_.2.2.1 98 0 (S1_.1 10 0 8).toNat) := of_decide_eq_true c31_
            refine sm_T_go 2 (c1 := (98, [some (.inr (.inr (some (10, 0)))), some (.inl (S1_.2.2.1 98 0 (S1_.1 10 0 8).toNat)), none], [.inl (S1_.2.2.1 98 0 (S1_.1 10 0 8).toNat), .inr (.inr (some (10, 0)))], sm_pI (sm_pI S1_ 10 0 3 (S1_.1 10 0 8)) 10 0 4 0)) rfl ?_
            refine sm_T_cal (d1 := 0) (Q1 := vq_195 (S1_.2.2.1 98 0 (S1_.1 10 0 8).toNat) b_ n_ (lx_k b_ n_ q_) (sm_pI (sm_pI S1_ 10 0 3 (S1_.1 10 0 8)) 10 0 4 0)) rfl rfl (by decide) (vc_195 (S1_.2.2.1 98 0 (S1_.1 10 0 8).toNat) b_ n_ (lx_k b_ n_ q_) (sm_pI (sm_pI S1_ 10 0 3 (S1_.1 10 0 8)) 10 0 4 0) hI9_ (by exact hb2_) (by exact hn2_) (by exact hn1_) (by exact hk_) (by omega) (by exact e9_)) (fun u_ S32_ p35_ => ?_)
            obtain ⟨v37_, rfl, hI33_, hF34_, p35_⟩ := p35_
            have hF36_ : ai_fr (sx_W vw_191) S0_ S32_ := ai_fr_tr hF10_ (fr_le hF34_ rfl)
            have hb3_ : S32_.2.2.1 98 0 = b_ := (fr_arr hF34_ rfl).trans hb2_
            have hn3_ : S32_.1 10 0 1 = (n_ : Int) := (hF34_.1 10 0 1 rfl).trans hn2_
            have hst_ : S32_.1 10 0 3 = (lx_k b_ n_ q_ : Nat) := (hF34_.1 10 0 3 rfl).trans hk_
            have hr_ := p35_
            have hl_ : ¬ lx_l (b_ (lx_k b_ n_ q_)) := by omega
            have hg_ : ¬ lx_g (b_ (lx_k b_ n_ q_)) := by omega
            have hkd_ : lx_kd b_ n_ (lx_k b_ n_ q_) = if lx_sk b_ n_ (lx_k b_ n_ q_) = 0 then -1 else lx_sk b_ n_ (lx_k b_ n_ q_) := by unfold lx_kd; rw [if_neg (by omega), if_neg hl_, if_neg hg_]
            have hsk_ := lx_sk_b (b := b_) (n := n_) (p := (lx_k b_ n_ q_))
            have hen_ : lx_en b_ n_ (lx_k b_ n_ q_) = lx_sn b_ n_ (lx_k b_ n_ q_) := by unfold lx_en; rw [if_neg (by omega), if_neg hl_, if_neg hg_]
            have hsz_ : lx_sz b_ n_ (lx_k b_ n_ q_) = 0 := by unfold lx_sz; rw [if_neg (by omega), if_neg hl_, if_neg hg_]
            have hzz_ : S32_.1 10 0 4 = 0 := (hF34_.1 10 0 4 rfl).trans rfl
            have hvv_ : lx_kd b_ n_ (lx_k b_ n_ q_) = 2 → S32_.1 10 0 5 = lx_vl b_ n_ (lx_k b_ n_ q_) := by intro h_; rw [hkd_] at h_; split at h_ <;> omega
            refine sm_T_go 2 (c1 := (103, [some (.inr (.inr (some (10, 0)))), some (.inl (S1_.2.2.1 98 0 (S1_.1 10 0 8).toNat)), some (.inl v37_)], [.inl v37_], S32_)) rfl ?_
            refine sm_T_b0 (a := 1) (z := 12) rfl (fun c38_ => ?_) (fun c38_ => ?_)
            · have c38_ : v37_ ≠ 0 := of_decide_eq_true c38_
              refine sm_T_rv rfl (Or.inl ⟨_, _, rfl, rfl, hI33_, hF36_, ?_⟩)
              refine ⟨hb3_, hn3_, hn1_, by omega, ?_, hst_, ?_, ?_, ?_, hvv_⟩
              · rw [hkd_]; split <;> omega
              · rw [hen_]; exact hr_.2.1
              · first | (rw [hkd_, if_pos (by omega)]; exact hr_.2.2.2) | (rw [hkd_, if_pos (by omega)]; exact hr_.2.2.2.1) | (rw [hkd_, if_neg (by omega)]; exact hr_.2.2 (by omega))
              · rw [hsz_]; first | exact hr_.2.2.1 | exact hzz_
            · have c38_ : ¬ (v37_ ≠ 0) := of_decide_eq_false c38_
              have b39_ : 0 ≤ S32_.1 10 0 3 ∧ S32_.1 10 0 3 ≤ 1280 := hI33_.1 10 0 3 rfl
              refine sm_T_go 4 (c1 := (112, [some (.inr (.inr (some (10, 0)))), some (.inl (S1_.2.2.1 98 0 (S1_.1 10 0 8).toNat)), some (.inl v37_)], [.inl (S32_.1 10 0 3), .inl 1, .inr (.inr (some (10, 0)))], S32_)) rfl ?_
              refine sm_T_calx (d1 := 0) (Q1 := vq_187 1 (S32_.1 10 0 3) S32_) (Q2 := vx_187 1 (S32_.1 10 0 3) S32_) rfl rfl (by decide) (vc_187 1 (S32_.1 10 0 3) S32_ hI33_ (by decide) (by omega)) rfl (fun S40_ p43_ => ?_) (fun u_ S40_ p43_ => ?_)
              · obtain ⟨hI41_, hF42_, p43_⟩ := p43_
                refine Or.inr ⟨_, rfl, hI41_, ai_fr_tr hF36_ (fr_le hF42_ rfl), ?_⟩
                refine ⟨?_, p43_.1, p43_.2.trans hst_⟩
                rw [hkd_]; first | (rw [if_neg (by omega)]) | (rw [if_pos (by omega)])
              · exact (p43_.2.2.2).elim
          · have c31_ : ¬ (57 < (S1_.2.2.1 98 0 (S1_.1 10 0 8).toNat)) := of_decide_eq_false c31_
            refine sm_T_go 1 (c1 := (89, [some (.inr (.inr (some (10, 0)))), some (.inl (S1_.2.2.1 98 0 (S1_.1 10 0 8).toNat)), none], [.inr (.inr (some (10, 0)))], sm_pI (sm_pI S1_ 10 0 3 (S1_.1 10 0 8)) 10 0 4 0)) rfl ?_
            refine sm_T_cal (d1 := 0) (Q1 := vq_194 b_ n_ (lx_k b_ n_ q_) (sm_pI (sm_pI S1_ 10 0 3 (S1_.1 10 0 8)) 10 0 4 0)) rfl rfl (by decide) (vc_194 b_ n_ (lx_k b_ n_ q_) (sm_pI (sm_pI S1_ 10 0 3 (S1_.1 10 0 8)) 10 0 4 0) hI9_ (by exact hb2_) (by exact hn2_) (by exact hn1_) (by exact hk_) (by omega) (by rfl)) (fun u_ S45_ p48_ => ?_)
            obtain ⟨v50_, rfl, hI46_, hF47_, p48_⟩ := p48_
            have hF49_ : ai_fr (sx_W vw_191) S0_ S45_ := ai_fr_tr hF10_ (fr_le hF47_ rfl)
            have hb3_ : S45_.2.2.1 98 0 = b_ := (fr_arr hF47_ rfl).trans hb2_
            have hn3_ : S45_.1 10 0 1 = (n_ : Int) := (hF47_.1 10 0 1 rfl).trans hn2_
            have hst_ : S45_.1 10 0 3 = (lx_k b_ n_ q_ : Nat) := (hF47_.1 10 0 3 rfl).trans hk_
            have hr_ := p48_
            have hl_ : ¬ lx_l (b_ (lx_k b_ n_ q_)) := by omega
            have hg_ : lx_g (b_ (lx_k b_ n_ q_)) := by omega
            have hkd_ : lx_kd b_ n_ (lx_k b_ n_ q_) = if lx_de b_ n_ (lx_k b_ n_ q_) - (lx_k b_ n_ q_) ≤ 6 then 2 else -1 := by unfold lx_kd; rw [if_neg (by omega), if_neg hl_, if_pos hg_]
            have hen_ : lx_en b_ n_ (lx_k b_ n_ q_) = lx_de b_ n_ (lx_k b_ n_ q_) := by unfold lx_en; rw [if_neg (by omega), if_neg hl_, if_pos hg_]
            have hsz_ : lx_sz b_ n_ (lx_k b_ n_ q_) = lx_de b_ n_ (lx_k b_ n_ q_) - (lx_k b_ n_ q_) := by unfold lx_sz; rw [if_neg (by omega), if_neg hl_, if_pos hg_]
            have hvv_ : lx_kd b_ n_ (lx_k b_ n_ q_) = 2 → S45_.1 10 0 5 = lx_vl b_ n_ (lx_k b_ n_ q_) := fun _ => hr_.2.2.2.2
            refine sm_T_go 3 (c1 := (103, [some (.inr (.inr (some (10, 0)))), some (.inl (S1_.2.2.1 98 0 (S1_.1 10 0 8).toNat)), some (.inl v50_)], [.inl v50_], S45_)) rfl ?_
            refine sm_T_b0 (a := 1) (z := 12) rfl (fun c51_ => ?_) (fun c51_ => ?_)
            · have c51_ : v50_ ≠ 0 := of_decide_eq_true c51_
              refine sm_T_rv rfl (Or.inl ⟨_, _, rfl, rfl, hI46_, hF49_, ?_⟩)
              refine ⟨hb3_, hn3_, hn1_, by omega, ?_, hst_, ?_, ?_, ?_, hvv_⟩
              · rw [hkd_]; split <;> omega
              · rw [hen_]; exact hr_.2.1
              · first | (rw [hkd_, if_pos (by omega)]; exact hr_.2.2.2) | (rw [hkd_, if_pos (by omega)]; exact hr_.2.2.2.1) | (rw [hkd_, if_neg (by omega)]; exact hr_.2.2 (by omega))
              · rw [hsz_]; first | exact hr_.2.2.1 | exact hzz_
            · have c51_ : ¬ (v50_ ≠ 0) := of_decide_eq_false c51_
              have b52_ : 0 ≤ S45_.1 10 0 3 ∧ S45_.1 10 0 3 ≤ 1280 := hI46_.1 10 0 3 rfl
              refine sm_T_go 4 (c1 := (112, [some (.inr (.inr (some (10, 0)))), some (.inl (S1_.2.2.1 98 0 (S1_.1 10 0 8).toNat)), some (.inl v50_)], [.inl (S45_.1 10 0 3), .inl 1, .inr (.inr (some (10, 0)))], S45_)) rfl ?_
              refine sm_T_calx (d1 := 0) (Q1 := vq_187 1 (S45_.1 10 0 3) S45_) (Q2 := vx_187 1 (S45_.1 10 0 3) S45_) rfl rfl (by decide) (vc_187 1 (S45_.1 10 0 3) S45_ hI46_ (by decide) (by omega)) rfl (fun S53_ p56_ => ?_) (fun u_ S53_ p56_ => ?_)
              · obtain ⟨hI54_, hF55_, p56_⟩ := p56_
                refine Or.inr ⟨_, rfl, hI54_, ai_fr_tr hF49_ (fr_le hF55_ rfl), ?_⟩
                refine ⟨?_, p56_.1, p56_.2.trans hst_⟩
                rw [hkd_]; first | (rw [if_neg (by omega)]) | (rw [if_pos (by omega)])
              · exact (p56_.2.2.2).elim
      · have c16_ : ¬ ((S1_.2.2.1 98 0 (S1_.1 10 0 8).toNat) ≠ 95) := of_decide_eq_false c16_
        refine sm_T_go 1 (c1 := (69, [some (.inr (.inr (some (10, 0)))), some (.inl (S1_.2.2.1 98 0 (S1_.1 10 0 8).toNat)), none], [.inr (.inr (some (10, 0)))], sm_pI (sm_pI S1_ 10 0 3 (S1_.1 10 0 8)) 10 0 4 0)) rfl ?_
        refine sm_T_cal (d1 := 0) (Q1 := vq_193 b_ n_ (lx_k b_ n_ q_) (sm_pI (sm_pI S1_ 10 0 3 (S1_.1 10 0 8)) 10 0 4 0)) rfl rfl (by decide) (vc_193 b_ n_ (lx_k b_ n_ q_) (sm_pI (sm_pI S1_ 10 0 3 (S1_.1 10 0 8)) 10 0 4 0) hI9_ (by exact hb2_) (by exact hn2_) (by exact hn1_) (by exact hk_) (by omega) (by rfl)) (fun u_ S58_ p61_ => ?_)
        obtain ⟨v63_, rfl, hI59_, hF60_, p61_⟩ := p61_
        have hF62_ : ai_fr (sx_W vw_191) S0_ S58_ := ai_fr_tr hF10_ (fr_le hF60_ rfl)
        have hb3_ : S58_.2.2.1 98 0 = b_ := (fr_arr hF60_ rfl).trans hb2_
        have hn3_ : S58_.1 10 0 1 = (n_ : Int) := (hF60_.1 10 0 1 rfl).trans hn2_
        have hst_ : S58_.1 10 0 3 = (lx_k b_ n_ q_ : Nat) := (hF60_.1 10 0 3 rfl).trans hk_
        have hr_ := p61_
        have hl_ : lx_l (b_ (lx_k b_ n_ q_)) := by omega
        have hw_ := lx_wk_7 (lx_pk b_ (lx_k b_ n_ q_) (lx_ne b_ n_ (lx_k b_ n_ q_) - (lx_k b_ n_ q_)))
        have hkd_ : lx_kd b_ n_ (lx_k b_ n_ q_) = if lx_ne b_ n_ (lx_k b_ n_ q_) - (lx_k b_ n_ q_) ≤ 12 then lx_wk (lx_pk b_ (lx_k b_ n_ q_) (lx_ne b_ n_ (lx_k b_ n_ q_) - (lx_k b_ n_ q_))) 7 else -1 := by unfold lx_kd; rw [if_neg (by omega), if_pos hl_]
        have hen_ : lx_en b_ n_ (lx_k b_ n_ q_) = lx_ne b_ n_ (lx_k b_ n_ q_) := by unfold lx_en; rw [if_neg (by omega), if_pos hl_]
        have hsz_ : lx_sz b_ n_ (lx_k b_ n_ q_) = lx_ne b_ n_ (lx_k b_ n_ q_) - (lx_k b_ n_ q_) := by unfold lx_sz; rw [if_neg (by omega), if_pos hl_]
        have hvv_ : lx_kd b_ n_ (lx_k b_ n_ q_) = 2 → S58_.1 10 0 5 = lx_vl b_ n_ (lx_k b_ n_ q_) := by intro h_; rw [hkd_] at h_; split at h_ <;> omega
        refine sm_T_go 3 (c1 := (103, [some (.inr (.inr (some (10, 0)))), some (.inl (S1_.2.2.1 98 0 (S1_.1 10 0 8).toNat)), some (.inl v63_)], [.inl v63_], S58_)) rfl ?_
        refine sm_T_b0 (a := 1) (z := 12) rfl (fun c64_ => ?_) (fun c64_ => ?_)
        · have c64_ : v63_ ≠ 0 := of_decide_eq_true c64_
          refine sm_T_rv rfl (Or.inl ⟨_, _, rfl, rfl, hI59_, hF62_, ?_⟩)
          refine ⟨hb3_, hn3_, hn1_, by omega, ?_, hst_, ?_, ?_, ?_, hvv_⟩
          · rw [hkd_]; split <;> omega
          · rw [hen_]; exact hr_.2.1
          · first | (rw [hkd_, if_pos (by omega)]; exact hr_.2.2.2) | (rw [hkd_, if_pos (by omega)]; exact hr_.2.2.2.1) | (rw [hkd_, if_neg (by omega)]; exact hr_.2.2 (by omega))
          · rw [hsz_]; first | exact hr_.2.2.1 | exact hzz_
        · have c64_ : ¬ (v63_ ≠ 0) := of_decide_eq_false c64_
          have b65_ : 0 ≤ S58_.1 10 0 3 ∧ S58_.1 10 0 3 ≤ 1280 := hI59_.1 10 0 3 rfl
          refine sm_T_go 4 (c1 := (112, [some (.inr (.inr (some (10, 0)))), some (.inl (S1_.2.2.1 98 0 (S1_.1 10 0 8).toNat)), some (.inl v63_)], [.inl (S58_.1 10 0 3), .inl 1, .inr (.inr (some (10, 0)))], S58_)) rfl ?_
          refine sm_T_calx (d1 := 0) (Q1 := vq_187 1 (S58_.1 10 0 3) S58_) (Q2 := vx_187 1 (S58_.1 10 0 3) S58_) rfl rfl (by decide) (vc_187 1 (S58_.1 10 0 3) S58_ hI59_ (by decide) (by omega)) rfl (fun S66_ p69_ => ?_) (fun u_ S66_ p69_ => ?_)
          · obtain ⟨hI67_, hF68_, p69_⟩ := p69_
            refine Or.inr ⟨_, rfl, hI67_, ai_fr_tr hF62_ (fr_le hF68_ rfl), ?_⟩
            refine ⟨?_, p69_.1, p69_.2.trans hst_⟩
            rw [hkd_]; first | (rw [if_neg (by omega)]) | (rw [if_pos (by omega)])
          · exact (p69_.2.2.2).elim
    · have c15_ : ¬ ((i_or (S1_.2.2.1 98 0 (S1_.1 10 0 8).toNat) 32) < 97) := of_decide_eq_false c15_
      refine sm_T_go 2 (c1 := (56, [some (.inr (.inr (some (10, 0)))), some (.inl (S1_.2.2.1 98 0 (S1_.1 10 0 8).toNat)), none], [.inl 32, .inl (S1_.2.2.1 98 0 (S1_.1 10 0 8).toNat)], sm_pI (sm_pI S1_ 10 0 3 (S1_.1 10 0 8)) 10 0 4 0)) rfl ?_
      refine sm_T_bin (w := (i_or (S1_.2.2.1 98 0 (S1_.1 10 0 8).toNat) 32)) rfl rfl ?_
      have b71_ := lx_or (x := (S1_.2.2.1 98 0 (S1_.1 10 0 8).toNat)) (by omega) (by omega)
      refine sm_T_go 1 (c1 := (59, [some (.inr (.inr (some (10, 0)))), some (.inl (S1_.2.2.1 98 0 (S1_.1 10 0 8).toNat)), none], [.inl 122, .inl (i_or (S1_.2.2.1 98 0 (S1_.1 10 0 8).toNat) 32)], sm_pI (sm_pI S1_ 10 0 3 (S1_.1 10 0 8)) 10 0 4 0)) rfl ?_
      refine sm_T_br (a := 5) (z := 9) rfl (fun c72_ => ?_) (fun c72_ => ?_)
      · have c72_ : (i_or (S1_.2.2.1 98 0 (S1_.1 10 0 8).toNat) 32) ≤ 122 := of_decide_eq_true c72_
        refine sm_T_go 1 (c1 := (69, [some (.inr (.inr (some (10, 0)))), some (.inl (S1_.2.2.1 98 0 (S1_.1 10 0 8).toNat)), none], [.inr (.inr (some (10, 0)))], sm_pI (sm_pI S1_ 10 0 3 (S1_.1 10 0 8)) 10 0 4 0)) rfl ?_
        refine sm_T_cal (d1 := 0) (Q1 := vq_193 b_ n_ (lx_k b_ n_ q_) (sm_pI (sm_pI S1_ 10 0 3 (S1_.1 10 0 8)) 10 0 4 0)) rfl rfl (by decide) (vc_193 b_ n_ (lx_k b_ n_ q_) (sm_pI (sm_pI S1_ 10 0 3 (S1_.1 10 0 8)) 10 0 4 0) hI9_ (by exact hb2_) (by exact hn2_) (by exact hn1_) (by exact hk_) (by omega) (by rfl)) (fun u_ S73_ p76_ => ?_)
        obtain ⟨v78_, rfl, hI74_, hF75_, p76_⟩ := p76_
        have hF77_ : ai_fr (sx_W vw_191) S0_ S73_ := ai_fr_tr hF10_ (fr_le hF75_ rfl)
        have hb3_ : S73_.2.2.1 98 0 = b_ := (fr_arr hF75_ rfl).trans hb2_
        have hn3_ : S73_.1 10 0 1 = (n_ : Int) := (hF75_.1 10 0 1 rfl).trans hn2_
        have hst_ : S73_.1 10 0 3 = (lx_k b_ n_ q_ : Nat) := (hF75_.1 10 0 3 rfl).trans hk_
        have hr_ := p76_
        have hl_ : lx_l (b_ (lx_k b_ n_ q_)) := by omega
        have hw_ := lx_wk_7 (lx_pk b_ (lx_k b_ n_ q_) (lx_ne b_ n_ (lx_k b_ n_ q_) - (lx_k b_ n_ q_)))
        have hkd_ : lx_kd b_ n_ (lx_k b_ n_ q_) = if lx_ne b_ n_ (lx_k b_ n_ q_) - (lx_k b_ n_ q_) ≤ 12 then lx_wk (lx_pk b_ (lx_k b_ n_ q_) (lx_ne b_ n_ (lx_k b_ n_ q_) - (lx_k b_ n_ q_))) 7 else -1 := by unfold lx_kd; rw [if_neg (by omega), if_pos hl_]
        have hen_ : lx_en b_ n_ (lx_k b_ n_ q_) = lx_ne b_ n_ (lx_k b_ n_ q_) := by unfold lx_en; rw [if_neg (by omega), if_pos hl_]
        have hsz_ : lx_sz b_ n_ (lx_k b_ n_ q_) = lx_ne b_ n_ (lx_k b_ n_ q_) - (lx_k b_ n_ q_) := by unfold lx_sz; rw [if_neg (by omega), if_pos hl_]
        have hvv_ : lx_kd b_ n_ (lx_k b_ n_ q_) = 2 → S73_.1 10 0 5 = lx_vl b_ n_ (lx_k b_ n_ q_) := by intro h_; rw [hkd_] at h_; split at h_ <;> omega
        refine sm_T_go 3 (c1 := (103, [some (.inr (.inr (some (10, 0)))), some (.inl (S1_.2.2.1 98 0 (S1_.1 10 0 8).toNat)), some (.inl v78_)], [.inl v78_], S73_)) rfl ?_
        refine sm_T_b0 (a := 1) (z := 12) rfl (fun c79_ => ?_) (fun c79_ => ?_)
        · have c79_ : v78_ ≠ 0 := of_decide_eq_true c79_
          refine sm_T_rv rfl (Or.inl ⟨_, _, rfl, rfl, hI74_, hF77_, ?_⟩)
          refine ⟨hb3_, hn3_, hn1_, by omega, ?_, hst_, ?_, ?_, ?_, hvv_⟩
          · rw [hkd_]; split <;> omega
          · rw [hen_]; exact hr_.2.1
          · first | (rw [hkd_, if_pos (by omega)]; exact hr_.2.2.2) | (rw [hkd_, if_pos (by omega)]; exact hr_.2.2.2.1) | (rw [hkd_, if_neg (by omega)]; exact hr_.2.2 (by omega))
          · rw [hsz_]; first | exact hr_.2.2.1 | exact hzz_
        · have c79_ : ¬ (v78_ ≠ 0) := of_decide_eq_false c79_
          have b80_ : 0 ≤ S73_.1 10 0 3 ∧ S73_.1 10 0 3 ≤ 1280 := hI74_.1 10 0 3 rfl
          refine sm_T_go 4 (c1 := (112, [some (.inr (.inr (some (10, 0)))), some (.inl (S1_.2.2.1 98 0 (S1_.1 10 0 8).toNat)), some (.inl v78_)], [.inl (S73_.1 10 0 3), .inl 1, .inr (.inr (some (10, 0)))], S73_)) rfl ?_
          refine sm_T_calx (d1 := 0) (Q1 := vq_187 1 (S73_.1 10 0 3) S73_) (Q2 := vx_187 1 (S73_.1 10 0 3) S73_) rfl rfl (by decide) (vc_187 1 (S73_.1 10 0 3) S73_ hI74_ (by decide) (by omega)) rfl (fun S81_ p84_ => ?_) (fun u_ S81_ p84_ => ?_)
          · obtain ⟨hI82_, hF83_, p84_⟩ := p84_
            refine Or.inr ⟨_, rfl, hI82_, ai_fr_tr hF77_ (fr_le hF83_ rfl), ?_⟩
            refine ⟨?_, p84_.1, p84_.2.trans hst_⟩
            rw [hkd_]; first | (rw [if_neg (by omega)]) | (rw [if_pos (by omega)])
          · exact (p84_.2.2.2).elim
      · have c72_ : ¬ ((i_or (S1_.2.2.1 98 0 (S1_.1 10 0 8).toNat) 32) ≤ 122) := of_decide_eq_false c72_
        refine sm_T_go 2 (c1 := (65, [some (.inr (.inr (some (10, 0)))), some (.inl (S1_.2.2.1 98 0 (S1_.1 10 0 8).toNat)), none], [.inl 95, .inl (S1_.2.2.1 98 0 (S1_.1 10 0 8).toNat)], sm_pI (sm_pI S1_ 10 0 3 (S1_.1 10 0 8)) 10 0 4 0)) rfl ?_
        refine sm_T_br (a := 1) (z := 11) rfl (fun c86_ => ?_) (fun c86_ => ?_)
        · have c86_ : (S1_.2.2.1 98 0 (S1_.1 10 0 8).toNat) ≠ 95 := of_decide_eq_true c86_
          refine sm_T_go 2 (c1 := (79, [some (.inr (.inr (some (10, 0)))), some (.inl (S1_.2.2.1 98 0 (S1_.1 10 0 8).toNat)), none], [.inl 48, .inl (S1_.2.2.1 98 0 (S1_.1 10 0 8).toNat)], sm_pI (sm_pI S1_ 10 0 3 (S1_.1 10 0 8)) 10 0 4 0)) rfl ?_
          refine sm_T_br (a := 2) (z := 17) rfl (fun c87_ => ?_) (fun c87_ => ?_)
          · have c87_ : (S1_.2.2.1 98 0 (S1_.1 10 0 8).toNat) < 48 := of_decide_eq_true c87_
            refine sm_T_go 2 (c1 := (98, [some (.inr (.inr (some (10, 0)))), some (.inl (S1_.2.2.1 98 0 (S1_.1 10 0 8).toNat)), none], [.inl (S1_.2.2.1 98 0 (S1_.1 10 0 8).toNat), .inr (.inr (some (10, 0)))], sm_pI (sm_pI S1_ 10 0 3 (S1_.1 10 0 8)) 10 0 4 0)) rfl ?_
            refine sm_T_cal (d1 := 0) (Q1 := vq_195 (S1_.2.2.1 98 0 (S1_.1 10 0 8).toNat) b_ n_ (lx_k b_ n_ q_) (sm_pI (sm_pI S1_ 10 0 3 (S1_.1 10 0 8)) 10 0 4 0)) rfl rfl (by decide) (vc_195 (S1_.2.2.1 98 0 (S1_.1 10 0 8).toNat) b_ n_ (lx_k b_ n_ q_) (sm_pI (sm_pI S1_ 10 0 3 (S1_.1 10 0 8)) 10 0 4 0) hI9_ (by exact hb2_) (by exact hn2_) (by exact hn1_) (by exact hk_) (by omega) (by exact e9_)) (fun u_ S88_ p91_ => ?_)
            obtain ⟨v93_, rfl, hI89_, hF90_, p91_⟩ := p91_
            have hF92_ : ai_fr (sx_W vw_191) S0_ S88_ := ai_fr_tr hF10_ (fr_le hF90_ rfl)
            have hb3_ : S88_.2.2.1 98 0 = b_ := (fr_arr hF90_ rfl).trans hb2_
            have hn3_ : S88_.1 10 0 1 = (n_ : Int) := (hF90_.1 10 0 1 rfl).trans hn2_
            have hst_ : S88_.1 10 0 3 = (lx_k b_ n_ q_ : Nat) := (hF90_.1 10 0 3 rfl).trans hk_
            have hr_ := p91_
            have hl_ : ¬ lx_l (b_ (lx_k b_ n_ q_)) := by omega
            have hg_ : ¬ lx_g (b_ (lx_k b_ n_ q_)) := by omega
            have hkd_ : lx_kd b_ n_ (lx_k b_ n_ q_) = if lx_sk b_ n_ (lx_k b_ n_ q_) = 0 then -1 else lx_sk b_ n_ (lx_k b_ n_ q_) := by unfold lx_kd; rw [if_neg (by omega), if_neg hl_, if_neg hg_]
            have hsk_ := lx_sk_b (b := b_) (n := n_) (p := (lx_k b_ n_ q_))
            have hen_ : lx_en b_ n_ (lx_k b_ n_ q_) = lx_sn b_ n_ (lx_k b_ n_ q_) := by unfold lx_en; rw [if_neg (by omega), if_neg hl_, if_neg hg_]
            have hsz_ : lx_sz b_ n_ (lx_k b_ n_ q_) = 0 := by unfold lx_sz; rw [if_neg (by omega), if_neg hl_, if_neg hg_]
            have hzz_ : S88_.1 10 0 4 = 0 := (hF90_.1 10 0 4 rfl).trans rfl
            have hvv_ : lx_kd b_ n_ (lx_k b_ n_ q_) = 2 → S88_.1 10 0 5 = lx_vl b_ n_ (lx_k b_ n_ q_) := by intro h_; rw [hkd_] at h_; split at h_ <;> omega
            refine sm_T_go 2 (c1 := (103, [some (.inr (.inr (some (10, 0)))), some (.inl (S1_.2.2.1 98 0 (S1_.1 10 0 8).toNat)), some (.inl v93_)], [.inl v93_], S88_)) rfl ?_
            refine sm_T_b0 (a := 1) (z := 12) rfl (fun c94_ => ?_) (fun c94_ => ?_)
            · have c94_ : v93_ ≠ 0 := of_decide_eq_true c94_
              refine sm_T_rv rfl (Or.inl ⟨_, _, rfl, rfl, hI89_, hF92_, ?_⟩)
              refine ⟨hb3_, hn3_, hn1_, by omega, ?_, hst_, ?_, ?_, ?_, hvv_⟩
              · rw [hkd_]; split <;> omega
              · rw [hen_]; exact hr_.2.1
              · first | (rw [hkd_, if_pos (by omega)]; exact hr_.2.2.2) | (rw [hkd_, if_pos (by omega)]; exact hr_.2.2.2.1) | (rw [hkd_, if_neg (by omega)]; exact hr_.2.2 (by omega))
              · rw [hsz_]; first | exact hr_.2.2.1 | exact hzz_
            · have c94_ : ¬ (v93_ ≠ 0) := of_decide_eq_false c94_
              have b95_ : 0 ≤ S88_.1 10 0 3 ∧ S88_.1 10 0 3 ≤ 1280 := hI89_.1 10 0 3 rfl
              refine sm_T_go 4 (c1 := (112, [some (.inr (.inr (some (10, 0)))), some (.inl (S1_.2.2.1 98 0 (S1_.1 10 0 8).toNat)), some (.inl v93_)], [.inl (S88_.1 10 0 3), .inl 1, .inr (.inr (some (10, 0)))], S88_)) rfl ?_
              refine sm_T_calx (d1 := 0) (Q1 := vq_187 1 (S88_.1 10 0 3) S88_) (Q2 := vx_187 1 (S88_.1 10 0 3) S88_) rfl rfl (by decide) (vc_187 1 (S88_.1 10 0 3) S88_ hI89_ (by decide) (by omega)) rfl (fun S96_ p99_ => ?_) (fun u_ S96_ p99_ => ?_)
              · obtain ⟨hI97_, hF98_, p99_⟩ := p99_
                refine Or.inr ⟨_, rfl, hI97_, ai_fr_tr hF92_ (fr_le hF98_ rfl), ?_⟩
                refine ⟨?_, p99_.1, p99_.2.trans hst_⟩
                rw [hkd_]; first | (rw [if_neg (by omega)]) | (rw [if_pos (by omega)])
              · exact (p99_.2.2.2).elim
          · have c87_ : ¬ ((S1_.2.2.1 98 0 (S1_.1 10 0 8).toNat) < 48) := of_decide_eq_false c87_
            refine sm_T_go 2 (c1 := (85, [some (.inr (.inr (some (10, 0)))), some (.inl (S1_.2.2.1 98 0 (S1_.1 10 0 8).toNat)), none], [.inl 57, .inl (S1_.2.2.1 98 0 (S1_.1 10 0 8).toNat)], sm_pI (sm_pI S1_ 10 0 3 (S1_.1 10 0 8)) 10 0 4 0)) rfl ?_
            refine sm_T_br (a := 4) (z := 11) rfl (fun c101_ => ?_) (fun c101_ => ?_)
            · have c101_ : 57 < (S1_.2.2.1 98 0 (S1_.1 10 0 8).toNat) := of_decide_eq_true c101_
              refine sm_T_go 2 (c1 := (98, [some (.inr (.inr (some (10, 0)))), some (.inl (S1_.2.2.1 98 0 (S1_.1 10 0 8).toNat)), none], [.inl (S1_.2.2.1 98 0 (S1_.1 10 0 8).toNat), .inr (.inr (some (10, 0)))], sm_pI (sm_pI S1_ 10 0 3 (S1_.1 10 0 8)) 10 0 4 0)) rfl ?_
              refine sm_T_cal (d1 := 0) (Q1 := vq_195 (S1_.2.2.1 98 0 (S1_.1 10 0 8).toNat) b_ n_ (lx_k b_ n_ q_) (sm_pI (sm_pI S1_ 10 0 3 (S1_.1 10 0 8)) 10 0 4 0)) rfl rfl (by decide) (vc_195 (S1_.2.2.1 98 0 (S1_.1 10 0 8).toNat) b_ n_ (lx_k b_ n_ q_) (sm_pI (sm_pI S1_ 10 0 3 (S1_.1 10 0 8)) 10 0 4 0) hI9_ (by exact hb2_) (by exact hn2_) (by exact hn1_) (by exact hk_) (by omega) (by exact e9_)) (fun u_ S102_ p105_ => ?_)
              obtain ⟨v107_, rfl, hI103_, hF104_, p105_⟩ := p105_
              have hF106_ : ai_fr (sx_W vw_191) S0_ S102_ := ai_fr_tr hF10_ (fr_le hF104_ rfl)
              have hb3_ : S102_.2.2.1 98 0 = b_ := (fr_arr hF104_ rfl).trans hb2_
              have hn3_ : S102_.1 10 0 1 = (n_ : Int) := (hF104_.1 10 0 1 rfl).trans hn2_
              have hst_ : S102_.1 10 0 3 = (lx_k b_ n_ q_ : Nat) := (hF104_.1 10 0 3 rfl).trans hk_
              have hr_ := p105_
              have hl_ : ¬ lx_l (b_ (lx_k b_ n_ q_)) := by omega
              have hg_ : ¬ lx_g (b_ (lx_k b_ n_ q_)) := by omega
              have hkd_ : lx_kd b_ n_ (lx_k b_ n_ q_) = if lx_sk b_ n_ (lx_k b_ n_ q_) = 0 then -1 else lx_sk b_ n_ (lx_k b_ n_ q_) := by unfold lx_kd; rw [if_neg (by omega), if_neg hl_, if_neg hg_]
              have hsk_ := lx_sk_b (b := b_) (n := n_) (p := (lx_k b_ n_ q_))
              have hen_ : lx_en b_ n_ (lx_k b_ n_ q_) = lx_sn b_ n_ (lx_k b_ n_ q_) := by unfold lx_en; rw [if_neg (by omega), if_neg hl_, if_neg hg_]
              have hsz_ : lx_sz b_ n_ (lx_k b_ n_ q_) = 0 := by unfold lx_sz; rw [if_neg (by omega), if_neg hl_, if_neg hg_]
              have hzz_ : S102_.1 10 0 4 = 0 := (hF104_.1 10 0 4 rfl).trans rfl
              have hvv_ : lx_kd b_ n_ (lx_k b_ n_ q_) = 2 → S102_.1 10 0 5 = lx_vl b_ n_ (lx_k b_ n_ q_) := by intro h_; rw [hkd_] at h_; split at h_ <;> omega
              refine sm_T_go 2 (c1 := (103, [some (.inr (.inr (some (10, 0)))), some (.inl (S1_.2.2.1 98 0 (S1_.1 10 0 8).toNat)), some (.inl v107_)], [.inl v107_], S102_)) rfl ?_
              refine sm_T_b0 (a := 1) (z := 12) rfl (fun c108_ => ?_) (fun c108_ => ?_)
              · have c108_ : v107_ ≠ 0 := of_decide_eq_true c108_
                refine sm_T_rv rfl (Or.inl ⟨_, _, rfl, rfl, hI103_, hF106_, ?_⟩)
                refine ⟨hb3_, hn3_, hn1_, by omega, ?_, hst_, ?_, ?_, ?_, hvv_⟩
                · rw [hkd_]; split <;> omega
                · rw [hen_]; exact hr_.2.1
                · first | (rw [hkd_, if_pos (by omega)]; exact hr_.2.2.2) | (rw [hkd_, if_pos (by omega)]; exact hr_.2.2.2.1) | (rw [hkd_, if_neg (by omega)]; exact hr_.2.2 (by omega))
                · rw [hsz_]; first | exact hr_.2.2.1 | exact hzz_
              · have c108_ : ¬ (v107_ ≠ 0) := of_decide_eq_false c108_
                have b109_ : 0 ≤ S102_.1 10 0 3 ∧ S102_.1 10 0 3 ≤ 1280 := hI103_.1 10 0 3 rfl
                refine sm_T_go 4 (c1 := (112, [some (.inr (.inr (some (10, 0)))), some (.inl (S1_.2.2.1 98 0 (S1_.1 10 0 8).toNat)), some (.inl v107_)], [.inl (S102_.1 10 0 3), .inl 1, .inr (.inr (some (10, 0)))], S102_)) rfl ?_
                refine sm_T_calx (d1 := 0) (Q1 := vq_187 1 (S102_.1 10 0 3) S102_) (Q2 := vx_187 1 (S102_.1 10 0 3) S102_) rfl rfl (by decide) (vc_187 1 (S102_.1 10 0 3) S102_ hI103_ (by decide) (by omega)) rfl (fun S110_ p113_ => ?_) (fun u_ S110_ p113_ => ?_)
                · obtain ⟨hI111_, hF112_, p113_⟩ := p113_
                  refine Or.inr ⟨_, rfl, hI111_, ai_fr_tr hF106_ (fr_le hF112_ rfl), ?_⟩
                  refine ⟨?_, p113_.1, p113_.2.trans hst_⟩
                  rw [hkd_]; first | (rw [if_neg (by omega)]) | (rw [if_pos (by omega)])
                · exact (p113_.2.2.2).elim
            · have c101_ : ¬ (57 < (S1_.2.2.1 98 0 (S1_.1 10 0 8).toNat)) := of_decide_eq_false c101_
              refine sm_T_go 1 (c1 := (89, [some (.inr (.inr (some (10, 0)))), some (.inl (S1_.2.2.1 98 0 (S1_.1 10 0 8).toNat)), none], [.inr (.inr (some (10, 0)))], sm_pI (sm_pI S1_ 10 0 3 (S1_.1 10 0 8)) 10 0 4 0)) rfl ?_
              refine sm_T_cal (d1 := 0) (Q1 := vq_194 b_ n_ (lx_k b_ n_ q_) (sm_pI (sm_pI S1_ 10 0 3 (S1_.1 10 0 8)) 10 0 4 0)) rfl rfl (by decide) (vc_194 b_ n_ (lx_k b_ n_ q_) (sm_pI (sm_pI S1_ 10 0 3 (S1_.1 10 0 8)) 10 0 4 0) hI9_ (by exact hb2_) (by exact hn2_) (by exact hn1_) (by exact hk_) (by omega) (by rfl)) (fun u_ S115_ p118_ => ?_)
              obtain ⟨v120_, rfl, hI116_, hF117_, p118_⟩ := p118_
              have hF119_ : ai_fr (sx_W vw_191) S0_ S115_ := ai_fr_tr hF10_ (fr_le hF117_ rfl)
              have hb3_ : S115_.2.2.1 98 0 = b_ := (fr_arr hF117_ rfl).trans hb2_
              have hn3_ : S115_.1 10 0 1 = (n_ : Int) := (hF117_.1 10 0 1 rfl).trans hn2_
              have hst_ : S115_.1 10 0 3 = (lx_k b_ n_ q_ : Nat) := (hF117_.1 10 0 3 rfl).trans hk_
              have hr_ := p118_
              have hl_ : ¬ lx_l (b_ (lx_k b_ n_ q_)) := by omega
              have hg_ : lx_g (b_ (lx_k b_ n_ q_)) := by omega
              have hkd_ : lx_kd b_ n_ (lx_k b_ n_ q_) = if lx_de b_ n_ (lx_k b_ n_ q_) - (lx_k b_ n_ q_) ≤ 6 then 2 else -1 := by unfold lx_kd; rw [if_neg (by omega), if_neg hl_, if_pos hg_]
              have hen_ : lx_en b_ n_ (lx_k b_ n_ q_) = lx_de b_ n_ (lx_k b_ n_ q_) := by unfold lx_en; rw [if_neg (by omega), if_neg hl_, if_pos hg_]
              have hsz_ : lx_sz b_ n_ (lx_k b_ n_ q_) = lx_de b_ n_ (lx_k b_ n_ q_) - (lx_k b_ n_ q_) := by unfold lx_sz; rw [if_neg (by omega), if_neg hl_, if_pos hg_]
              have hvv_ : lx_kd b_ n_ (lx_k b_ n_ q_) = 2 → S115_.1 10 0 5 = lx_vl b_ n_ (lx_k b_ n_ q_) := fun _ => hr_.2.2.2.2
              refine sm_T_go 3 (c1 := (103, [some (.inr (.inr (some (10, 0)))), some (.inl (S1_.2.2.1 98 0 (S1_.1 10 0 8).toNat)), some (.inl v120_)], [.inl v120_], S115_)) rfl ?_
              refine sm_T_b0 (a := 1) (z := 12) rfl (fun c121_ => ?_) (fun c121_ => ?_)
              · have c121_ : v120_ ≠ 0 := of_decide_eq_true c121_
                refine sm_T_rv rfl (Or.inl ⟨_, _, rfl, rfl, hI116_, hF119_, ?_⟩)
                refine ⟨hb3_, hn3_, hn1_, by omega, ?_, hst_, ?_, ?_, ?_, hvv_⟩
                · rw [hkd_]; split <;> omega
                · rw [hen_]; exact hr_.2.1
                · first | (rw [hkd_, if_pos (by omega)]; exact hr_.2.2.2) | (rw [hkd_, if_pos (by omega)]; exact hr_.2.2.2.1) | (rw [hkd_, if_neg (by omega)]; exact hr_.2.2 (by omega))
                · rw [hsz_]; first | exact hr_.2.2.1 | exact hzz_
              · have c121_ : ¬ (v120_ ≠ 0) := of_decide_eq_false c121_
                have b122_ : 0 ≤ S115_.1 10 0 3 ∧ S115_.1 10 0 3 ≤ 1280 := hI116_.1 10 0 3 rfl
                refine sm_T_go 4 (c1 := (112, [some (.inr (.inr (some (10, 0)))), some (.inl (S1_.2.2.1 98 0 (S1_.1 10 0 8).toNat)), some (.inl v120_)], [.inl (S115_.1 10 0 3), .inl 1, .inr (.inr (some (10, 0)))], S115_)) rfl ?_
                refine sm_T_calx (d1 := 0) (Q1 := vq_187 1 (S115_.1 10 0 3) S115_) (Q2 := vx_187 1 (S115_.1 10 0 3) S115_) rfl rfl (by decide) (vc_187 1 (S115_.1 10 0 3) S115_ hI116_ (by decide) (by omega)) rfl (fun S123_ p126_ => ?_) (fun u_ S123_ p126_ => ?_)
                · obtain ⟨hI124_, hF125_, p126_⟩ := p126_
                  refine Or.inr ⟨_, rfl, hI124_, ai_fr_tr hF119_ (fr_le hF125_ rfl), ?_⟩
                  refine ⟨?_, p126_.1, p126_.2.trans hst_⟩
                  rw [hkd_]; first | (rw [if_neg (by omega)]) | (rw [if_pos (by omega)])
                · exact (p126_.2.2.2).elim
        · have c86_ : ¬ ((S1_.2.2.1 98 0 (S1_.1 10 0 8).toNat) ≠ 95) := of_decide_eq_false c86_
          refine sm_T_go 1 (c1 := (69, [some (.inr (.inr (some (10, 0)))), some (.inl (S1_.2.2.1 98 0 (S1_.1 10 0 8).toNat)), none], [.inr (.inr (some (10, 0)))], sm_pI (sm_pI S1_ 10 0 3 (S1_.1 10 0 8)) 10 0 4 0)) rfl ?_
          refine sm_T_cal (d1 := 0) (Q1 := vq_193 b_ n_ (lx_k b_ n_ q_) (sm_pI (sm_pI S1_ 10 0 3 (S1_.1 10 0 8)) 10 0 4 0)) rfl rfl (by decide) (vc_193 b_ n_ (lx_k b_ n_ q_) (sm_pI (sm_pI S1_ 10 0 3 (S1_.1 10 0 8)) 10 0 4 0) hI9_ (by exact hb2_) (by exact hn2_) (by exact hn1_) (by exact hk_) (by omega) (by rfl)) (fun u_ S128_ p131_ => ?_)
          obtain ⟨v133_, rfl, hI129_, hF130_, p131_⟩ := p131_
          have hF132_ : ai_fr (sx_W vw_191) S0_ S128_ := ai_fr_tr hF10_ (fr_le hF130_ rfl)
          have hb3_ : S128_.2.2.1 98 0 = b_ := (fr_arr hF130_ rfl).trans hb2_
          have hn3_ : S128_.1 10 0 1 = (n_ : Int) := (hF130_.1 10 0 1 rfl).trans hn2_
          have hst_ : S128_.1 10 0 3 = (lx_k b_ n_ q_ : Nat) := (hF130_.1 10 0 3 rfl).trans hk_
          have hr_ := p131_
          have hl_ : lx_l (b_ (lx_k b_ n_ q_)) := by omega
          have hw_ := lx_wk_7 (lx_pk b_ (lx_k b_ n_ q_) (lx_ne b_ n_ (lx_k b_ n_ q_) - (lx_k b_ n_ q_)))
          have hkd_ : lx_kd b_ n_ (lx_k b_ n_ q_) = if lx_ne b_ n_ (lx_k b_ n_ q_) - (lx_k b_ n_ q_) ≤ 12 then lx_wk (lx_pk b_ (lx_k b_ n_ q_) (lx_ne b_ n_ (lx_k b_ n_ q_) - (lx_k b_ n_ q_))) 7 else -1 := by unfold lx_kd; rw [if_neg (by omega), if_pos hl_]
          have hen_ : lx_en b_ n_ (lx_k b_ n_ q_) = lx_ne b_ n_ (lx_k b_ n_ q_) := by unfold lx_en; rw [if_neg (by omega), if_pos hl_]
          have hsz_ : lx_sz b_ n_ (lx_k b_ n_ q_) = lx_ne b_ n_ (lx_k b_ n_ q_) - (lx_k b_ n_ q_) := by unfold lx_sz; rw [if_neg (by omega), if_pos hl_]
          have hvv_ : lx_kd b_ n_ (lx_k b_ n_ q_) = 2 → S128_.1 10 0 5 = lx_vl b_ n_ (lx_k b_ n_ q_) := by intro h_; rw [hkd_] at h_; split at h_ <;> omega
          refine sm_T_go 3 (c1 := (103, [some (.inr (.inr (some (10, 0)))), some (.inl (S1_.2.2.1 98 0 (S1_.1 10 0 8).toNat)), some (.inl v133_)], [.inl v133_], S128_)) rfl ?_
          refine sm_T_b0 (a := 1) (z := 12) rfl (fun c134_ => ?_) (fun c134_ => ?_)
          · have c134_ : v133_ ≠ 0 := of_decide_eq_true c134_
            refine sm_T_rv rfl (Or.inl ⟨_, _, rfl, rfl, hI129_, hF132_, ?_⟩)
            refine ⟨hb3_, hn3_, hn1_, by omega, ?_, hst_, ?_, ?_, ?_, hvv_⟩
            · rw [hkd_]; split <;> omega
            · rw [hen_]; exact hr_.2.1
            · first | (rw [hkd_, if_pos (by omega)]; exact hr_.2.2.2) | (rw [hkd_, if_pos (by omega)]; exact hr_.2.2.2.1) | (rw [hkd_, if_neg (by omega)]; exact hr_.2.2 (by omega))
            · rw [hsz_]; first | exact hr_.2.2.1 | exact hzz_
          · have c134_ : ¬ (v133_ ≠ 0) := of_decide_eq_false c134_
            have b135_ : 0 ≤ S128_.1 10 0 3 ∧ S128_.1 10 0 3 ≤ 1280 := hI129_.1 10 0 3 rfl
            refine sm_T_go 4 (c1 := (112, [some (.inr (.inr (some (10, 0)))), some (.inl (S1_.2.2.1 98 0 (S1_.1 10 0 8).toNat)), some (.inl v133_)], [.inl (S128_.1 10 0 3), .inl 1, .inr (.inr (some (10, 0)))], S128_)) rfl ?_
            refine sm_T_calx (d1 := 0) (Q1 := vq_187 1 (S128_.1 10 0 3) S128_) (Q2 := vx_187 1 (S128_.1 10 0 3) S128_) rfl rfl (by decide) (vc_187 1 (S128_.1 10 0 3) S128_ hI129_ (by decide) (by omega)) rfl (fun S136_ p139_ => ?_) (fun u_ S136_ p139_ => ?_)
            · obtain ⟨hI137_, hF138_, p139_⟩ := p139_
              refine Or.inr ⟨_, rfl, hI137_, ai_fr_tr hF132_ (fr_le hF138_ rfl), ?_⟩
              refine ⟨?_, p139_.1, p139_.2.trans hst_⟩
              rw [hkd_]; first | (rw [if_neg (by omega)]) | (rw [if_pos (by omega)])
            · exact (p139_.2.2.2).elim
  · have c12_ : ¬ ((S1_.1 10 0 8) < (S1_.1 10 0 1)) := of_decide_eq_false c12_
    have hI141_ : gi (sm_pI (sm_pI (sm_pI S1_ 10 0 3 (S1_.1 10 0 8)) 10 0 4 0) 10 0 2 0) := gi_pI hI9_ (show (-128) ≤ 0 ∧ 0 ≤ 257 from ⟨by omega, by omega⟩)
    have hF142_ : ai_fr (sx_W vw_191) S0_ (sm_pI (sm_pI (sm_pI S1_ 10 0 3 (S1_.1 10 0 8)) 10 0 4 0) 10 0 2 0) := ai_fr_tr hF10_ (ai_fr_pI rfl)
    refine sm_T_go 3 (c1 := (33, [some (.inr (.inr (some (10, 0)))), none, none], [], sm_pI (sm_pI (sm_pI S1_ 10 0 3 (S1_.1 10 0 8)) 10 0 4 0) 10 0 2 0)) rfl ?_
    refine sm_T_rv rfl (Or.inl ⟨_, _, rfl, rfl, hI141_, hF142_, ?_⟩)
    refine ⟨hb2_, hn2_, hn1_, by omega, ?_, hk_, ?_, ?_, ?_, ?_⟩
    · unfold lx_kd; rw [if_pos (by omega)]; decide
    · unfold lx_en; rw [if_pos (by omega)]; exact hk_
    · unfold lx_kd; rw [if_pos (by omega)]; rfl
    · unfold lx_sz; rw [if_pos (by omega)]; rfl
    · unfold lx_kd; rw [if_pos (by omega)]; intro h_; omega
/-! Text.need -/
def vw_188 : sx_Wl := ([(10, 2), (10, 3), (10, 4), (10, 5), (10, 6), (10, 7), (10, 8)], [], [])
def vq_188 (w_ : Int) (b_ : Nat → Int) (n_ : Nat) (p_ : Nat) (S0_ : sm_S) (u_ : Option sm_V) (S1_ : sm_S) : Prop := u_ = none ∧ gi S1_ ∧ ai_fr (sx_W vw_188) S0_ S1_ ∧ (∃ r_, p_nd b_ n_ w_ p_ = .inr r_ ∧ ct b_ n_ r_ S1_)
def vx_188 (w_ : Int) (b_ : Nat → Int) (n_ : Nat) (p_ : Nat) (S0_ : sm_S) (S1_ : sm_S) : Prop := gi S1_ ∧ ai_fr (sx_W vw_188) S0_ S1_ ∧ (∃ e_, p_nd b_ n_ w_ p_ = .inl e_ ∧ ter S1_ e_)
theorem vc_188 {sc_ : Nat × (Nat → Int)} (w_ : Int) (b_ : Nat → Int) (n_ : Nat) (p_ : Nat) (S0_ : sm_S) (hI_ : gi S0_) (hc_ : ct b_ n_ p_ S0_) : sm_T (mt_P sc_) 2 188 (0, [some (.inr (.inr (some (10, 0)))), some (.inl w_)], [], S0_) (fun r_ => (∃ u_ S1_, r_ = (.inl u_, S1_, 0) ∧ vq_188 w_ b_ n_ p_ S0_ u_ S1_) ∨ ∃ S1_, r_ = (.inr 2, S1_, 1) ∧ vx_188 w_ b_ n_ p_ S0_ S1_) := by
  have hF_ : ai_fr (sx_W vw_188) S0_ S0_ := ai_fr_rf
  obtain ⟨hb_, hn_, hn1_, hpn_, hk_, hst_, hnx_, hkd_, hsz_, hvl_⟩ := hc_
  have hel_ := lx_en_le (b := b_) hpn_
  have b1_ : (-128) ≤ S0_.1 10 0 2 ∧ S0_.1 10 0 2 ≤ 257 := hI_.1 10 0 2 rfl
  refine sm_T_go 3 (c1 := (5, [some (.inr (.inr (some (10, 0)))), some (.inl w_)], [.inl w_, .inl (S0_.1 10 0 2)], S0_)) rfl ?_
  refine sm_T_br (a := 0) (z := 12) rfl (fun c2_ => ?_) (fun c2_ => ?_)
  · have c2_ : (S0_.1 10 0 2) = w_ := of_decide_eq_true c2_
    refine sm_T_go 1 (c1 := (18, [some (.inr (.inr (some (10, 0)))), some (.inl w_)], [.inr (.inr (some (10, 0)))], S0_)) rfl ?_
    refine sm_T_calx (d1 := 1) (Q1 := vq_191 b_ n_ (lx_en b_ n_ p_) S0_) (Q2 := vx_191 b_ n_ (lx_en b_ n_ p_) S0_) rfl rfl (by decide) (vc_191 b_ n_ (lx_en b_ n_ p_) S0_ hI_ (by exact hb_) (by exact hn_) (by exact hn1_) (by exact hnx_) (by omega)) rfl (fun S3_ p6_ => ?_) (fun u_ S3_ p6_ => ?_)
    · obtain ⟨hI4_, hF5_, p6_⟩ := p6_
      refine Or.inr ⟨_, rfl, hI4_, ai_fr_tr hF_ (fr_le hF5_ rfl), ?_⟩
      refine ⟨(1, lx_nx b_ n_ p_), ?_, p6_.2⟩
      unfold p_nd p_ad lx_nx; rw [if_pos (by omega), if_pos p6_.1]
    obtain ⟨rfl, hI4_, hF5_, p6_⟩ := p6_
    have hF7_ : ai_fr (sx_W vw_188) S0_ S3_ := ai_fr_tr hF_ (fr_le hF5_ rfl)
    have hct_ := p6_
    refine sm_T_rv rfl (Or.inl ⟨_, _, rfl, rfl, hI4_, hF7_, ?_⟩)
    exact ⟨lx_nx b_ n_ p_, by unfold p_nd p_ad lx_nx; rw [if_pos (by omega), if_neg hct_.2.2.2.2.1], hct_⟩
  · have c2_ : ¬ ((S0_.1 10 0 2) = w_) := of_decide_eq_false c2_
    have b8_ : 0 ≤ S0_.1 10 0 3 ∧ S0_.1 10 0 3 ≤ 1280 := hI_.1 10 0 3 rfl
    refine sm_T_go 4 (c1 := (14, [some (.inr (.inr (some (10, 0)))), some (.inl w_)], [.inl (S0_.1 10 0 3), .inl 2, .inr (.inr (some (10, 0)))], S0_)) rfl ?_
    refine sm_T_calx (d1 := 0) (Q1 := vq_187 2 (S0_.1 10 0 3) S0_) (Q2 := vx_187 2 (S0_.1 10 0 3) S0_) rfl rfl (by decide) (vc_187 2 (S0_.1 10 0 3) S0_ hI_ (by decide) (by omega)) rfl (fun S9_ p12_ => ?_) (fun u_ S9_ p12_ => ?_)
    · obtain ⟨hI10_, hF11_, p12_⟩ := p12_
      refine Or.inr ⟨_, rfl, hI10_, ai_fr_tr hF_ (fr_le hF11_ rfl), ?_⟩
      refine ⟨(2, p_), ?_, p12_.1, p12_.2.trans hst_⟩
      unfold p_nd; rw [if_neg (by omega)]
    · exact (p12_.2.2.2).elim
/-! Text.begin -/
def vw_186 : sx_Wl := ([(10, 2), (10, 3), (10, 4), (10, 5), (10, 6), (10, 7), (10, 8)], [], [])
def vq_186 (b_ : Nat → Int) (n_ : Nat) (S0_ : sm_S) (u_ : Option sm_V) (S1_ : sm_S) : Prop := u_ = none ∧ gi S1_ ∧ ai_fr (sx_W vw_186) S0_ S1_ ∧ (ct b_ n_ (lx_k b_ n_ 0) S1_)
def vx_186 (b_ : Nat → Int) (n_ : Nat) (S0_ : sm_S) (S1_ : sm_S) : Prop := gi S1_ ∧ ai_fr (sx_W vw_186) S0_ S1_ ∧ (lx_kd b_ n_ (lx_k b_ n_ 0) = -1 ∧ ter S1_ (1, lx_k b_ n_ 0))
theorem vc_186 {sc_ : Nat × (Nat → Int)} (b_ : Nat → Int) (n_ : Nat) (S0_ : sm_S) (hI_ : gi S0_) (hb_ : S0_.2.2.1 98 0 = b_) (hn_ : (S0_.1 10 0 1) = (n_ : Int)) (hn1_ : n_ ≤ 1280) : sm_T (mt_P sc_) 2 186 (0, [some (.inr (.inr (some (10, 0))))], [], S0_) (fun r_ => (∃ u_ S1_, r_ = (.inl u_, S1_, 0) ∧ vq_186 b_ n_ S0_ u_ S1_) ∨ ∃ S1_, r_ = (.inr 2, S1_, 1) ∧ vx_186 b_ n_ S0_ S1_) := by
  have hF_ : ai_fr (sx_W vw_186) S0_ S0_ := ai_fr_rf
  have hI1_ : gi (sm_pI S0_ 10 0 8 0) := gi_pI hI_ (show 0 ≤ 0 ∧ 0 ≤ 1280 from ⟨by omega, by omega⟩)
  have hF2_ : ai_fr (sx_W vw_186) S0_ (sm_pI S0_ 10 0 8 0) := ai_fr_tr hF_ (ai_fr_pI rfl)
  have hI3_ : gi (sm_pI (sm_pI S0_ 10 0 8 0) 10 0 6 0) := gi_pI hI1_ (show 0 ≤ 0 ∧ 0 ≤ 23 from ⟨by omega, by omega⟩)
  have hF4_ : ai_fr (sx_W vw_186) S0_ (sm_pI (sm_pI S0_ 10 0 8 0) 10 0 6 0) := ai_fr_tr hF2_ (ai_fr_pI rfl)
  have hI5_ : gi (sm_pI (sm_pI (sm_pI S0_ 10 0 8 0) 10 0 6 0) 10 0 7 0) := gi_pI hI3_ (show 0 ≤ 0 ∧ 0 ≤ 4095 from ⟨by omega, by omega⟩)
  have hF6_ : ai_fr (sx_W vw_186) S0_ (sm_pI (sm_pI (sm_pI S0_ 10 0 8 0) 10 0 6 0) 10 0 7 0) := ai_fr_tr hF4_ (ai_fr_pI rfl)
  refine sm_T_go 10 (c1 := (16, [some (.inr (.inr (some (10, 0))))], [.inr (.inr (some (10, 0)))], sm_pI (sm_pI (sm_pI S0_ 10 0 8 0) 10 0 6 0) 10 0 7 0)) rfl ?_
  refine sm_T_calx (d1 := 1) (Q1 := vq_191 b_ n_ 0 (sm_pI (sm_pI (sm_pI S0_ 10 0 8 0) 10 0 6 0) 10 0 7 0)) (Q2 := vx_191 b_ n_ 0 (sm_pI (sm_pI (sm_pI S0_ 10 0 8 0) 10 0 6 0) 10 0 7 0)) rfl rfl (by decide) (vc_191 b_ n_ 0 (sm_pI (sm_pI (sm_pI S0_ 10 0 8 0) 10 0 6 0) 10 0 7 0) hI5_ (by exact hb_) (by exact hn_) (by exact hn1_) (by rfl) (by omega)) rfl (fun S7_ p10_ => ?_) (fun u_ S7_ p10_ => ?_)
  · obtain ⟨hI8_, hF9_, p10_⟩ := p10_
    refine Or.inr ⟨_, rfl, hI8_, ai_fr_tr hF6_ (fr_le hF9_ rfl), ?_⟩
    exact p10_
  obtain ⟨rfl, hI8_, hF9_, p10_⟩ := p10_
  have hF11_ : ai_fr (sx_W vw_186) S0_ S7_ := ai_fr_tr hF6_ (fr_le hF9_ rfl)
  have hct_ := p10_
  refine sm_T_rv rfl (Or.inl ⟨_, _, rfl, rfl, hI8_, hF11_, ?_⟩)
  exact hct_
