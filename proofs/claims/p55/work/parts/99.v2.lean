/-! the class: taking tokens; written by wip/p55/gen/vg -/
/-! Text.fail -/
def vw_187 : sx_Wl := ([(10, 6), (10, 7)], [], [])
def vq_187 (code : Int) (place : Int) (S0 : sm_S) (u : Option sm_V) (S1 : sm_S) : Prop := u = none ∧ gi S1 ∧ ai_fr (sx_W vw_187) S0 S1 ∧ (False)
def vx_187 (code : Int) (place : Int) (S0 : sm_S) (S1 : sm_S) : Prop := gi S1 ∧ ai_fr (sx_W vw_187) S0 S1 ∧ ((S1.1 10 0 6) = code ∧ (S1.1 10 0 7) = place)
theorem vc_187 {sc : Nat × (Nat → Int)} (code : Int) (place : Int) (S0 : sm_S) (hI : gi S0) (h1 : 0 ≤ code ∧ code ≤ 23) (h2 : 0 ≤ place ∧ place ≤ 1280) : sm_T (mt_P sc) 0 187 (0, [some (.inr (.inr (some (10, 0)))), some (.inl code), some (.inl place)], [], S0) (fun r => (∃ u S1, r = (.inl u, S1, 0) ∧ vq_187 code place S0 u S1) ∨ ∃ S1, r = (.inr 2, S1, 1) ∧ vx_187 code place S0 S1) := by
  have hF : ai_fr (sx_W vw_187) S0 S0 := ai_fr_rf
  have hI1 : gi (sm_pI S0 10 0 6 code) := gi_pI hI (show 0 ≤ code ∧ code ≤ 23 from ⟨by omega, by omega⟩)
  have hF2 : ai_fr (sx_W vw_187) S0 (sm_pI S0 10 0 6 code) := ai_fr_tr hF (ai_fr_pI rfl)
  have hI3 : gi (sm_pI (sm_pI S0 10 0 6 code) 10 0 7 place) := gi_pI hI1 (show 0 ≤ place ∧ place ≤ 4095 from ⟨by omega, by omega⟩)
  have hF4 : ai_fr (sx_W vw_187) S0 (sm_pI (sm_pI S0 10 0 6 code) 10 0 7 place) := ai_fr_tr hF2 (ai_fr_pI rfl)
  refine sm_T_go 6 (c1 := (10, [some (.inr (.inr (some (10, 0)))), some (.inl code), some (.inl place)], [], sm_pI (sm_pI S0 10 0 6 code) 10 0 7 place)) rfl ?_
  refine sm_T_th rfl rfl (Or.inr ⟨_, rfl, hI3, hF4, ?_⟩)
  exact ⟨rfl, rfl⟩
/-! Text.advance -/
def vw_191 : sx_Wl := ([(10, 2), (10, 3), (10, 4), (10, 5), (10, 6), (10, 7), (10, 8)], [], [])
def vq_191 (b : Nat → Int) (n : Nat) (q : Nat) (S0 : sm_S) (u : Option sm_V) (S1 : sm_S) : Prop := u = none ∧ gi S1 ∧ ai_fr (sx_W vw_191) S0 S1 ∧ (ct b n (lx_k b n q) S1)
def vx_191 (b : Nat → Int) (n : Nat) (q : Nat) (S0 : sm_S) (S1 : sm_S) : Prop := gi S1 ∧ ai_fr (sx_W vw_191) S0 S1 ∧ (lx_kd b n (lx_k b n q) = -1 ∧ ter S1 (1, (lx_k b n q)))
theorem vc_191 {sc : Nat × (Nat → Int)} (b : Nat → Int) (n : Nat) (q : Nat) (S0 : sm_S) (hI : gi S0) (hb : S0.2.2.1 98 0 = b) (hn : (S0.1 10 0 1) = (n : Int)) (hn1 : n ≤ 1280) (hp : (S0.1 10 0 8) = (q : Int)) (hpn : q ≤ n) : sm_T (mt_P sc) 1 191 (0, [some (.inr (.inr (some (10, 0)))), none, none], [], S0) (fun r => (∃ u S1, r = (.inl u, S1, 0) ∧ vq_191 b n q S0 u S1) ∨ ∃ S1, r = (.inr 2, S1, 1) ∧ vx_191 b n q S0 S1) := by
  have hF : ai_fr (sx_W vw_191) S0 S0 := ai_fr_rf
  refine sm_T_go 1 (c1 := (1, [some (.inr (.inr (some (10, 0)))), none, none], [.inr (.inr (some (10, 0)))], S0)) rfl ?_
  refine sm_T_cal (d1 := 0) (Q1 := vq_192 b n q S0) rfl rfl (by decide) (vc_192 b n q S0 hI (by exact hb) (by exact hn) (by exact hn1) (by exact hp) (by exact hpn)) (fun u S1 p4 => ?_)
  obtain ⟨rfl, hI2, hF3, p4⟩ := p4
  have hF5 : ai_fr (sx_W vw_191) S0 S1 := ai_fr_tr hF (fr_le hF3 rfl)
  have hb2 : S1.2.2.1 98 0 = b := (fr_arr hF3 rfl).trans hb
  have hn2 : S1.1 10 0 1 = (n : Int) := (hF3.1 10 0 1 rfl).trans hn
  have hk := p4
  have hkl := lx_k_le (b := b) hpn
  have e9 : S1.2.2.1 98 0 (S1.1 10 0 8).toNat = b (lx_k b n q) := by rw [hb2, hk]; rfl
  have b6 : 0 ≤ S1.1 10 0 8 ∧ S1.1 10 0 8 ≤ 1280 := hI2.1 10 0 8 rfl
  have hI7 : gi (sm_pI S1 10 0 3 (S1.1 10 0 8)) := gi_pI hI2 (show 0 ≤ (S1.1 10 0 8) ∧ (S1.1 10 0 8) ≤ 1280 from ⟨by omega, by omega⟩)
  have hF8 : ai_fr (sx_W vw_191) S0 (sm_pI S1 10 0 3 (S1.1 10 0 8)) := ai_fr_tr hF5 (ai_fr_pI rfl)
  have hI9 : gi (sm_pI (sm_pI S1 10 0 3 (S1.1 10 0 8)) 10 0 4 0) := gi_pI hI7 (show 0 ≤ 0 ∧ 0 ≤ 1280 from ⟨by omega, by omega⟩)
  have hF10 : ai_fr (sx_W vw_191) S0 (sm_pI (sm_pI S1 10 0 3 (S1.1 10 0 8)) 10 0 4 0) := ai_fr_tr hF8 (ai_fr_pI rfl)
  have b11 : 0 ≤ S1.1 10 0 1 ∧ S1.1 10 0 1 ≤ 1280 := hI2.1 10 0 1 rfl
  refine sm_T_go 11 (c1 := (25, [some (.inr (.inr (some (10, 0)))), none, none], [.inl (S1.1 10 0 1), .inl (S1.1 10 0 8)], sm_pI (sm_pI S1 10 0 3 (S1.1 10 0 8)) 10 0 4 0)) rfl ?_
  refine sm_T_br (a := 2) (z := 9) rfl (fun c12 => ?_) (fun c12 => ?_)
  · have c12 : (S1.1 10 0 8) < (S1.1 10 0 1) := of_decide_eq_true c12
    refine sm_T_go 4 (c1 := (42, [some (.inr (.inr (some (10, 0)))), none, none], [.inl (S1.1 10 0 8), .inr (.inr (some (98, 0)))], sm_pI (sm_pI S1 10 0 3 (S1.1 10 0 8)) 10 0 4 0)) rfl ?_
    refine sm_T_bald (n := 65536) rfl rfl (by omega) (by omega) ?_
    have b13 : (-128) ≤ S1.2.2.1 98 0 (S1.1 10 0 8).toNat ∧ S1.2.2.1 98 0 (S1.1 10 0 8).toNat ≤ 127 := hI2.2 98 0 _
    refine sm_T_go 3 (c1 := (47, [some (.inr (.inr (some (10, 0)))), some (.inl (S1.2.2.1 98 0 (S1.1 10 0 8).toNat)), none], [.inl 32, .inl (S1.2.2.1 98 0 (S1.1 10 0 8).toNat)], sm_pI (sm_pI S1 10 0 3 (S1.1 10 0 8)) 10 0 4 0)) rfl ?_
    refine sm_T_bin (w := (i_or (S1.2.2.1 98 0 (S1.1 10 0 8).toNat) 32)) rfl rfl ?_
    have b14 := lx_or (x := (S1.2.2.1 98 0 (S1.1 10 0 8).toNat)) (by omega) (by omega)
    refine sm_T_go 1 (c1 := (50, [some (.inr (.inr (some (10, 0)))), some (.inl (S1.2.2.1 98 0 (S1.1 10 0 8).toNat)), none], [.inl 97, .inl (i_or (S1.2.2.1 98 0 (S1.1 10 0 8).toNat) 32)], sm_pI (sm_pI S1 10 0 3 (S1.1 10 0 8)) 10 0 4 0)) rfl ?_
    refine sm_T_br (a := 2) (z := 12) rfl (fun c15 => ?_) (fun c15 => ?_)
    · have c15 : (i_or (S1.2.2.1 98 0 (S1.1 10 0 8).toNat) 32) < 97 := of_decide_eq_true c15
      refine sm_T_go 2 (c1 := (65, [some (.inr (.inr (some (10, 0)))), some (.inl (S1.2.2.1 98 0 (S1.1 10 0 8).toNat)), none], [.inl 95, .inl (S1.2.2.1 98 0 (S1.1 10 0 8).toNat)], sm_pI (sm_pI S1 10 0 3 (S1.1 10 0 8)) 10 0 4 0)) rfl ?_
      refine sm_T_br (a := 1) (z := 11) rfl (fun c16 => ?_) (fun c16 => ?_)
      · have c16 : (S1.2.2.1 98 0 (S1.1 10 0 8).toNat) ≠ 95 := of_decide_eq_true c16
        refine sm_T_go 2 (c1 := (79, [some (.inr (.inr (some (10, 0)))), some (.inl (S1.2.2.1 98 0 (S1.1 10 0 8).toNat)), none], [.inl 48, .inl (S1.2.2.1 98 0 (S1.1 10 0 8).toNat)], sm_pI (sm_pI S1 10 0 3 (S1.1 10 0 8)) 10 0 4 0)) rfl ?_
        refine sm_T_br (a := 2) (z := 17) rfl (fun c17 => ?_) (fun c17 => ?_)
        · have c17 : (S1.2.2.1 98 0 (S1.1 10 0 8).toNat) < 48 := of_decide_eq_true c17
          refine sm_T_go 2 (c1 := (98, [some (.inr (.inr (some (10, 0)))), some (.inl (S1.2.2.1 98 0 (S1.1 10 0 8).toNat)), none], [.inl (S1.2.2.1 98 0 (S1.1 10 0 8).toNat), .inr (.inr (some (10, 0)))], sm_pI (sm_pI S1 10 0 3 (S1.1 10 0 8)) 10 0 4 0)) rfl ?_
          refine sm_T_cal (d1 := 0) (Q1 := vq_195 (S1.2.2.1 98 0 (S1.1 10 0 8).toNat) b n (lx_k b n q) (sm_pI (sm_pI S1 10 0 3 (S1.1 10 0 8)) 10 0 4 0)) rfl rfl (by decide) (vc_195 (S1.2.2.1 98 0 (S1.1 10 0 8).toNat) b n (lx_k b n q) (sm_pI (sm_pI S1 10 0 3 (S1.1 10 0 8)) 10 0 4 0) hI9 (by exact hb2) (by exact hn2) (by exact hn1) (by exact hk) (by omega) (by exact e9)) (fun u S18 p21 => ?_)
          obtain ⟨v23, rfl, hI19, hF20, p21⟩ := p21
          have hF22 : ai_fr (sx_W vw_191) S0 S18 := ai_fr_tr hF10 (fr_le hF20 rfl)
          have hb3 : S18.2.2.1 98 0 = b := (fr_arr hF20 rfl).trans hb2
          have hn3 : S18.1 10 0 1 = (n : Int) := (hF20.1 10 0 1 rfl).trans hn2
          have hst : S18.1 10 0 3 = (lx_k b n q : Nat) := (hF20.1 10 0 3 rfl).trans hk
          have hr := p21
          have hl : ¬ lx_l (b (lx_k b n q)) := by omega
          have hg : ¬ lx_g (b (lx_k b n q)) := by omega
          have hkd : lx_kd b n (lx_k b n q) = if lx_sk b n (lx_k b n q) = 0 then -1 else lx_sk b n (lx_k b n q) := by unfold lx_kd; rw [if_neg (by omega), if_neg hl, if_neg hg]
          have hsk := lx_sk_b (b := b) (n := n) (p := (lx_k b n q))
          have hen : lx_en b n (lx_k b n q) = lx_sn b n (lx_k b n q) := by unfold lx_en; rw [if_neg (by omega), if_neg hl, if_neg hg]
          have hsz : lx_sz b n (lx_k b n q) = 0 := by unfold lx_sz; rw [if_neg (by omega), if_neg hl, if_neg hg]
          have hzz : S18.1 10 0 4 = 0 := (hF20.1 10 0 4 rfl).trans rfl
          have hvv : lx_kd b n (lx_k b n q) = 2 → S18.1 10 0 5 = lx_vl b n (lx_k b n q) := by intro h; rw [hkd] at h; split at h <;> omega
          refine sm_T_go 2 (c1 := (103, [some (.inr (.inr (some (10, 0)))), some (.inl (S1.2.2.1 98 0 (S1.1 10 0 8).toNat)), some (.inl v23)], [.inl v23], S18)) rfl ?_
          refine sm_T_b0 (a := 1) (z := 12) rfl (fun c24 => ?_) (fun c24 => ?_)
          · have c24 : v23 ≠ 0 := of_decide_eq_true c24
            refine sm_T_rv rfl (Or.inl ⟨_, _, rfl, rfl, hI19, hF22, ?_⟩)
            refine ⟨hb3, hn3, hn1, by omega, ?_, hst, ?_, ?_, ?_, hvv⟩
            · rw [hkd]; split <;> omega
            · rw [hen]; exact hr.2.1
            · first | (rw [hkd, if_pos (by omega)]; exact hr.2.2.2) | (rw [hkd, if_pos (by omega)]; exact hr.2.2.2.1) | (rw [hkd, if_neg (by omega)]; exact hr.2.2 (by omega))
            · rw [hsz]; first | exact hr.2.2.1 | exact hzz
          · have c24 : ¬ (v23 ≠ 0) := of_decide_eq_false c24
            have b25 : 0 ≤ S18.1 10 0 3 ∧ S18.1 10 0 3 ≤ 1280 := hI19.1 10 0 3 rfl
            refine sm_T_go 4 (c1 := (112, [some (.inr (.inr (some (10, 0)))), some (.inl (S1.2.2.1 98 0 (S1.1 10 0 8).toNat)), some (.inl v23)], [.inl (S18.1 10 0 3), .inl 1, .inr (.inr (some (10, 0)))], S18)) rfl ?_
            refine sm_T_calx (d1 := 0) (Q1 := vq_187 1 (S18.1 10 0 3) S18) (Q2 := vx_187 1 (S18.1 10 0 3) S18) rfl rfl (by decide) (vc_187 1 (S18.1 10 0 3) S18 hI19 (by decide) (by omega)) rfl (fun S26 p29 => ?_) (fun u S26 p29 => ?_)
            · obtain ⟨hI27, hF28, p29⟩ := p29
              refine Or.inr ⟨_, rfl, hI27, ai_fr_tr hF22 (fr_le hF28 rfl), ?_⟩
              refine ⟨?_, p29.1, p29.2.trans hst⟩
              rw [hkd]; first | (rw [if_neg (by omega)]) | (rw [if_pos (by omega)])
            · exact (p29.2.2.2).elim
        · have c17 : ¬ ((S1.2.2.1 98 0 (S1.1 10 0 8).toNat) < 48) := of_decide_eq_false c17
          refine sm_T_go 2 (c1 := (85, [some (.inr (.inr (some (10, 0)))), some (.inl (S1.2.2.1 98 0 (S1.1 10 0 8).toNat)), none], [.inl 57, .inl (S1.2.2.1 98 0 (S1.1 10 0 8).toNat)], sm_pI (sm_pI S1 10 0 3 (S1.1 10 0 8)) 10 0 4 0)) rfl ?_
          refine sm_T_br (a := 4) (z := 11) rfl (fun c31 => ?_) (fun c31 => ?_)
          · have c31 : 57 < (S1.2.2.1 98 0 (S1.1 10 0 8).toNat) := of_decide_eq_true c31
            refine sm_T_go 2 (c1 := (98, [some (.inr (.inr (some (10, 0)))), some (.inl (S1.2.2.1 98 0 (S1.1 10 0 8).toNat)), none], [.inl (S1.2.2.1 98 0 (S1.1 10 0 8).toNat), .inr (.inr (some (10, 0)))], sm_pI (sm_pI S1 10 0 3 (S1.1 10 0 8)) 10 0 4 0)) rfl ?_
            refine sm_T_cal (d1 := 0) (Q1 := vq_195 (S1.2.2.1 98 0 (S1.1 10 0 8).toNat) b n (lx_k b n q) (sm_pI (sm_pI S1 10 0 3 (S1.1 10 0 8)) 10 0 4 0)) rfl rfl (by decide) (vc_195 (S1.2.2.1 98 0 (S1.1 10 0 8).toNat) b n (lx_k b n q) (sm_pI (sm_pI S1 10 0 3 (S1.1 10 0 8)) 10 0 4 0) hI9 (by exact hb2) (by exact hn2) (by exact hn1) (by exact hk) (by omega) (by exact e9)) (fun u S32 p35 => ?_)
            obtain ⟨v37, rfl, hI33, hF34, p35⟩ := p35
            have hF36 : ai_fr (sx_W vw_191) S0 S32 := ai_fr_tr hF10 (fr_le hF34 rfl)
            have hb3 : S32.2.2.1 98 0 = b := (fr_arr hF34 rfl).trans hb2
            have hn3 : S32.1 10 0 1 = (n : Int) := (hF34.1 10 0 1 rfl).trans hn2
            have hst : S32.1 10 0 3 = (lx_k b n q : Nat) := (hF34.1 10 0 3 rfl).trans hk
            have hr := p35
            have hl : ¬ lx_l (b (lx_k b n q)) := by omega
            have hg : ¬ lx_g (b (lx_k b n q)) := by omega
            have hkd : lx_kd b n (lx_k b n q) = if lx_sk b n (lx_k b n q) = 0 then -1 else lx_sk b n (lx_k b n q) := by unfold lx_kd; rw [if_neg (by omega), if_neg hl, if_neg hg]
            have hsk := lx_sk_b (b := b) (n := n) (p := (lx_k b n q))
            have hen : lx_en b n (lx_k b n q) = lx_sn b n (lx_k b n q) := by unfold lx_en; rw [if_neg (by omega), if_neg hl, if_neg hg]
            have hsz : lx_sz b n (lx_k b n q) = 0 := by unfold lx_sz; rw [if_neg (by omega), if_neg hl, if_neg hg]
            have hzz : S32.1 10 0 4 = 0 := (hF34.1 10 0 4 rfl).trans rfl
            have hvv : lx_kd b n (lx_k b n q) = 2 → S32.1 10 0 5 = lx_vl b n (lx_k b n q) := by intro h; rw [hkd] at h; split at h <;> omega
            refine sm_T_go 2 (c1 := (103, [some (.inr (.inr (some (10, 0)))), some (.inl (S1.2.2.1 98 0 (S1.1 10 0 8).toNat)), some (.inl v37)], [.inl v37], S32)) rfl ?_
            refine sm_T_b0 (a := 1) (z := 12) rfl (fun c38 => ?_) (fun c38 => ?_)
            · have c38 : v37 ≠ 0 := of_decide_eq_true c38
              refine sm_T_rv rfl (Or.inl ⟨_, _, rfl, rfl, hI33, hF36, ?_⟩)
              refine ⟨hb3, hn3, hn1, by omega, ?_, hst, ?_, ?_, ?_, hvv⟩
              · rw [hkd]; split <;> omega
              · rw [hen]; exact hr.2.1
              · first | (rw [hkd, if_pos (by omega)]; exact hr.2.2.2) | (rw [hkd, if_pos (by omega)]; exact hr.2.2.2.1) | (rw [hkd, if_neg (by omega)]; exact hr.2.2 (by omega))
              · rw [hsz]; first | exact hr.2.2.1 | exact hzz
            · have c38 : ¬ (v37 ≠ 0) := of_decide_eq_false c38
              have b39 : 0 ≤ S32.1 10 0 3 ∧ S32.1 10 0 3 ≤ 1280 := hI33.1 10 0 3 rfl
              refine sm_T_go 4 (c1 := (112, [some (.inr (.inr (some (10, 0)))), some (.inl (S1.2.2.1 98 0 (S1.1 10 0 8).toNat)), some (.inl v37)], [.inl (S32.1 10 0 3), .inl 1, .inr (.inr (some (10, 0)))], S32)) rfl ?_
              refine sm_T_calx (d1 := 0) (Q1 := vq_187 1 (S32.1 10 0 3) S32) (Q2 := vx_187 1 (S32.1 10 0 3) S32) rfl rfl (by decide) (vc_187 1 (S32.1 10 0 3) S32 hI33 (by decide) (by omega)) rfl (fun S40 p43 => ?_) (fun u S40 p43 => ?_)
              · obtain ⟨hI41, hF42, p43⟩ := p43
                refine Or.inr ⟨_, rfl, hI41, ai_fr_tr hF36 (fr_le hF42 rfl), ?_⟩
                refine ⟨?_, p43.1, p43.2.trans hst⟩
                rw [hkd]; first | (rw [if_neg (by omega)]) | (rw [if_pos (by omega)])
              · exact (p43.2.2.2).elim
          · have c31 : ¬ (57 < (S1.2.2.1 98 0 (S1.1 10 0 8).toNat)) := of_decide_eq_false c31
            refine sm_T_go 1 (c1 := (89, [some (.inr (.inr (some (10, 0)))), some (.inl (S1.2.2.1 98 0 (S1.1 10 0 8).toNat)), none], [.inr (.inr (some (10, 0)))], sm_pI (sm_pI S1 10 0 3 (S1.1 10 0 8)) 10 0 4 0)) rfl ?_
            refine sm_T_cal (d1 := 0) (Q1 := vq_194 b n (lx_k b n q) (sm_pI (sm_pI S1 10 0 3 (S1.1 10 0 8)) 10 0 4 0)) rfl rfl (by decide) (vc_194 b n (lx_k b n q) (sm_pI (sm_pI S1 10 0 3 (S1.1 10 0 8)) 10 0 4 0) hI9 (by exact hb2) (by exact hn2) (by exact hn1) (by exact hk) (by omega) (by rfl)) (fun u S45 p48 => ?_)
            obtain ⟨v50, rfl, hI46, hF47, p48⟩ := p48
            have hF49 : ai_fr (sx_W vw_191) S0 S45 := ai_fr_tr hF10 (fr_le hF47 rfl)
            have hb3 : S45.2.2.1 98 0 = b := (fr_arr hF47 rfl).trans hb2
            have hn3 : S45.1 10 0 1 = (n : Int) := (hF47.1 10 0 1 rfl).trans hn2
            have hst : S45.1 10 0 3 = (lx_k b n q : Nat) := (hF47.1 10 0 3 rfl).trans hk
            have hr := p48
            have hl : ¬ lx_l (b (lx_k b n q)) := by omega
            have hg : lx_g (b (lx_k b n q)) := by omega
            have hkd : lx_kd b n (lx_k b n q) = if lx_de b n (lx_k b n q) - (lx_k b n q) ≤ 6 then 2 else -1 := by unfold lx_kd; rw [if_neg (by omega), if_neg hl, if_pos hg]
            have hen : lx_en b n (lx_k b n q) = lx_de b n (lx_k b n q) := by unfold lx_en; rw [if_neg (by omega), if_neg hl, if_pos hg]
            have hsz : lx_sz b n (lx_k b n q) = lx_de b n (lx_k b n q) - (lx_k b n q) := by unfold lx_sz; rw [if_neg (by omega), if_neg hl, if_pos hg]
            have hvv : lx_kd b n (lx_k b n q) = 2 → S45.1 10 0 5 = lx_vl b n (lx_k b n q) := fun _ => hr.2.2.2.2
            refine sm_T_go 3 (c1 := (103, [some (.inr (.inr (some (10, 0)))), some (.inl (S1.2.2.1 98 0 (S1.1 10 0 8).toNat)), some (.inl v50)], [.inl v50], S45)) rfl ?_
            refine sm_T_b0 (a := 1) (z := 12) rfl (fun c51 => ?_) (fun c51 => ?_)
            · have c51 : v50 ≠ 0 := of_decide_eq_true c51
              refine sm_T_rv rfl (Or.inl ⟨_, _, rfl, rfl, hI46, hF49, ?_⟩)
              refine ⟨hb3, hn3, hn1, by omega, ?_, hst, ?_, ?_, ?_, hvv⟩
              · rw [hkd]; split <;> omega
              · rw [hen]; exact hr.2.1
              · first | (rw [hkd, if_pos (by omega)]; exact hr.2.2.2) | (rw [hkd, if_pos (by omega)]; exact hr.2.2.2.1) | (rw [hkd, if_neg (by omega)]; exact hr.2.2 (by omega))
              · rw [hsz]; first | exact hr.2.2.1 | exact hzz
            · have c51 : ¬ (v50 ≠ 0) := of_decide_eq_false c51
              have b52 : 0 ≤ S45.1 10 0 3 ∧ S45.1 10 0 3 ≤ 1280 := hI46.1 10 0 3 rfl
              refine sm_T_go 4 (c1 := (112, [some (.inr (.inr (some (10, 0)))), some (.inl (S1.2.2.1 98 0 (S1.1 10 0 8).toNat)), some (.inl v50)], [.inl (S45.1 10 0 3), .inl 1, .inr (.inr (some (10, 0)))], S45)) rfl ?_
              refine sm_T_calx (d1 := 0) (Q1 := vq_187 1 (S45.1 10 0 3) S45) (Q2 := vx_187 1 (S45.1 10 0 3) S45) rfl rfl (by decide) (vc_187 1 (S45.1 10 0 3) S45 hI46 (by decide) (by omega)) rfl (fun S53 p56 => ?_) (fun u S53 p56 => ?_)
              · obtain ⟨hI54, hF55, p56⟩ := p56
                refine Or.inr ⟨_, rfl, hI54, ai_fr_tr hF49 (fr_le hF55 rfl), ?_⟩
                refine ⟨?_, p56.1, p56.2.trans hst⟩
                rw [hkd]; first | (rw [if_neg (by omega)]) | (rw [if_pos (by omega)])
              · exact (p56.2.2.2).elim
      · have c16 : ¬ ((S1.2.2.1 98 0 (S1.1 10 0 8).toNat) ≠ 95) := of_decide_eq_false c16
        refine sm_T_go 1 (c1 := (69, [some (.inr (.inr (some (10, 0)))), some (.inl (S1.2.2.1 98 0 (S1.1 10 0 8).toNat)), none], [.inr (.inr (some (10, 0)))], sm_pI (sm_pI S1 10 0 3 (S1.1 10 0 8)) 10 0 4 0)) rfl ?_
        refine sm_T_cal (d1 := 0) (Q1 := vq_193 b n (lx_k b n q) (sm_pI (sm_pI S1 10 0 3 (S1.1 10 0 8)) 10 0 4 0)) rfl rfl (by decide) (vc_193 b n (lx_k b n q) (sm_pI (sm_pI S1 10 0 3 (S1.1 10 0 8)) 10 0 4 0) hI9 (by exact hb2) (by exact hn2) (by exact hn1) (by exact hk) (by omega) (by rfl)) (fun u S58 p61 => ?_)
        obtain ⟨v63, rfl, hI59, hF60, p61⟩ := p61
        have hF62 : ai_fr (sx_W vw_191) S0 S58 := ai_fr_tr hF10 (fr_le hF60 rfl)
        have hb3 : S58.2.2.1 98 0 = b := (fr_arr hF60 rfl).trans hb2
        have hn3 : S58.1 10 0 1 = (n : Int) := (hF60.1 10 0 1 rfl).trans hn2
        have hst : S58.1 10 0 3 = (lx_k b n q : Nat) := (hF60.1 10 0 3 rfl).trans hk
        have hr := p61
        have hl : lx_l (b (lx_k b n q)) := by omega
        have hw := lx_wk_7 (lx_pk b (lx_k b n q) (lx_ne b n (lx_k b n q) - (lx_k b n q)))
        have hkd : lx_kd b n (lx_k b n q) = if lx_ne b n (lx_k b n q) - (lx_k b n q) ≤ 12 then lx_wk (lx_pk b (lx_k b n q) (lx_ne b n (lx_k b n q) - (lx_k b n q))) 7 else -1 := by unfold lx_kd; rw [if_neg (by omega), if_pos hl]
        have hen : lx_en b n (lx_k b n q) = lx_ne b n (lx_k b n q) := by unfold lx_en; rw [if_neg (by omega), if_pos hl]
        have hsz : lx_sz b n (lx_k b n q) = lx_ne b n (lx_k b n q) - (lx_k b n q) := by unfold lx_sz; rw [if_neg (by omega), if_pos hl]
        have hvv : lx_kd b n (lx_k b n q) = 2 → S58.1 10 0 5 = lx_vl b n (lx_k b n q) := by intro h; rw [hkd] at h; split at h <;> omega
        refine sm_T_go 3 (c1 := (103, [some (.inr (.inr (some (10, 0)))), some (.inl (S1.2.2.1 98 0 (S1.1 10 0 8).toNat)), some (.inl v63)], [.inl v63], S58)) rfl ?_
        refine sm_T_b0 (a := 1) (z := 12) rfl (fun c64 => ?_) (fun c64 => ?_)
        · have c64 : v63 ≠ 0 := of_decide_eq_true c64
          refine sm_T_rv rfl (Or.inl ⟨_, _, rfl, rfl, hI59, hF62, ?_⟩)
          refine ⟨hb3, hn3, hn1, by omega, ?_, hst, ?_, ?_, ?_, hvv⟩
          · rw [hkd]; split <;> omega
          · rw [hen]; exact hr.2.1
          · first | (rw [hkd, if_pos (by omega)]; exact hr.2.2.2) | (rw [hkd, if_pos (by omega)]; exact hr.2.2.2.1) | (rw [hkd, if_neg (by omega)]; exact hr.2.2 (by omega))
          · rw [hsz]; first | exact hr.2.2.1 | exact hzz
        · have c64 : ¬ (v63 ≠ 0) := of_decide_eq_false c64
          have b65 : 0 ≤ S58.1 10 0 3 ∧ S58.1 10 0 3 ≤ 1280 := hI59.1 10 0 3 rfl
          refine sm_T_go 4 (c1 := (112, [some (.inr (.inr (some (10, 0)))), some (.inl (S1.2.2.1 98 0 (S1.1 10 0 8).toNat)), some (.inl v63)], [.inl (S58.1 10 0 3), .inl 1, .inr (.inr (some (10, 0)))], S58)) rfl ?_
          refine sm_T_calx (d1 := 0) (Q1 := vq_187 1 (S58.1 10 0 3) S58) (Q2 := vx_187 1 (S58.1 10 0 3) S58) rfl rfl (by decide) (vc_187 1 (S58.1 10 0 3) S58 hI59 (by decide) (by omega)) rfl (fun S66 p69 => ?_) (fun u S66 p69 => ?_)
          · obtain ⟨hI67, hF68, p69⟩ := p69
            refine Or.inr ⟨_, rfl, hI67, ai_fr_tr hF62 (fr_le hF68 rfl), ?_⟩
            refine ⟨?_, p69.1, p69.2.trans hst⟩
            rw [hkd]; first | (rw [if_neg (by omega)]) | (rw [if_pos (by omega)])
          · exact (p69.2.2.2).elim
    · have c15 : ¬ ((i_or (S1.2.2.1 98 0 (S1.1 10 0 8).toNat) 32) < 97) := of_decide_eq_false c15
      refine sm_T_go 2 (c1 := (56, [some (.inr (.inr (some (10, 0)))), some (.inl (S1.2.2.1 98 0 (S1.1 10 0 8).toNat)), none], [.inl 32, .inl (S1.2.2.1 98 0 (S1.1 10 0 8).toNat)], sm_pI (sm_pI S1 10 0 3 (S1.1 10 0 8)) 10 0 4 0)) rfl ?_
      refine sm_T_bin (w := (i_or (S1.2.2.1 98 0 (S1.1 10 0 8).toNat) 32)) rfl rfl ?_
      have b71 := lx_or (x := (S1.2.2.1 98 0 (S1.1 10 0 8).toNat)) (by omega) (by omega)
      refine sm_T_go 1 (c1 := (59, [some (.inr (.inr (some (10, 0)))), some (.inl (S1.2.2.1 98 0 (S1.1 10 0 8).toNat)), none], [.inl 122, .inl (i_or (S1.2.2.1 98 0 (S1.1 10 0 8).toNat) 32)], sm_pI (sm_pI S1 10 0 3 (S1.1 10 0 8)) 10 0 4 0)) rfl ?_
      refine sm_T_br (a := 5) (z := 9) rfl (fun c72 => ?_) (fun c72 => ?_)
      · have c72 : (i_or (S1.2.2.1 98 0 (S1.1 10 0 8).toNat) 32) ≤ 122 := of_decide_eq_true c72
        refine sm_T_go 1 (c1 := (69, [some (.inr (.inr (some (10, 0)))), some (.inl (S1.2.2.1 98 0 (S1.1 10 0 8).toNat)), none], [.inr (.inr (some (10, 0)))], sm_pI (sm_pI S1 10 0 3 (S1.1 10 0 8)) 10 0 4 0)) rfl ?_
        refine sm_T_cal (d1 := 0) (Q1 := vq_193 b n (lx_k b n q) (sm_pI (sm_pI S1 10 0 3 (S1.1 10 0 8)) 10 0 4 0)) rfl rfl (by decide) (vc_193 b n (lx_k b n q) (sm_pI (sm_pI S1 10 0 3 (S1.1 10 0 8)) 10 0 4 0) hI9 (by exact hb2) (by exact hn2) (by exact hn1) (by exact hk) (by omega) (by rfl)) (fun u S73 p76 => ?_)
        obtain ⟨v78, rfl, hI74, hF75, p76⟩ := p76
        have hF77 : ai_fr (sx_W vw_191) S0 S73 := ai_fr_tr hF10 (fr_le hF75 rfl)
        have hb3 : S73.2.2.1 98 0 = b := (fr_arr hF75 rfl).trans hb2
        have hn3 : S73.1 10 0 1 = (n : Int) := (hF75.1 10 0 1 rfl).trans hn2
        have hst : S73.1 10 0 3 = (lx_k b n q : Nat) := (hF75.1 10 0 3 rfl).trans hk
        have hr := p76
        have hl : lx_l (b (lx_k b n q)) := by omega
        have hw := lx_wk_7 (lx_pk b (lx_k b n q) (lx_ne b n (lx_k b n q) - (lx_k b n q)))
        have hkd : lx_kd b n (lx_k b n q) = if lx_ne b n (lx_k b n q) - (lx_k b n q) ≤ 12 then lx_wk (lx_pk b (lx_k b n q) (lx_ne b n (lx_k b n q) - (lx_k b n q))) 7 else -1 := by unfold lx_kd; rw [if_neg (by omega), if_pos hl]
        have hen : lx_en b n (lx_k b n q) = lx_ne b n (lx_k b n q) := by unfold lx_en; rw [if_neg (by omega), if_pos hl]
        have hsz : lx_sz b n (lx_k b n q) = lx_ne b n (lx_k b n q) - (lx_k b n q) := by unfold lx_sz; rw [if_neg (by omega), if_pos hl]
        have hvv : lx_kd b n (lx_k b n q) = 2 → S73.1 10 0 5 = lx_vl b n (lx_k b n q) := by intro h; rw [hkd] at h; split at h <;> omega
        refine sm_T_go 3 (c1 := (103, [some (.inr (.inr (some (10, 0)))), some (.inl (S1.2.2.1 98 0 (S1.1 10 0 8).toNat)), some (.inl v78)], [.inl v78], S73)) rfl ?_
        refine sm_T_b0 (a := 1) (z := 12) rfl (fun c79 => ?_) (fun c79 => ?_)
        · have c79 : v78 ≠ 0 := of_decide_eq_true c79
          refine sm_T_rv rfl (Or.inl ⟨_, _, rfl, rfl, hI74, hF77, ?_⟩)
          refine ⟨hb3, hn3, hn1, by omega, ?_, hst, ?_, ?_, ?_, hvv⟩
          · rw [hkd]; split <;> omega
          · rw [hen]; exact hr.2.1
          · first | (rw [hkd, if_pos (by omega)]; exact hr.2.2.2) | (rw [hkd, if_pos (by omega)]; exact hr.2.2.2.1) | (rw [hkd, if_neg (by omega)]; exact hr.2.2 (by omega))
          · rw [hsz]; first | exact hr.2.2.1 | exact hzz
        · have c79 : ¬ (v78 ≠ 0) := of_decide_eq_false c79
          have b80 : 0 ≤ S73.1 10 0 3 ∧ S73.1 10 0 3 ≤ 1280 := hI74.1 10 0 3 rfl
          refine sm_T_go 4 (c1 := (112, [some (.inr (.inr (some (10, 0)))), some (.inl (S1.2.2.1 98 0 (S1.1 10 0 8).toNat)), some (.inl v78)], [.inl (S73.1 10 0 3), .inl 1, .inr (.inr (some (10, 0)))], S73)) rfl ?_
          refine sm_T_calx (d1 := 0) (Q1 := vq_187 1 (S73.1 10 0 3) S73) (Q2 := vx_187 1 (S73.1 10 0 3) S73) rfl rfl (by decide) (vc_187 1 (S73.1 10 0 3) S73 hI74 (by decide) (by omega)) rfl (fun S81 p84 => ?_) (fun u S81 p84 => ?_)
          · obtain ⟨hI82, hF83, p84⟩ := p84
            refine Or.inr ⟨_, rfl, hI82, ai_fr_tr hF77 (fr_le hF83 rfl), ?_⟩
            refine ⟨?_, p84.1, p84.2.trans hst⟩
            rw [hkd]; first | (rw [if_neg (by omega)]) | (rw [if_pos (by omega)])
          · exact (p84.2.2.2).elim
      · have c72 : ¬ ((i_or (S1.2.2.1 98 0 (S1.1 10 0 8).toNat) 32) ≤ 122) := of_decide_eq_false c72
        refine sm_T_go 2 (c1 := (65, [some (.inr (.inr (some (10, 0)))), some (.inl (S1.2.2.1 98 0 (S1.1 10 0 8).toNat)), none], [.inl 95, .inl (S1.2.2.1 98 0 (S1.1 10 0 8).toNat)], sm_pI (sm_pI S1 10 0 3 (S1.1 10 0 8)) 10 0 4 0)) rfl ?_
        refine sm_T_br (a := 1) (z := 11) rfl (fun c86 => ?_) (fun c86 => ?_)
        · have c86 : (S1.2.2.1 98 0 (S1.1 10 0 8).toNat) ≠ 95 := of_decide_eq_true c86
          refine sm_T_go 2 (c1 := (79, [some (.inr (.inr (some (10, 0)))), some (.inl (S1.2.2.1 98 0 (S1.1 10 0 8).toNat)), none], [.inl 48, .inl (S1.2.2.1 98 0 (S1.1 10 0 8).toNat)], sm_pI (sm_pI S1 10 0 3 (S1.1 10 0 8)) 10 0 4 0)) rfl ?_
          refine sm_T_br (a := 2) (z := 17) rfl (fun c87 => ?_) (fun c87 => ?_)
          · have c87 : (S1.2.2.1 98 0 (S1.1 10 0 8).toNat) < 48 := of_decide_eq_true c87
            refine sm_T_go 2 (c1 := (98, [some (.inr (.inr (some (10, 0)))), some (.inl (S1.2.2.1 98 0 (S1.1 10 0 8).toNat)), none], [.inl (S1.2.2.1 98 0 (S1.1 10 0 8).toNat), .inr (.inr (some (10, 0)))], sm_pI (sm_pI S1 10 0 3 (S1.1 10 0 8)) 10 0 4 0)) rfl ?_
            refine sm_T_cal (d1 := 0) (Q1 := vq_195 (S1.2.2.1 98 0 (S1.1 10 0 8).toNat) b n (lx_k b n q) (sm_pI (sm_pI S1 10 0 3 (S1.1 10 0 8)) 10 0 4 0)) rfl rfl (by decide) (vc_195 (S1.2.2.1 98 0 (S1.1 10 0 8).toNat) b n (lx_k b n q) (sm_pI (sm_pI S1 10 0 3 (S1.1 10 0 8)) 10 0 4 0) hI9 (by exact hb2) (by exact hn2) (by exact hn1) (by exact hk) (by omega) (by exact e9)) (fun u S88 p91 => ?_)
            obtain ⟨v93, rfl, hI89, hF90, p91⟩ := p91
            have hF92 : ai_fr (sx_W vw_191) S0 S88 := ai_fr_tr hF10 (fr_le hF90 rfl)
            have hb3 : S88.2.2.1 98 0 = b := (fr_arr hF90 rfl).trans hb2
            have hn3 : S88.1 10 0 1 = (n : Int) := (hF90.1 10 0 1 rfl).trans hn2
            have hst : S88.1 10 0 3 = (lx_k b n q : Nat) := (hF90.1 10 0 3 rfl).trans hk
            have hr := p91
            have hl : ¬ lx_l (b (lx_k b n q)) := by omega
            have hg : ¬ lx_g (b (lx_k b n q)) := by omega
            have hkd : lx_kd b n (lx_k b n q) = if lx_sk b n (lx_k b n q) = 0 then -1 else lx_sk b n (lx_k b n q) := by unfold lx_kd; rw [if_neg (by omega), if_neg hl, if_neg hg]
            have hsk := lx_sk_b (b := b) (n := n) (p := (lx_k b n q))
            have hen : lx_en b n (lx_k b n q) = lx_sn b n (lx_k b n q) := by unfold lx_en; rw [if_neg (by omega), if_neg hl, if_neg hg]
            have hsz : lx_sz b n (lx_k b n q) = 0 := by unfold lx_sz; rw [if_neg (by omega), if_neg hl, if_neg hg]
            have hzz : S88.1 10 0 4 = 0 := (hF90.1 10 0 4 rfl).trans rfl
            have hvv : lx_kd b n (lx_k b n q) = 2 → S88.1 10 0 5 = lx_vl b n (lx_k b n q) := by intro h; rw [hkd] at h; split at h <;> omega
            refine sm_T_go 2 (c1 := (103, [some (.inr (.inr (some (10, 0)))), some (.inl (S1.2.2.1 98 0 (S1.1 10 0 8).toNat)), some (.inl v93)], [.inl v93], S88)) rfl ?_
            refine sm_T_b0 (a := 1) (z := 12) rfl (fun c94 => ?_) (fun c94 => ?_)
            · have c94 : v93 ≠ 0 := of_decide_eq_true c94
              refine sm_T_rv rfl (Or.inl ⟨_, _, rfl, rfl, hI89, hF92, ?_⟩)
              refine ⟨hb3, hn3, hn1, by omega, ?_, hst, ?_, ?_, ?_, hvv⟩
              · rw [hkd]; split <;> omega
              · rw [hen]; exact hr.2.1
              · first | (rw [hkd, if_pos (by omega)]; exact hr.2.2.2) | (rw [hkd, if_pos (by omega)]; exact hr.2.2.2.1) | (rw [hkd, if_neg (by omega)]; exact hr.2.2 (by omega))
              · rw [hsz]; first | exact hr.2.2.1 | exact hzz
            · have c94 : ¬ (v93 ≠ 0) := of_decide_eq_false c94
              have b95 : 0 ≤ S88.1 10 0 3 ∧ S88.1 10 0 3 ≤ 1280 := hI89.1 10 0 3 rfl
              refine sm_T_go 4 (c1 := (112, [some (.inr (.inr (some (10, 0)))), some (.inl (S1.2.2.1 98 0 (S1.1 10 0 8).toNat)), some (.inl v93)], [.inl (S88.1 10 0 3), .inl 1, .inr (.inr (some (10, 0)))], S88)) rfl ?_
              refine sm_T_calx (d1 := 0) (Q1 := vq_187 1 (S88.1 10 0 3) S88) (Q2 := vx_187 1 (S88.1 10 0 3) S88) rfl rfl (by decide) (vc_187 1 (S88.1 10 0 3) S88 hI89 (by decide) (by omega)) rfl (fun S96 p99 => ?_) (fun u S96 p99 => ?_)
              · obtain ⟨hI97, hF98, p99⟩ := p99
                refine Or.inr ⟨_, rfl, hI97, ai_fr_tr hF92 (fr_le hF98 rfl), ?_⟩
                refine ⟨?_, p99.1, p99.2.trans hst⟩
                rw [hkd]; first | (rw [if_neg (by omega)]) | (rw [if_pos (by omega)])
              · exact (p99.2.2.2).elim
          · have c87 : ¬ ((S1.2.2.1 98 0 (S1.1 10 0 8).toNat) < 48) := of_decide_eq_false c87
            refine sm_T_go 2 (c1 := (85, [some (.inr (.inr (some (10, 0)))), some (.inl (S1.2.2.1 98 0 (S1.1 10 0 8).toNat)), none], [.inl 57, .inl (S1.2.2.1 98 0 (S1.1 10 0 8).toNat)], sm_pI (sm_pI S1 10 0 3 (S1.1 10 0 8)) 10 0 4 0)) rfl ?_
            refine sm_T_br (a := 4) (z := 11) rfl (fun c101 => ?_) (fun c101 => ?_)
            · have c101 : 57 < (S1.2.2.1 98 0 (S1.1 10 0 8).toNat) := of_decide_eq_true c101
              refine sm_T_go 2 (c1 := (98, [some (.inr (.inr (some (10, 0)))), some (.inl (S1.2.2.1 98 0 (S1.1 10 0 8).toNat)), none], [.inl (S1.2.2.1 98 0 (S1.1 10 0 8).toNat), .inr (.inr (some (10, 0)))], sm_pI (sm_pI S1 10 0 3 (S1.1 10 0 8)) 10 0 4 0)) rfl ?_
              refine sm_T_cal (d1 := 0) (Q1 := vq_195 (S1.2.2.1 98 0 (S1.1 10 0 8).toNat) b n (lx_k b n q) (sm_pI (sm_pI S1 10 0 3 (S1.1 10 0 8)) 10 0 4 0)) rfl rfl (by decide) (vc_195 (S1.2.2.1 98 0 (S1.1 10 0 8).toNat) b n (lx_k b n q) (sm_pI (sm_pI S1 10 0 3 (S1.1 10 0 8)) 10 0 4 0) hI9 (by exact hb2) (by exact hn2) (by exact hn1) (by exact hk) (by omega) (by exact e9)) (fun u S102 p105 => ?_)
              obtain ⟨v107, rfl, hI103, hF104, p105⟩ := p105
              have hF106 : ai_fr (sx_W vw_191) S0 S102 := ai_fr_tr hF10 (fr_le hF104 rfl)
              have hb3 : S102.2.2.1 98 0 = b := (fr_arr hF104 rfl).trans hb2
              have hn3 : S102.1 10 0 1 = (n : Int) := (hF104.1 10 0 1 rfl).trans hn2
              have hst : S102.1 10 0 3 = (lx_k b n q : Nat) := (hF104.1 10 0 3 rfl).trans hk
              have hr := p105
              have hl : ¬ lx_l (b (lx_k b n q)) := by omega
              have hg : ¬ lx_g (b (lx_k b n q)) := by omega
              have hkd : lx_kd b n (lx_k b n q) = if lx_sk b n (lx_k b n q) = 0 then -1 else lx_sk b n (lx_k b n q) := by unfold lx_kd; rw [if_neg (by omega), if_neg hl, if_neg hg]
              have hsk := lx_sk_b (b := b) (n := n) (p := (lx_k b n q))
              have hen : lx_en b n (lx_k b n q) = lx_sn b n (lx_k b n q) := by unfold lx_en; rw [if_neg (by omega), if_neg hl, if_neg hg]
              have hsz : lx_sz b n (lx_k b n q) = 0 := by unfold lx_sz; rw [if_neg (by omega), if_neg hl, if_neg hg]
              have hzz : S102.1 10 0 4 = 0 := (hF104.1 10 0 4 rfl).trans rfl
              have hvv : lx_kd b n (lx_k b n q) = 2 → S102.1 10 0 5 = lx_vl b n (lx_k b n q) := by intro h; rw [hkd] at h; split at h <;> omega
              refine sm_T_go 2 (c1 := (103, [some (.inr (.inr (some (10, 0)))), some (.inl (S1.2.2.1 98 0 (S1.1 10 0 8).toNat)), some (.inl v107)], [.inl v107], S102)) rfl ?_
              refine sm_T_b0 (a := 1) (z := 12) rfl (fun c108 => ?_) (fun c108 => ?_)
              · have c108 : v107 ≠ 0 := of_decide_eq_true c108
                refine sm_T_rv rfl (Or.inl ⟨_, _, rfl, rfl, hI103, hF106, ?_⟩)
                refine ⟨hb3, hn3, hn1, by omega, ?_, hst, ?_, ?_, ?_, hvv⟩
                · rw [hkd]; split <;> omega
                · rw [hen]; exact hr.2.1
                · first | (rw [hkd, if_pos (by omega)]; exact hr.2.2.2) | (rw [hkd, if_pos (by omega)]; exact hr.2.2.2.1) | (rw [hkd, if_neg (by omega)]; exact hr.2.2 (by omega))
                · rw [hsz]; first | exact hr.2.2.1 | exact hzz
              · have c108 : ¬ (v107 ≠ 0) := of_decide_eq_false c108
                have b109 : 0 ≤ S102.1 10 0 3 ∧ S102.1 10 0 3 ≤ 1280 := hI103.1 10 0 3 rfl
                refine sm_T_go 4 (c1 := (112, [some (.inr (.inr (some (10, 0)))), some (.inl (S1.2.2.1 98 0 (S1.1 10 0 8).toNat)), some (.inl v107)], [.inl (S102.1 10 0 3), .inl 1, .inr (.inr (some (10, 0)))], S102)) rfl ?_
                refine sm_T_calx (d1 := 0) (Q1 := vq_187 1 (S102.1 10 0 3) S102) (Q2 := vx_187 1 (S102.1 10 0 3) S102) rfl rfl (by decide) (vc_187 1 (S102.1 10 0 3) S102 hI103 (by decide) (by omega)) rfl (fun S110 p113 => ?_) (fun u S110 p113 => ?_)
                · obtain ⟨hI111, hF112, p113⟩ := p113
                  refine Or.inr ⟨_, rfl, hI111, ai_fr_tr hF106 (fr_le hF112 rfl), ?_⟩
                  refine ⟨?_, p113.1, p113.2.trans hst⟩
                  rw [hkd]; first | (rw [if_neg (by omega)]) | (rw [if_pos (by omega)])
                · exact (p113.2.2.2).elim
            · have c101 : ¬ (57 < (S1.2.2.1 98 0 (S1.1 10 0 8).toNat)) := of_decide_eq_false c101
              refine sm_T_go 1 (c1 := (89, [some (.inr (.inr (some (10, 0)))), some (.inl (S1.2.2.1 98 0 (S1.1 10 0 8).toNat)), none], [.inr (.inr (some (10, 0)))], sm_pI (sm_pI S1 10 0 3 (S1.1 10 0 8)) 10 0 4 0)) rfl ?_
              refine sm_T_cal (d1 := 0) (Q1 := vq_194 b n (lx_k b n q) (sm_pI (sm_pI S1 10 0 3 (S1.1 10 0 8)) 10 0 4 0)) rfl rfl (by decide) (vc_194 b n (lx_k b n q) (sm_pI (sm_pI S1 10 0 3 (S1.1 10 0 8)) 10 0 4 0) hI9 (by exact hb2) (by exact hn2) (by exact hn1) (by exact hk) (by omega) (by rfl)) (fun u S115 p118 => ?_)
              obtain ⟨v120, rfl, hI116, hF117, p118⟩ := p118
              have hF119 : ai_fr (sx_W vw_191) S0 S115 := ai_fr_tr hF10 (fr_le hF117 rfl)
              have hb3 : S115.2.2.1 98 0 = b := (fr_arr hF117 rfl).trans hb2
              have hn3 : S115.1 10 0 1 = (n : Int) := (hF117.1 10 0 1 rfl).trans hn2
              have hst : S115.1 10 0 3 = (lx_k b n q : Nat) := (hF117.1 10 0 3 rfl).trans hk
              have hr := p118
              have hl : ¬ lx_l (b (lx_k b n q)) := by omega
              have hg : lx_g (b (lx_k b n q)) := by omega
              have hkd : lx_kd b n (lx_k b n q) = if lx_de b n (lx_k b n q) - (lx_k b n q) ≤ 6 then 2 else -1 := by unfold lx_kd; rw [if_neg (by omega), if_neg hl, if_pos hg]
              have hen : lx_en b n (lx_k b n q) = lx_de b n (lx_k b n q) := by unfold lx_en; rw [if_neg (by omega), if_neg hl, if_pos hg]
              have hsz : lx_sz b n (lx_k b n q) = lx_de b n (lx_k b n q) - (lx_k b n q) := by unfold lx_sz; rw [if_neg (by omega), if_neg hl, if_pos hg]
              have hvv : lx_kd b n (lx_k b n q) = 2 → S115.1 10 0 5 = lx_vl b n (lx_k b n q) := fun _ => hr.2.2.2.2
              refine sm_T_go 3 (c1 := (103, [some (.inr (.inr (some (10, 0)))), some (.inl (S1.2.2.1 98 0 (S1.1 10 0 8).toNat)), some (.inl v120)], [.inl v120], S115)) rfl ?_
              refine sm_T_b0 (a := 1) (z := 12) rfl (fun c121 => ?_) (fun c121 => ?_)
              · have c121 : v120 ≠ 0 := of_decide_eq_true c121
                refine sm_T_rv rfl (Or.inl ⟨_, _, rfl, rfl, hI116, hF119, ?_⟩)
                refine ⟨hb3, hn3, hn1, by omega, ?_, hst, ?_, ?_, ?_, hvv⟩
                · rw [hkd]; split <;> omega
                · rw [hen]; exact hr.2.1
                · first | (rw [hkd, if_pos (by omega)]; exact hr.2.2.2) | (rw [hkd, if_pos (by omega)]; exact hr.2.2.2.1) | (rw [hkd, if_neg (by omega)]; exact hr.2.2 (by omega))
                · rw [hsz]; first | exact hr.2.2.1 | exact hzz
              · have c121 : ¬ (v120 ≠ 0) := of_decide_eq_false c121
                have b122 : 0 ≤ S115.1 10 0 3 ∧ S115.1 10 0 3 ≤ 1280 := hI116.1 10 0 3 rfl
                refine sm_T_go 4 (c1 := (112, [some (.inr (.inr (some (10, 0)))), some (.inl (S1.2.2.1 98 0 (S1.1 10 0 8).toNat)), some (.inl v120)], [.inl (S115.1 10 0 3), .inl 1, .inr (.inr (some (10, 0)))], S115)) rfl ?_
                refine sm_T_calx (d1 := 0) (Q1 := vq_187 1 (S115.1 10 0 3) S115) (Q2 := vx_187 1 (S115.1 10 0 3) S115) rfl rfl (by decide) (vc_187 1 (S115.1 10 0 3) S115 hI116 (by decide) (by omega)) rfl (fun S123 p126 => ?_) (fun u S123 p126 => ?_)
                · obtain ⟨hI124, hF125, p126⟩ := p126
                  refine Or.inr ⟨_, rfl, hI124, ai_fr_tr hF119 (fr_le hF125 rfl), ?_⟩
                  refine ⟨?_, p126.1, p126.2.trans hst⟩
                  rw [hkd]; first | (rw [if_neg (by omega)]) | (rw [if_pos (by omega)])
                · exact (p126.2.2.2).elim
        · have c86 : ¬ ((S1.2.2.1 98 0 (S1.1 10 0 8).toNat) ≠ 95) := of_decide_eq_false c86
          refine sm_T_go 1 (c1 := (69, [some (.inr (.inr (some (10, 0)))), some (.inl (S1.2.2.1 98 0 (S1.1 10 0 8).toNat)), none], [.inr (.inr (some (10, 0)))], sm_pI (sm_pI S1 10 0 3 (S1.1 10 0 8)) 10 0 4 0)) rfl ?_
          refine sm_T_cal (d1 := 0) (Q1 := vq_193 b n (lx_k b n q) (sm_pI (sm_pI S1 10 0 3 (S1.1 10 0 8)) 10 0 4 0)) rfl rfl (by decide) (vc_193 b n (lx_k b n q) (sm_pI (sm_pI S1 10 0 3 (S1.1 10 0 8)) 10 0 4 0) hI9 (by exact hb2) (by exact hn2) (by exact hn1) (by exact hk) (by omega) (by rfl)) (fun u S128 p131 => ?_)
          obtain ⟨v133, rfl, hI129, hF130, p131⟩ := p131
          have hF132 : ai_fr (sx_W vw_191) S0 S128 := ai_fr_tr hF10 (fr_le hF130 rfl)
          have hb3 : S128.2.2.1 98 0 = b := (fr_arr hF130 rfl).trans hb2
          have hn3 : S128.1 10 0 1 = (n : Int) := (hF130.1 10 0 1 rfl).trans hn2
          have hst : S128.1 10 0 3 = (lx_k b n q : Nat) := (hF130.1 10 0 3 rfl).trans hk
          have hr := p131
          have hl : lx_l (b (lx_k b n q)) := by omega
          have hw := lx_wk_7 (lx_pk b (lx_k b n q) (lx_ne b n (lx_k b n q) - (lx_k b n q)))
          have hkd : lx_kd b n (lx_k b n q) = if lx_ne b n (lx_k b n q) - (lx_k b n q) ≤ 12 then lx_wk (lx_pk b (lx_k b n q) (lx_ne b n (lx_k b n q) - (lx_k b n q))) 7 else -1 := by unfold lx_kd; rw [if_neg (by omega), if_pos hl]
          have hen : lx_en b n (lx_k b n q) = lx_ne b n (lx_k b n q) := by unfold lx_en; rw [if_neg (by omega), if_pos hl]
          have hsz : lx_sz b n (lx_k b n q) = lx_ne b n (lx_k b n q) - (lx_k b n q) := by unfold lx_sz; rw [if_neg (by omega), if_pos hl]
          have hvv : lx_kd b n (lx_k b n q) = 2 → S128.1 10 0 5 = lx_vl b n (lx_k b n q) := by intro h; rw [hkd] at h; split at h <;> omega
          refine sm_T_go 3 (c1 := (103, [some (.inr (.inr (some (10, 0)))), some (.inl (S1.2.2.1 98 0 (S1.1 10 0 8).toNat)), some (.inl v133)], [.inl v133], S128)) rfl ?_
          refine sm_T_b0 (a := 1) (z := 12) rfl (fun c134 => ?_) (fun c134 => ?_)
          · have c134 : v133 ≠ 0 := of_decide_eq_true c134
            refine sm_T_rv rfl (Or.inl ⟨_, _, rfl, rfl, hI129, hF132, ?_⟩)
            refine ⟨hb3, hn3, hn1, by omega, ?_, hst, ?_, ?_, ?_, hvv⟩
            · rw [hkd]; split <;> omega
            · rw [hen]; exact hr.2.1
            · first | (rw [hkd, if_pos (by omega)]; exact hr.2.2.2) | (rw [hkd, if_pos (by omega)]; exact hr.2.2.2.1) | (rw [hkd, if_neg (by omega)]; exact hr.2.2 (by omega))
            · rw [hsz]; first | exact hr.2.2.1 | exact hzz
          · have c134 : ¬ (v133 ≠ 0) := of_decide_eq_false c134
            have b135 : 0 ≤ S128.1 10 0 3 ∧ S128.1 10 0 3 ≤ 1280 := hI129.1 10 0 3 rfl
            refine sm_T_go 4 (c1 := (112, [some (.inr (.inr (some (10, 0)))), some (.inl (S1.2.2.1 98 0 (S1.1 10 0 8).toNat)), some (.inl v133)], [.inl (S128.1 10 0 3), .inl 1, .inr (.inr (some (10, 0)))], S128)) rfl ?_
            refine sm_T_calx (d1 := 0) (Q1 := vq_187 1 (S128.1 10 0 3) S128) (Q2 := vx_187 1 (S128.1 10 0 3) S128) rfl rfl (by decide) (vc_187 1 (S128.1 10 0 3) S128 hI129 (by decide) (by omega)) rfl (fun S136 p139 => ?_) (fun u S136 p139 => ?_)
            · obtain ⟨hI137, hF138, p139⟩ := p139
              refine Or.inr ⟨_, rfl, hI137, ai_fr_tr hF132 (fr_le hF138 rfl), ?_⟩
              refine ⟨?_, p139.1, p139.2.trans hst⟩
              rw [hkd]; first | (rw [if_neg (by omega)]) | (rw [if_pos (by omega)])
            · exact (p139.2.2.2).elim
  · have c12 : ¬ ((S1.1 10 0 8) < (S1.1 10 0 1)) := of_decide_eq_false c12
    have hI141 : gi (sm_pI (sm_pI (sm_pI S1 10 0 3 (S1.1 10 0 8)) 10 0 4 0) 10 0 2 0) := gi_pI hI9 (show (-128) ≤ 0 ∧ 0 ≤ 257 from ⟨by omega, by omega⟩)
    have hF142 : ai_fr (sx_W vw_191) S0 (sm_pI (sm_pI (sm_pI S1 10 0 3 (S1.1 10 0 8)) 10 0 4 0) 10 0 2 0) := ai_fr_tr hF10 (ai_fr_pI rfl)
    refine sm_T_go 3 (c1 := (33, [some (.inr (.inr (some (10, 0)))), none, none], [], sm_pI (sm_pI (sm_pI S1 10 0 3 (S1.1 10 0 8)) 10 0 4 0) 10 0 2 0)) rfl ?_
    refine sm_T_rv rfl (Or.inl ⟨_, _, rfl, rfl, hI141, hF142, ?_⟩)
    refine ⟨hb2, hn2, hn1, by omega, ?_, hk, ?_, ?_, ?_, ?_⟩
    · unfold lx_kd; rw [if_pos (by omega)]; decide
    · unfold lx_en; rw [if_pos (by omega)]; exact hk
    · unfold lx_kd; rw [if_pos (by omega)]; rfl
    · unfold lx_sz; rw [if_pos (by omega)]; rfl
    · unfold lx_kd; rw [if_pos (by omega)]; intro h; omega
/-! Text.need -/
def vw_188 : sx_Wl := ([(10, 2), (10, 3), (10, 4), (10, 5), (10, 6), (10, 7), (10, 8)], [], [])
def vq_188 (w : Int) (b : Nat → Int) (n : Nat) (p : Nat) (S0 : sm_S) (u : Option sm_V) (S1 : sm_S) : Prop := u = none ∧ gi S1 ∧ ai_fr (sx_W vw_188) S0 S1 ∧ (∃ r, p_nd b n w p = .inr r ∧ ct b n r S1)
def vx_188 (w : Int) (b : Nat → Int) (n : Nat) (p : Nat) (S0 : sm_S) (S1 : sm_S) : Prop := gi S1 ∧ ai_fr (sx_W vw_188) S0 S1 ∧ (∃ e, p_nd b n w p = .inl e ∧ ter S1 e)
theorem vc_188 {sc : Nat × (Nat → Int)} (w : Int) (b : Nat → Int) (n : Nat) (p : Nat) (S0 : sm_S) (hI : gi S0) (hc : ct b n p S0) : sm_T (mt_P sc) 2 188 (0, [some (.inr (.inr (some (10, 0)))), some (.inl w)], [], S0) (fun r => (∃ u S1, r = (.inl u, S1, 0) ∧ vq_188 w b n p S0 u S1) ∨ ∃ S1, r = (.inr 2, S1, 1) ∧ vx_188 w b n p S0 S1) := by
  have hF : ai_fr (sx_W vw_188) S0 S0 := ai_fr_rf
  obtain ⟨hb, hn, hn1, hpn, hk, hst, hnx, hkd, hsz, hvl⟩ := hc
  have hel := lx_en_le (b := b) hpn
  have b1 : (-128) ≤ S0.1 10 0 2 ∧ S0.1 10 0 2 ≤ 257 := hI.1 10 0 2 rfl
  refine sm_T_go 3 (c1 := (5, [some (.inr (.inr (some (10, 0)))), some (.inl w)], [.inl w, .inl (S0.1 10 0 2)], S0)) rfl ?_
  refine sm_T_br (a := 0) (z := 12) rfl (fun c2 => ?_) (fun c2 => ?_)
  · have c2 : (S0.1 10 0 2) = w := of_decide_eq_true c2
    refine sm_T_go 1 (c1 := (18, [some (.inr (.inr (some (10, 0)))), some (.inl w)], [.inr (.inr (some (10, 0)))], S0)) rfl ?_
    refine sm_T_calx (d1 := 1) (Q1 := vq_191 b n (lx_en b n p) S0) (Q2 := vx_191 b n (lx_en b n p) S0) rfl rfl (by decide) (vc_191 b n (lx_en b n p) S0 hI (by exact hb) (by exact hn) (by exact hn1) (by exact hnx) (by omega)) rfl (fun S3 p6 => ?_) (fun u S3 p6 => ?_)
    · obtain ⟨hI4, hF5, p6⟩ := p6
      refine Or.inr ⟨_, rfl, hI4, ai_fr_tr hF (fr_le hF5 rfl), ?_⟩
      refine ⟨(1, lx_nx b n p), ?_, p6.2⟩
      unfold p_nd p_ad lx_nx; rw [if_pos (by omega), if_pos p6.1]
    obtain ⟨rfl, hI4, hF5, p6⟩ := p6
    have hF7 : ai_fr (sx_W vw_188) S0 S3 := ai_fr_tr hF (fr_le hF5 rfl)
    have hct := p6
    refine sm_T_rv rfl (Or.inl ⟨_, _, rfl, rfl, hI4, hF7, ?_⟩)
    exact ⟨lx_nx b n p, by unfold p_nd p_ad lx_nx; rw [if_pos (by omega), if_neg hct.2.2.2.2.1], hct⟩
  · have c2 : ¬ ((S0.1 10 0 2) = w) := of_decide_eq_false c2
    have b8 : 0 ≤ S0.1 10 0 3 ∧ S0.1 10 0 3 ≤ 1280 := hI.1 10 0 3 rfl
    refine sm_T_go 4 (c1 := (14, [some (.inr (.inr (some (10, 0)))), some (.inl w)], [.inl (S0.1 10 0 3), .inl 2, .inr (.inr (some (10, 0)))], S0)) rfl ?_
    refine sm_T_calx (d1 := 0) (Q1 := vq_187 2 (S0.1 10 0 3) S0) (Q2 := vx_187 2 (S0.1 10 0 3) S0) rfl rfl (by decide) (vc_187 2 (S0.1 10 0 3) S0 hI (by decide) (by omega)) rfl (fun S9 p12 => ?_) (fun u S9 p12 => ?_)
    · obtain ⟨hI10, hF11, p12⟩ := p12
      refine Or.inr ⟨_, rfl, hI10, ai_fr_tr hF (fr_le hF11 rfl), ?_⟩
      refine ⟨(2, p), ?_, p12.1, p12.2.trans hst⟩
      unfold p_nd; rw [if_neg (by omega)]
    · exact (p12.2.2.2).elim
/-! Text.begin -/
def vw_186 : sx_Wl := ([(10, 2), (10, 3), (10, 4), (10, 5), (10, 6), (10, 7), (10, 8)], [], [])
def vq_186 (b : Nat → Int) (n : Nat) (S0 : sm_S) (u : Option sm_V) (S1 : sm_S) : Prop := u = none ∧ gi S1 ∧ ai_fr (sx_W vw_186) S0 S1 ∧ (ct b n (lx_k b n 0) S1)
def vx_186 (b : Nat → Int) (n : Nat) (S0 : sm_S) (S1 : sm_S) : Prop := gi S1 ∧ ai_fr (sx_W vw_186) S0 S1 ∧ (lx_kd b n (lx_k b n 0) = -1 ∧ ter S1 (1, lx_k b n 0))
theorem vc_186 {sc : Nat × (Nat → Int)} (b : Nat → Int) (n : Nat) (S0 : sm_S) (hI : gi S0) (hb : S0.2.2.1 98 0 = b) (hn : (S0.1 10 0 1) = (n : Int)) (hn1 : n ≤ 1280) : sm_T (mt_P sc) 2 186 (0, [some (.inr (.inr (some (10, 0))))], [], S0) (fun r => (∃ u S1, r = (.inl u, S1, 0) ∧ vq_186 b n S0 u S1) ∨ ∃ S1, r = (.inr 2, S1, 1) ∧ vx_186 b n S0 S1) := by
  have hF : ai_fr (sx_W vw_186) S0 S0 := ai_fr_rf
  have hI1 : gi (sm_pI S0 10 0 8 0) := gi_pI hI (show 0 ≤ 0 ∧ 0 ≤ 1280 from ⟨by omega, by omega⟩)
  have hF2 : ai_fr (sx_W vw_186) S0 (sm_pI S0 10 0 8 0) := ai_fr_tr hF (ai_fr_pI rfl)
  have hI3 : gi (sm_pI (sm_pI S0 10 0 8 0) 10 0 6 0) := gi_pI hI1 (show 0 ≤ 0 ∧ 0 ≤ 23 from ⟨by omega, by omega⟩)
  have hF4 : ai_fr (sx_W vw_186) S0 (sm_pI (sm_pI S0 10 0 8 0) 10 0 6 0) := ai_fr_tr hF2 (ai_fr_pI rfl)
  have hI5 : gi (sm_pI (sm_pI (sm_pI S0 10 0 8 0) 10 0 6 0) 10 0 7 0) := gi_pI hI3 (show 0 ≤ 0 ∧ 0 ≤ 4095 from ⟨by omega, by omega⟩)
  have hF6 : ai_fr (sx_W vw_186) S0 (sm_pI (sm_pI (sm_pI S0 10 0 8 0) 10 0 6 0) 10 0 7 0) := ai_fr_tr hF4 (ai_fr_pI rfl)
  refine sm_T_go 10 (c1 := (16, [some (.inr (.inr (some (10, 0))))], [.inr (.inr (some (10, 0)))], sm_pI (sm_pI (sm_pI S0 10 0 8 0) 10 0 6 0) 10 0 7 0)) rfl ?_
  refine sm_T_calx (d1 := 1) (Q1 := vq_191 b n 0 (sm_pI (sm_pI (sm_pI S0 10 0 8 0) 10 0 6 0) 10 0 7 0)) (Q2 := vx_191 b n 0 (sm_pI (sm_pI (sm_pI S0 10 0 8 0) 10 0 6 0) 10 0 7 0)) rfl rfl (by decide) (vc_191 b n 0 (sm_pI (sm_pI (sm_pI S0 10 0 8 0) 10 0 6 0) 10 0 7 0) hI5 (by exact hb) (by exact hn) (by exact hn1) (by rfl) (by omega)) rfl (fun S7 p10 => ?_) (fun u S7 p10 => ?_)
  · obtain ⟨hI8, hF9, p10⟩ := p10
    refine Or.inr ⟨_, rfl, hI8, ai_fr_tr hF6 (fr_le hF9 rfl), ?_⟩
    exact p10
  obtain ⟨rfl, hI8, hF9, p10⟩ := p10
  have hF11 : ai_fr (sx_W vw_186) S0 S7 := ai_fr_tr hF6 (fr_le hF9 rfl)
  have hct := p10
  refine sm_T_rv rfl (Or.inl ⟨_, _, rfl, rfl, hI8, hF11, ?_⟩)
  exact hct
