/-! 99.zkca -/
section
/-! wires spread; written by wip/p55/gen/vg -/

/-! wires spread -/
def rgw (S_ : sm_S) : Prop := 1 ≤ S_.1 8 0 1 ∧ 1 ≤ S_.1 8 0 2 ∧ ∃ k_, S_.1 8 0 2 = k_ * S_.1 8 0 1
def rsp (bb_ : Nat) (t_ : Int) (S_ : sm_S) : Prop := rsf (S_.1 8 0 1) (S_.1 8 0 2) t_ (S_.2.2.1 22 (0 + bb_)) (S_.2.2.1 86 0) (S_.2.2.1 87 0) (S_.2.2.1 88 0) (S_.1 8 0 6) (S_.1 8 0 8)
/-- what a_ point reached leaves -/
def rmo (S_ S'_ : sm_S) : Prop := (∀ p_, S_.2.2.1 86 0 p_ ≠ -1 → S'_.2.2.1 86 0 p_ = S_.2.2.1 86 0 p_) ∧ S_.1 8 0 6 ≤ S'_.1 8 0 6 ∧ S_.1 8 0 8 ≤ S'_.1 8 0 8
theorem rmo_rf {S_ : sm_S} : rmo S_ S_ := ⟨fun _ _ => rfl, Int.le_refl _, Int.le_refl _⟩
theorem rmo_tr {S_ S'_ S2_ : sm_S} (h_ : rmo S_ S'_) (g_ : rmo S'_ S2_) : rmo S_ S2_ := ⟨fun p_ hp_ => (g_.1 p_ (by rw [h_.1 p_ hp_]; exact hp_)).trans (h_.1 p_ hp_), Int.le_trans h_.2.1 g_.2.1, Int.le_trans h_.2.2 g_.2.2⟩
theorem rsp_b {bb_ : Nat} {t_ x_ : Int} {S_ : sm_S} (h_ : rsp bb_ t_ S_) (hx_ : 0 ≤ x_ ∧ x_ < 2 * S_.1 8 0 2) (hf_ : S_.2.2.1 86 0 x_.toNat = -1) : S_.1 8 0 6 + S_.1 8 0 8 < 2 * S_.1 8 0 2 := by
  have c_ := h_.2.2.1
  have q_ := cne_st (f := S_.2.2.1 86 0) (c := -1) (j := x_.toNat) hf_ (n := (2 * S_.1 8 0 2).toNat) (by omega)
  omega
theorem rsp_n {bb_ : Nat} {t_ q_ s_ b_ : Int} {S_ : sm_S} (h_ : rsp bb_ t_ S_) (ht_ : 0 ≤ t_) (hq_ : 0 ≤ q_ ∧ q_ < 2 * S_.1 8 0 2) (hs_ : 0 ≤ s_ ∧ s_ < 2 * S_.1 8 0 2) (hf_ : S_.2.2.1 86 0 q_.toNat = -1) (hb_ : S_.2.2.1 86 0 s_.toNat = b_) (hb0_ : 0 ≤ b_) (h6_ : 0 ≤ S_.1 8 0 6) (hn_ : ∃ d_, (0 ≤ d_ ∧ d_ < 5) ∧ nb (S_.1 8 0 1) (S_.1 8 0 2) q_ d_ = s_) (ho_ : S_.2.2.1 22 (0 + bb_) q_.toNat = -1) :
    rsp bb_ t_ (sm_pI (sm_aI (sm_aI S_ 86 0 q_.toNat (b_ + 1)) 87 0 (S_.1 8 0 6).toNat q_) 8 0 6 (S_.1 8 0 6 + 1)) ∧ rmo S_ (sm_pI (sm_aI (sm_aI S_ 86 0 q_.toNat (b_ + 1)) 87 0 (S_.1 8 0 6).toNat q_) 8 0 6 (S_.1 8 0 6 + 1)) := by
  have r1_ : ∀ k_, (sm_pI (sm_aI (sm_aI S_ 86 0 q_.toNat (b_ + 1)) 87 0 (S_.1 8 0 6).toNat q_) 8 0 6 (S_.1 8 0 6 + 1)).2.2.1 86 0 k_ = if k_ = q_.toNat then b_ + 1 else S_.2.2.1 86 0 k_ := fun k_ => by rw [rd_fa, rd_ne (by decide), rd_eq]
  have r2_ : ∀ k_, (sm_pI (sm_aI (sm_aI S_ 86 0 q_.toNat (b_ + 1)) 87 0 (S_.1 8 0 6).toNat q_) 8 0 6 (S_.1 8 0 6 + 1)).2.2.1 87 0 k_ = if k_ = (S_.1 8 0 6).toNat then q_ else S_.2.2.1 87 0 k_ := fun k_ => by rw [rd_fa, rd_eq, rd_ne (by decide)]
  have pr_ : prc (S_.2.2.1 22 (0 + bb_)) t_ q_.toNat = 1 := by
    unfold prc
    rw [if_pos (Or.inl ho_)]
  refine ⟨?_, ?_, ?_, ?_⟩
  · show rsf (S_.1 8 0 1) (S_.1 8 0 2) t_ (S_.2.2.1 22 (0 + bb_)) ((sm_pI (sm_aI (sm_aI S_ 86 0 q_.toNat (b_ + 1)) 87 0 (S_.1 8 0 6).toNat q_) 8 0 6 (S_.1 8 0 6 + 1)).2.2.1 86 0) ((sm_pI (sm_aI (sm_aI S_ 86 0 q_.toNat (b_ + 1)) 87 0 (S_.1 8 0 6).toNat q_) 8 0 6 (S_.1 8 0 6 + 1)).2.2.1 87 0) (S_.2.2.1 88 0) (S_.1 8 0 6 + 1) (S_.1 8 0 8)
    refine rsf_a h_ ht_ hq_ hs_ hf_ hb_ hb0_ hn_ (fun k_ => by rw [r1_, pr_]) (by omega) (fun i_ hi_ => ?_) (fun i_ hi_ => Or.inr ⟨hi_, rfl⟩)
    rw [r2_]
    by_cases z_ : i_ = (S_.1 8 0 6).toNat
    · rw [if_pos z_]; exact Or.inl rfl
    · rw [if_neg z_]; exact Or.inr ⟨by omega, rfl⟩
  · intro p_ hp_
    rw [r1_, if_neg (fun z_ => hp_ (by rw [z_]; exact hf_))]
  · show S_.1 8 0 6 ≤ S_.1 8 0 6 + 1
    omega
  · exact Int.le_refl _
theorem rsp_f {bb_ : Nat} {t_ q_ s_ b_ : Int} {S_ : sm_S} (h_ : rsp bb_ t_ S_) (ht_ : 0 ≤ t_) (hq_ : 0 ≤ q_ ∧ q_ < 2 * S_.1 8 0 2) (hs_ : 0 ≤ s_ ∧ s_ < 2 * S_.1 8 0 2) (hf_ : S_.2.2.1 86 0 q_.toNat = -1) (hb_ : S_.2.2.1 86 0 s_.toNat = b_) (hb0_ : 0 ≤ b_) (h8_ : 0 ≤ S_.1 8 0 8) (hn_ : ∃ d_, (0 ≤ d_ ∧ d_ < 5) ∧ nb (S_.1 8 0 1) (S_.1 8 0 2) q_ d_ = s_) (ho_ : S_.2.2.1 22 (0 + bb_) q_.toNat ≠ -1) :
    rsp bb_ t_ (sm_pI (sm_aI (sm_aI S_ 86 0 q_.toNat (b_ + 11)) 88 0 (S_.1 8 0 8).toNat q_) 8 0 8 (S_.1 8 0 8 + 1)) ∧ rmo S_ (sm_pI (sm_aI (sm_aI S_ 86 0 q_.toNat (b_ + 11)) 88 0 (S_.1 8 0 8).toNat q_) 8 0 8 (S_.1 8 0 8 + 1)) := by
  have r1_ : ∀ k_, (sm_pI (sm_aI (sm_aI S_ 86 0 q_.toNat (b_ + 11)) 88 0 (S_.1 8 0 8).toNat q_) 8 0 8 (S_.1 8 0 8 + 1)).2.2.1 86 0 k_ = if k_ = q_.toNat then b_ + 11 else S_.2.2.1 86 0 k_ := fun k_ => by rw [rd_fa, rd_ne (by decide), rd_eq]
  have r2_ : ∀ k_, (sm_pI (sm_aI (sm_aI S_ 86 0 q_.toNat (b_ + 11)) 88 0 (S_.1 8 0 8).toNat q_) 8 0 8 (S_.1 8 0 8 + 1)).2.2.1 88 0 k_ = if k_ = (S_.1 8 0 8).toNat then q_ else S_.2.2.1 88 0 k_ := fun k_ => by rw [rd_fa, rd_eq, rd_ne (by decide)]
  have no_ : S_.2.2.1 22 (0 + bb_) q_.toNat ≠ t_ := fun z_ => by
    have y_ := (h_.1 q_.toNat (by omega)).mpr z_
    omega
  have pr_ : prc (S_.2.2.1 22 (0 + bb_)) t_ q_.toNat = 11 := by
    unfold prc
    rw [if_neg (fun z_ => z_.elim ho_ no_)]
  refine ⟨?_, ?_, ?_, ?_⟩
  · show rsf (S_.1 8 0 1) (S_.1 8 0 2) t_ (S_.2.2.1 22 (0 + bb_)) ((sm_pI (sm_aI (sm_aI S_ 86 0 q_.toNat (b_ + 11)) 88 0 (S_.1 8 0 8).toNat q_) 8 0 8 (S_.1 8 0 8 + 1)).2.2.1 86 0) (S_.2.2.1 87 0) ((sm_pI (sm_aI (sm_aI S_ 86 0 q_.toNat (b_ + 11)) 88 0 (S_.1 8 0 8).toNat q_) 8 0 8 (S_.1 8 0 8 + 1)).2.2.1 88 0) (S_.1 8 0 6) (S_.1 8 0 8 + 1)
    refine rsf_a h_ ht_ hq_ hs_ hf_ hb_ hb0_ hn_ (fun k_ => by rw [r1_, pr_]) (by omega) (fun i_ hi_ => Or.inr ⟨hi_, rfl⟩) (fun i_ hi_ => ?_)
    rw [r2_]
    by_cases z_ : i_ = (S_.1 8 0 8).toNat
    · rw [if_pos z_]; exact Or.inl rfl
    · rw [if_neg z_]; exact Or.inr ⟨by omega, rfl⟩
  · intro p_ hp_
    rw [r1_, if_neg (fun z_ => hp_ (by rw [z_]; exact hf_))]
  · exact Int.le_refl _
  · show S_.1 8 0 8 ≤ S_.1 8 0 8 + 1
    omega
/-! Router.reach -/
def vw_163 : sx_Wl := ([(8, 6), (8, 8)], [86, 87, 88], [])
def vq_163 (a1_ : Int) (a2_ : Int) (a3_ : Int) (a4_ : Int) (bb_ : Nat) (pp_ : Int) (S0_ : sm_S) (u_ : Option sm_V) (S1_ : sm_S) : Prop := u_ = none ∧ gi S1_ ∧ ai_fr (sx_W vw_163) S0_ S1_ ∧ (rsp bb_ a3_ S1_ ∧ rmo S0_ S1_)
set_option maxHeartbeats 400000 in
theorem vc_163 {sc_ : Nat × (Nat → Int)} (a1_ : Int) (a2_ : Int) (a3_ : Int) (a4_ : Int) (bb_ : Nat) (pp_ : Int) (S0_ : sm_S) (hI_ : gi S0_) (hb_ : S0_.2.1 8 0 0 = some bb_) (hg_ : rgw S0_) (hr_ : rsp bb_ a3_ S0_) (h1_ : 0 ≤ a1_ ∧ a1_ < 2 * S0_.1 8 0 2) (h3_ : 0 ≤ a3_ ∧ a3_ ≤ 161) (hs_ : 0 ≤ pp_ ∧ pp_ < 2 * S0_.1 8 0 2) (h2_ : S0_.2.2.1 86 0 pp_.toNat = a2_) (h20_ : 0 ≤ a2_) (hn_ : ∃ d_, (0 ≤ d_ ∧ d_ < 5) ∧ nb (S0_.1 8 0 1) (S0_.1 8 0 2) a1_ d_ = pp_) : sm_T (mt_P sc_) 0 163 (0, [some (.inr (.inr (some (8, 0)))), some (.inl a1_), some (.inl a2_), some (.inl a3_), some (.inl a4_)], [], S0_) (fun ro9_ => ∃ u_ S1_, ro9_ = (.inl u_, S1_, 0) ∧ vq_163 a1_ a2_ a3_ a4_ bb_ pp_ S0_ u_ S1_) := by
  have hF_ : ai_fr (sx_W vw_163) S0_ S0_ := ai_fr_rf
  have cL_ : 0 ≤ S0_.1 8 0 2 ∧ S0_.1 8 0 2 ≤ 2356 := hI_.1 8 0 2 rfl
  have c6_ : 0 ≤ S0_.1 8 0 6 ∧ S0_.1 8 0 6 ≤ 4712 := hI_.1 8 0 6 rfl
  have c8_ : 0 ≤ S0_.1 8 0 8 ∧ S0_.1 8 0 8 ≤ 4712 := hI_.1 8 0 8 rfl
  have g9_ := hr_.2.2.2.2.2 pp_.toNat (by omega)
  have C9_ := hr_.2.2.1
  refine sm_T_go 3 (c1 := (5, [some (.inr (.inr (some (8, 0)))), some (.inl a1_), some (.inl a2_), some (.inl a3_), some (.inl a4_)], [.inl a1_, .inr (.inr (some (86, 0)))], S0_)) rfl ?_
  refine sm_T_iald (n := 4712) rfl rfl (by omega) (by omega) ?_
  have bx1_ : (-1) ≤ S0_.2.2.1 86 0 a1_.toNat ∧ S0_.2.2.1 86 0 a1_.toNat ≤ 100000 := hI_.2 86 0 _
  refine sm_T_go 1 (c1 := (7, [some (.inr (.inr (some (8, 0)))), some (.inl a1_), some (.inl a2_), some (.inl a3_), some (.inl a4_)], [.inl (-1), .inl (S0_.2.2.1 86 0 a1_.toNat)], S0_)) rfl ?_
  refine sm_T_br (a := 1) (z := 23) rfl (fun cx2_ => ?_) (fun cx2_ => ?_)
  · have cx2_ : (S0_.2.2.1 86 0 a1_.toNat) ≠ (-1) := of_decide_eq_true cx2_
    refine sm_T_rv rfl ⟨_, _, rfl, rfl, hI_, hF_, ?_⟩
    exact ⟨hr_, rmo_rf⟩
  · have cx2_ : ¬ ((S0_.2.2.1 86 0 a1_.toNat) ≠ (-1)) := of_decide_eq_false cx2_
    have f9_ : S0_.2.2.1 86 0 a1_.toNat = -1 := by omega
    have b9_ := rsp_b hr_ h1_ f9_
    refine sm_T_go 3 (c1 := (15, [some (.inr (.inr (some (8, 0)))), some (.inl a1_), some (.inl a2_), some (.inl a3_), some (.inl a4_)], [.inl a1_, .inr (.inr (some (85, 0)))], S0_)) rfl ?_
    refine sm_T_iald (n := 4712) rfl rfl (by omega) (by omega) ?_
    have bx3_ : (-1) ≤ S0_.2.2.1 85 0 a1_.toNat ∧ S0_.2.2.1 85 0 a1_.toNat ≤ 161 := hI_.2 85 0 _
    refine sm_T_go 1 (c1 := (17, [some (.inr (.inr (some (8, 0)))), some (.inl a1_), some (.inl a2_), some (.inl a3_), some (.inl a4_)], [.inl (-1), .inl (S0_.2.2.1 85 0 a1_.toNat)], S0_)) rfl ?_
    refine sm_T_br (a := 0) (z := 14) rfl (fun cx4_ => ?_) (fun cx4_ => ?_)
    · have cx4_ : (S0_.2.2.1 85 0 a1_.toNat) = (-1) := of_decide_eq_true cx4_
      refine sm_T_go 1 (c1 := (32, [some (.inr (.inr (some (8, 0)))), some (.inl a1_), some (.inl a2_), some (.inl a3_), some (.inl a4_)], [.inr (.inr (some (8, 0)))], S0_)) rfl ?_
      refine sm_T_gr rfl rfl ((hF_.2.1 8 0 0 rfl).trans hb_) ?_
      refine sm_T_go 2 (c1 := (39, [some (.inr (.inr (some (8, 0)))), some (.inl a1_), some (.inl a2_), some (.inl a3_), some (.inl a4_)], [.inl a1_, .inr (.inr (some (22, (0 + bb_))))], S0_)) rfl ?_
      refine sm_T_iald (n := 4712) rfl rfl (by omega) (by omega) ?_
      have bx5_ : (-1) ≤ S0_.2.2.1 22 (0 + bb_) a1_.toNat ∧ S0_.2.2.1 22 (0 + bb_) a1_.toNat ≤ 161 := hI_.2 22 (0 + bb_) _
      refine sm_T_go 1 (c1 := (41, [some (.inr (.inr (some (8, 0)))), some (.inl a1_), some (.inl a2_), some (.inl a3_), some (.inl a4_)], [.inl (-1), .inl (S0_.2.2.1 22 (0 + bb_) a1_.toNat)], S0_)) rfl ?_
      refine sm_T_br (a := 1) (z := 35) rfl (fun cx6_ => ?_) (fun cx6_ => ?_)
      · have cx6_ : (S0_.2.2.1 22 (0 + bb_) a1_.toNat) ≠ (-1) := of_decide_eq_true cx6_
        refine sm_T_go 1 (c1 := (78, [some (.inr (.inr (some (8, 0)))), some (.inl a1_), some (.inl a2_), some (.inl a3_), some (.inl a4_)], [.inl a4_], S0_)) rfl ?_
        refine sm_T_b0 (a := 0) (z := 33) rfl (fun cx7_ => ?_) (fun cx7_ => ?_)
        · have cx7_ : a4_ = 0 := of_decide_eq_true cx7_
          refine sm_T_rv rfl ⟨_, _, rfl, rfl, hI_, hF_, ?_⟩
          first | exact ⟨hr_, rmo_rf⟩ | exact rsp_n hr_ h3_.1 h1_ hs_ f9_ h2_ h20_ c6_.1 hn_ (by omega) | exact rsp_f hr_ h3_.1 h1_ hs_ f9_ h2_ h20_ c8_.1 hn_ (by omega)
        · have cx7_ : ¬ (a4_ = 0) := of_decide_eq_false cx7_
          refine sm_T_go 5 (c1 := (89, [some (.inr (.inr (some (8, 0)))), some (.inl a1_), some (.inl a2_), some (.inl a3_), some (.inl a4_)], [.inl 11, .inl a2_, .inl a1_, .inr (.inr (some (86, 0)))], S0_)) rfl ?_
          refine sm_T_bin (w := a2_ + 11) rfl (bi_add (by omega) (by omega) (by omega)) ?_ -- pc_ 89
          refine sm_T_iast (n := 4712) rfl rfl (by omega) (by omega) ?_
          have hIx8_ : gi (sm_aI S0_ 86 0 a1_.toNat (a2_ + 11)) := gi_aI hI_ (show (-1) ≤ a2_ + 11 ∧ a2_ + 11 ≤ 100000 from ⟨by omega, by omega⟩)
          have hFx9_ : ai_fr (sx_W vw_163) S0_ (sm_aI S0_ 86 0 a1_.toNat (a2_ + 11)) := ai_fr_tr hF_ (ai_fr_aI rfl)
          have bx10_ : 0 ≤ S0_.1 8 0 8 ∧ S0_.1 8 0 8 ≤ 4712 := hI_.1 8 0 8 rfl
          refine sm_T_go 5 (c1 := (100, [some (.inr (.inr (some (8, 0)))), some (.inl a1_), some (.inl a2_), some (.inl a3_), some (.inl a4_)], [.inl a1_, .inl (S0_.1 8 0 8), .inr (.inr (some (88, 0)))], sm_aI S0_ 86 0 a1_.toNat (a2_ + 11))) rfl ?_
          refine sm_T_iast (n := 4712) rfl rfl (by omega) (by omega) ?_
          have hIx11_ : gi (sm_aI (sm_aI S0_ 86 0 a1_.toNat (a2_ + 11)) 88 0 (S0_.1 8 0 8).toNat a1_) := gi_aI hIx8_ (show 0 ≤ a1_ ∧ a1_ ≤ 4711 from ⟨by omega, by omega⟩)
          have hFx12_ : ai_fr (sx_W vw_163) S0_ (sm_aI (sm_aI S0_ 86 0 a1_.toNat (a2_ + 11)) 88 0 (S0_.1 8 0 8).toNat a1_) := ai_fr_tr hFx9_ (ai_fr_aI rfl)
          refine sm_T_go 4 (c1 := (107, [some (.inr (.inr (some (8, 0)))), some (.inl a1_), some (.inl a2_), some (.inl a3_), some (.inl a4_)], [.inl 1, .inl (S0_.1 8 0 8), .inr (.inr (some (8, 0)))], sm_aI (sm_aI S0_ 86 0 a1_.toNat (a2_ + 11)) 88 0 (S0_.1 8 0 8).toNat a1_)) rfl ?_
          refine sm_T_bin (w := (S0_.1 8 0 8) + 1) rfl (bi_add (by omega) (by omega) (by omega)) ?_ -- pc_ 107
          have hIx13_ : gi (sm_pI (sm_aI (sm_aI S0_ 86 0 a1_.toNat (a2_ + 11)) 88 0 (S0_.1 8 0 8).toNat a1_) 8 0 8 ((S0_.1 8 0 8) + 1)) := gi_pI hIx11_ (show 0 ≤ (S0_.1 8 0 8) + 1 ∧ (S0_.1 8 0 8) + 1 ≤ 4712 from ⟨by omega, by omega⟩)
          have hFx14_ : ai_fr (sx_W vw_163) S0_ (sm_pI (sm_aI (sm_aI S0_ 86 0 a1_.toNat (a2_ + 11)) 88 0 (S0_.1 8 0 8).toNat a1_) 8 0 8 ((S0_.1 8 0 8) + 1)) := ai_fr_tr hFx12_ (ai_fr_pI rfl)
          refine sm_T_go 1 (c1 := (111, [some (.inr (.inr (some (8, 0)))), some (.inl a1_), some (.inl a2_), some (.inl a3_), some (.inl a4_)], [], sm_pI (sm_aI (sm_aI S0_ 86 0 a1_.toNat (a2_ + 11)) 88 0 (S0_.1 8 0 8).toNat a1_) 8 0 8 ((S0_.1 8 0 8) + 1))) rfl ?_
          refine sm_T_rv rfl ⟨_, _, rfl, rfl, hIx13_, hFx14_, ?_⟩
          first | exact ⟨hr_, rmo_rf⟩ | exact rsp_n hr_ h3_.1 h1_ hs_ f9_ h2_ h20_ c6_.1 hn_ (by omega) | exact rsp_f hr_ h3_.1 h1_ hs_ f9_ h2_ h20_ c8_.1 hn_ (by omega)
      · have cx6_ : ¬ ((S0_.2.2.1 22 (0 + bb_) a1_.toNat) ≠ (-1)) := of_decide_eq_false cx6_
        refine sm_T_go 5 (c1 := (51, [some (.inr (.inr (some (8, 0)))), some (.inl a1_), some (.inl a2_), some (.inl a3_), some (.inl a4_)], [.inl 1, .inl a2_, .inl a1_, .inr (.inr (some (86, 0)))], S0_)) rfl ?_
        refine sm_T_bin (w := a2_ + 1) rfl (bi_add (by omega) (by omega) (by omega)) ?_ -- pc_ 51
        refine sm_T_iast (n := 4712) rfl rfl (by omega) (by omega) ?_
        have hIx15_ : gi (sm_aI S0_ 86 0 a1_.toNat (a2_ + 1)) := gi_aI hI_ (show (-1) ≤ a2_ + 1 ∧ a2_ + 1 ≤ 100000 from ⟨by omega, by omega⟩)
        have hFx16_ : ai_fr (sx_W vw_163) S0_ (sm_aI S0_ 86 0 a1_.toNat (a2_ + 1)) := ai_fr_tr hF_ (ai_fr_aI rfl)
        have bx17_ : 0 ≤ S0_.1 8 0 6 ∧ S0_.1 8 0 6 ≤ 4712 := hI_.1 8 0 6 rfl
        refine sm_T_go 5 (c1 := (62, [some (.inr (.inr (some (8, 0)))), some (.inl a1_), some (.inl a2_), some (.inl a3_), some (.inl a4_)], [.inl a1_, .inl (S0_.1 8 0 6), .inr (.inr (some (87, 0)))], sm_aI S0_ 86 0 a1_.toNat (a2_ + 1))) rfl ?_
        refine sm_T_iast (n := 4712) rfl rfl (by omega) (by omega) ?_
        have hIx18_ : gi (sm_aI (sm_aI S0_ 86 0 a1_.toNat (a2_ + 1)) 87 0 (S0_.1 8 0 6).toNat a1_) := gi_aI hIx15_ (show 0 ≤ a1_ ∧ a1_ ≤ 4711 from ⟨by omega, by omega⟩)
        have hFx19_ : ai_fr (sx_W vw_163) S0_ (sm_aI (sm_aI S0_ 86 0 a1_.toNat (a2_ + 1)) 87 0 (S0_.1 8 0 6).toNat a1_) := ai_fr_tr hFx16_ (ai_fr_aI rfl)
        refine sm_T_go 4 (c1 := (69, [some (.inr (.inr (some (8, 0)))), some (.inl a1_), some (.inl a2_), some (.inl a3_), some (.inl a4_)], [.inl 1, .inl (S0_.1 8 0 6), .inr (.inr (some (8, 0)))], sm_aI (sm_aI S0_ 86 0 a1_.toNat (a2_ + 1)) 87 0 (S0_.1 8 0 6).toNat a1_)) rfl ?_
        refine sm_T_bin (w := (S0_.1 8 0 6) + 1) rfl (bi_add (by omega) (by omega) (by omega)) ?_ -- pc_ 69
        have hIx20_ : gi (sm_pI (sm_aI (sm_aI S0_ 86 0 a1_.toNat (a2_ + 1)) 87 0 (S0_.1 8 0 6).toNat a1_) 8 0 6 ((S0_.1 8 0 6) + 1)) := gi_pI hIx18_ (show 0 ≤ (S0_.1 8 0 6) + 1 ∧ (S0_.1 8 0 6) + 1 ≤ 4712 from ⟨by omega, by omega⟩)
        have hFx21_ : ai_fr (sx_W vw_163) S0_ (sm_pI (sm_aI (sm_aI S0_ 86 0 a1_.toNat (a2_ + 1)) 87 0 (S0_.1 8 0 6).toNat a1_) 8 0 6 ((S0_.1 8 0 6) + 1)) := ai_fr_tr hFx19_ (ai_fr_pI rfl)
        refine sm_T_go 2 (c1 := (111, [some (.inr (.inr (some (8, 0)))), some (.inl a1_), some (.inl a2_), some (.inl a3_), some (.inl a4_)], [], sm_pI (sm_aI (sm_aI S0_ 86 0 a1_.toNat (a2_ + 1)) 87 0 (S0_.1 8 0 6).toNat a1_) 8 0 6 ((S0_.1 8 0 6) + 1))) rfl ?_
        refine sm_T_rv rfl ⟨_, _, rfl, rfl, hIx20_, hFx21_, ?_⟩
        first | exact ⟨hr_, rmo_rf⟩ | exact rsp_n hr_ h3_.1 h1_ hs_ f9_ h2_ h20_ c6_.1 hn_ (by omega) | exact rsp_f hr_ h3_.1 h1_ hs_ f9_ h2_ h20_ c8_.1 hn_ (by omega)
    · have cx4_ : ¬ ((S0_.2.2.1 85 0 a1_.toNat) = (-1)) := of_decide_eq_false cx4_
      refine sm_T_go 3 (c1 := (25, [some (.inr (.inr (some (8, 0)))), some (.inl a1_), some (.inl a2_), some (.inl a3_), some (.inl a4_)], [.inl a1_, .inr (.inr (some (85, 0)))], S0_)) rfl ?_
      refine sm_T_iald (n := 4712) rfl rfl (by omega) (by omega) ?_
      refine sm_T_go 1 (c1 := (27, [some (.inr (.inr (some (8, 0)))), some (.inl a1_), some (.inl a2_), some (.inl a3_), some (.inl a4_)], [.inl a3_, .inl (S0_.2.2.1 85 0 a1_.toNat)], S0_)) rfl ?_
      refine sm_T_br (a := 0) (z := 4) rfl (fun cx22_ => ?_) (fun cx22_ => ?_)
      · have cx22_ : (S0_.2.2.1 85 0 a1_.toNat) = a3_ := of_decide_eq_true cx22_
        refine sm_T_go 1 (c1 := (32, [some (.inr (.inr (some (8, 0)))), some (.inl a1_), some (.inl a2_), some (.inl a3_), some (.inl a4_)], [.inr (.inr (some (8, 0)))], S0_)) rfl ?_
        refine sm_T_gr rfl rfl ((hF_.2.1 8 0 0 rfl).trans hb_) ?_
        refine sm_T_go 2 (c1 := (39, [some (.inr (.inr (some (8, 0)))), some (.inl a1_), some (.inl a2_), some (.inl a3_), some (.inl a4_)], [.inl a1_, .inr (.inr (some (22, (0 + bb_))))], S0_)) rfl ?_
        refine sm_T_iald (n := 4712) rfl rfl (by omega) (by omega) ?_
        have bx23_ : (-1) ≤ S0_.2.2.1 22 (0 + bb_) a1_.toNat ∧ S0_.2.2.1 22 (0 + bb_) a1_.toNat ≤ 161 := hI_.2 22 (0 + bb_) _
        refine sm_T_go 1 (c1 := (41, [some (.inr (.inr (some (8, 0)))), some (.inl a1_), some (.inl a2_), some (.inl a3_), some (.inl a4_)], [.inl (-1), .inl (S0_.2.2.1 22 (0 + bb_) a1_.toNat)], S0_)) rfl ?_
        refine sm_T_br (a := 1) (z := 35) rfl (fun cx24_ => ?_) (fun cx24_ => ?_)
        · have cx24_ : (S0_.2.2.1 22 (0 + bb_) a1_.toNat) ≠ (-1) := of_decide_eq_true cx24_
          refine sm_T_go 1 (c1 := (78, [some (.inr (.inr (some (8, 0)))), some (.inl a1_), some (.inl a2_), some (.inl a3_), some (.inl a4_)], [.inl a4_], S0_)) rfl ?_
          refine sm_T_b0 (a := 0) (z := 33) rfl (fun cx25_ => ?_) (fun cx25_ => ?_)
          · have cx25_ : a4_ = 0 := of_decide_eq_true cx25_
            refine sm_T_rv rfl ⟨_, _, rfl, rfl, hI_, hF_, ?_⟩
            first | exact ⟨hr_, rmo_rf⟩ | exact rsp_n hr_ h3_.1 h1_ hs_ f9_ h2_ h20_ c6_.1 hn_ (by omega) | exact rsp_f hr_ h3_.1 h1_ hs_ f9_ h2_ h20_ c8_.1 hn_ (by omega)
          · have cx25_ : ¬ (a4_ = 0) := of_decide_eq_false cx25_
            refine sm_T_go 5 (c1 := (89, [some (.inr (.inr (some (8, 0)))), some (.inl a1_), some (.inl a2_), some (.inl a3_), some (.inl a4_)], [.inl 11, .inl a2_, .inl a1_, .inr (.inr (some (86, 0)))], S0_)) rfl ?_
            refine sm_T_bin (w := a2_ + 11) rfl (bi_add (by omega) (by omega) (by omega)) ?_ -- pc_ 89
            refine sm_T_iast (n := 4712) rfl rfl (by omega) (by omega) ?_
            have hIx26_ : gi (sm_aI S0_ 86 0 a1_.toNat (a2_ + 11)) := gi_aI hI_ (show (-1) ≤ a2_ + 11 ∧ a2_ + 11 ≤ 100000 from ⟨by omega, by omega⟩)
            have hFx27_ : ai_fr (sx_W vw_163) S0_ (sm_aI S0_ 86 0 a1_.toNat (a2_ + 11)) := ai_fr_tr hF_ (ai_fr_aI rfl)
            have bx28_ : 0 ≤ S0_.1 8 0 8 ∧ S0_.1 8 0 8 ≤ 4712 := hI_.1 8 0 8 rfl
            refine sm_T_go 5 (c1 := (100, [some (.inr (.inr (some (8, 0)))), some (.inl a1_), some (.inl a2_), some (.inl a3_), some (.inl a4_)], [.inl a1_, .inl (S0_.1 8 0 8), .inr (.inr (some (88, 0)))], sm_aI S0_ 86 0 a1_.toNat (a2_ + 11))) rfl ?_
            refine sm_T_iast (n := 4712) rfl rfl (by omega) (by omega) ?_
            have hIx29_ : gi (sm_aI (sm_aI S0_ 86 0 a1_.toNat (a2_ + 11)) 88 0 (S0_.1 8 0 8).toNat a1_) := gi_aI hIx26_ (show 0 ≤ a1_ ∧ a1_ ≤ 4711 from ⟨by omega, by omega⟩)
            have hFx30_ : ai_fr (sx_W vw_163) S0_ (sm_aI (sm_aI S0_ 86 0 a1_.toNat (a2_ + 11)) 88 0 (S0_.1 8 0 8).toNat a1_) := ai_fr_tr hFx27_ (ai_fr_aI rfl)
            refine sm_T_go 4 (c1 := (107, [some (.inr (.inr (some (8, 0)))), some (.inl a1_), some (.inl a2_), some (.inl a3_), some (.inl a4_)], [.inl 1, .inl (S0_.1 8 0 8), .inr (.inr (some (8, 0)))], sm_aI (sm_aI S0_ 86 0 a1_.toNat (a2_ + 11)) 88 0 (S0_.1 8 0 8).toNat a1_)) rfl ?_
            refine sm_T_bin (w := (S0_.1 8 0 8) + 1) rfl (bi_add (by omega) (by omega) (by omega)) ?_ -- pc_ 107
            have hIx31_ : gi (sm_pI (sm_aI (sm_aI S0_ 86 0 a1_.toNat (a2_ + 11)) 88 0 (S0_.1 8 0 8).toNat a1_) 8 0 8 ((S0_.1 8 0 8) + 1)) := gi_pI hIx29_ (show 0 ≤ (S0_.1 8 0 8) + 1 ∧ (S0_.1 8 0 8) + 1 ≤ 4712 from ⟨by omega, by omega⟩)
            have hFx32_ : ai_fr (sx_W vw_163) S0_ (sm_pI (sm_aI (sm_aI S0_ 86 0 a1_.toNat (a2_ + 11)) 88 0 (S0_.1 8 0 8).toNat a1_) 8 0 8 ((S0_.1 8 0 8) + 1)) := ai_fr_tr hFx30_ (ai_fr_pI rfl)
            refine sm_T_go 1 (c1 := (111, [some (.inr (.inr (some (8, 0)))), some (.inl a1_), some (.inl a2_), some (.inl a3_), some (.inl a4_)], [], sm_pI (sm_aI (sm_aI S0_ 86 0 a1_.toNat (a2_ + 11)) 88 0 (S0_.1 8 0 8).toNat a1_) 8 0 8 ((S0_.1 8 0 8) + 1))) rfl ?_
            refine sm_T_rv rfl ⟨_, _, rfl, rfl, hIx31_, hFx32_, ?_⟩
            first | exact ⟨hr_, rmo_rf⟩ | exact rsp_n hr_ h3_.1 h1_ hs_ f9_ h2_ h20_ c6_.1 hn_ (by omega) | exact rsp_f hr_ h3_.1 h1_ hs_ f9_ h2_ h20_ c8_.1 hn_ (by omega)
        · have cx24_ : ¬ ((S0_.2.2.1 22 (0 + bb_) a1_.toNat) ≠ (-1)) := of_decide_eq_false cx24_
          refine sm_T_go 5 (c1 := (51, [some (.inr (.inr (some (8, 0)))), some (.inl a1_), some (.inl a2_), some (.inl a3_), some (.inl a4_)], [.inl 1, .inl a2_, .inl a1_, .inr (.inr (some (86, 0)))], S0_)) rfl ?_
          refine sm_T_bin (w := a2_ + 1) rfl (bi_add (by omega) (by omega) (by omega)) ?_ -- pc_ 51
          refine sm_T_iast (n := 4712) rfl rfl (by omega) (by omega) ?_
          have hIx33_ : gi (sm_aI S0_ 86 0 a1_.toNat (a2_ + 1)) := gi_aI hI_ (show (-1) ≤ a2_ + 1 ∧ a2_ + 1 ≤ 100000 from ⟨by omega, by omega⟩)
          have hFx34_ : ai_fr (sx_W vw_163) S0_ (sm_aI S0_ 86 0 a1_.toNat (a2_ + 1)) := ai_fr_tr hF_ (ai_fr_aI rfl)
          have bx35_ : 0 ≤ S0_.1 8 0 6 ∧ S0_.1 8 0 6 ≤ 4712 := hI_.1 8 0 6 rfl
          refine sm_T_go 5 (c1 := (62, [some (.inr (.inr (some (8, 0)))), some (.inl a1_), some (.inl a2_), some (.inl a3_), some (.inl a4_)], [.inl a1_, .inl (S0_.1 8 0 6), .inr (.inr (some (87, 0)))], sm_aI S0_ 86 0 a1_.toNat (a2_ + 1))) rfl ?_
          refine sm_T_iast (n := 4712) rfl rfl (by omega) (by omega) ?_
          have hIx36_ : gi (sm_aI (sm_aI S0_ 86 0 a1_.toNat (a2_ + 1)) 87 0 (S0_.1 8 0 6).toNat a1_) := gi_aI hIx33_ (show 0 ≤ a1_ ∧ a1_ ≤ 4711 from ⟨by omega, by omega⟩)
          have hFx37_ : ai_fr (sx_W vw_163) S0_ (sm_aI (sm_aI S0_ 86 0 a1_.toNat (a2_ + 1)) 87 0 (S0_.1 8 0 6).toNat a1_) := ai_fr_tr hFx34_ (ai_fr_aI rfl)
          refine sm_T_go 4 (c1 := (69, [some (.inr (.inr (some (8, 0)))), some (.inl a1_), some (.inl a2_), some (.inl a3_), some (.inl a4_)], [.inl 1, .inl (S0_.1 8 0 6), .inr (.inr (some (8, 0)))], sm_aI (sm_aI S0_ 86 0 a1_.toNat (a2_ + 1)) 87 0 (S0_.1 8 0 6).toNat a1_)) rfl ?_
          refine sm_T_bin (w := (S0_.1 8 0 6) + 1) rfl (bi_add (by omega) (by omega) (by omega)) ?_ -- pc_ 69
          have hIx38_ : gi (sm_pI (sm_aI (sm_aI S0_ 86 0 a1_.toNat (a2_ + 1)) 87 0 (S0_.1 8 0 6).toNat a1_) 8 0 6 ((S0_.1 8 0 6) + 1)) := gi_pI hIx36_ (show 0 ≤ (S0_.1 8 0 6) + 1 ∧ (S0_.1 8 0 6) + 1 ≤ 4712 from ⟨by omega, by omega⟩)
          have hFx39_ : ai_fr (sx_W vw_163) S0_ (sm_pI (sm_aI (sm_aI S0_ 86 0 a1_.toNat (a2_ + 1)) 87 0 (S0_.1 8 0 6).toNat a1_) 8 0 6 ((S0_.1 8 0 6) + 1)) := ai_fr_tr hFx37_ (ai_fr_pI rfl)
          refine sm_T_go 2 (c1 := (111, [some (.inr (.inr (some (8, 0)))), some (.inl a1_), some (.inl a2_), some (.inl a3_), some (.inl a4_)], [], sm_pI (sm_aI (sm_aI S0_ 86 0 a1_.toNat (a2_ + 1)) 87 0 (S0_.1 8 0 6).toNat a1_) 8 0 6 ((S0_.1 8 0 6) + 1))) rfl ?_
          refine sm_T_rv rfl ⟨_, _, rfl, rfl, hIx38_, hFx39_, ?_⟩
          first | exact ⟨hr_, rmo_rf⟩ | exact rsp_n hr_ h3_.1 h1_ hs_ f9_ h2_ h20_ c6_.1 hn_ (by omega) | exact rsp_f hr_ h3_.1 h1_ hs_ f9_ h2_ h20_ c8_.1 hn_ (by omega)
      · have cx22_ : ¬ ((S0_.2.2.1 85 0 a1_.toNat) = a3_) := of_decide_eq_false cx22_
        refine sm_T_rv rfl ⟨_, _, rfl, rfl, hI_, hF_, ?_⟩
        exact ⟨hr_, rmo_rf⟩

theorem rgw_fr {w_ : sx_Wl} {S_ S'_ : sm_S} (h_ : rgw S_) (g_ : ai_fr (sx_W w_) S_ S'_) (h1_ : (sx_W w_).1 8 1 = false := by rfl) (h2_ : (sx_W w_).1 8 2 = false := by rfl) : rgw S'_ := by
  unfold rgw
  rw [g_.1 8 0 1 h1_, g_.1 8 0 2 h2_]
  exact h_
end
/-! 99.zkda -/
section
/-! wires: neighbours; written by wip/p55/gen/vg -/
/-! Router.spreadFrom -/
def vw_162 : sx_Wl := ([(8, 6), (8, 8)], [86, 87, 88], [])
def vq_162 (a1_ : Int) (a2_ : Int) (a3_ : Int) (bb_ : Nat) (S0_ : sm_S) (u_ : Option sm_V) (S1_ : sm_S) : Prop := u_ = none ∧ gi S1_ ∧ ai_fr (sx_W vw_162) S0_ S1_ ∧ (rsp bb_ a2_ S1_ ∧ rmo S0_ S1_)
set_option maxHeartbeats 400000 in
theorem vc_162 {sc_ : Nat × (Nat → Int)} (a1_ : Int) (a2_ : Int) (a3_ : Int) (bb_ : Nat) (S0_ : sm_S) (hI_ : gi S0_) (hb_ : S0_.2.1 8 0 0 = some bb_) (hg_ : rgw S0_) (hr_ : rsp bb_ a2_ S0_) (h1_ : 0 ≤ a1_ ∧ a1_ < 2 * S0_.1 8 0 2) (h2_ : 0 ≤ a2_ ∧ a2_ ≤ 161) (h0_ : 0 ≤ S0_.2.2.1 86 0 a1_.toNat) : sm_T (mt_P sc_) 1 162 (0, [some (.inr (.inr (some (8, 0)))), some (.inl a1_), some (.inl a2_), some (.inl a3_), none, none], [], S0_) (fun ro9_ => ∃ u_ S1_, ro9_ = (.inl u_, S1_, 0) ∧ vq_162 a1_ a2_ a3_ bb_ S0_ u_ S1_) := by
  have hF_ : ai_fr (sx_W vw_162) S0_ S0_ := ai_fr_rf
  have cL_ : 0 ≤ S0_.1 8 0 2 ∧ S0_.1 8 0 2 ≤ 2356 := hI_.1 8 0 2 rfl
  have cw : 0 ≤ S0_.1 8 0 1 ∧ S0_.1 8 0 1 ≤ 62 := hI_.1 8 0 1 rfl
  have w9_ := hg_.1
  have L9_ := hg_.2.1
  obtain ⟨kk_, hkk_⟩ := hg_.2.2
  have q9_ := Int.emod_lt_of_pos a1_ (show 0 < S0_.1 8 0 1 by omega)
  have q8_ := Int.emod_nonneg a1_ (show S0_.1 8 0 1 ≠ 0 by omega)
  refine sm_T_go 3 (c1 := (5, [some (.inr (.inr (some (8, 0)))), some (.inl a1_), some (.inl a2_), some (.inl a3_), none, none], [.inl a1_, .inr (.inr (some (86, 0)))], S0_)) rfl ?_
  refine sm_T_iald (n := 4712) rfl rfl (by omega) (by omega) ?_
  have bx1_ : (-1) ≤ S0_.2.2.1 86 0 a1_.toNat ∧ S0_.2.2.1 86 0 a1_.toNat ≤ 100000 := hI_.2 86 0 _
  have bx2_ : 0 ≤ S0_.1 8 0 2 ∧ S0_.1 8 0 2 ≤ 2356 := hI_.1 8 0 2 rfl
  refine sm_T_go 4 (c1 := (13, [some (.inr (.inr (some (8, 0)))), some (.inl a1_), some (.inl a2_), some (.inl a3_), some (.inl (S0_.2.2.1 86 0 a1_.toNat)), none], [.inl (S0_.1 8 0 2), .inl a1_], S0_)) rfl ?_
  refine sm_T_br (a := 3) (z := 77) rfl (fun cx3_ => ?_) (fun cx3_ => ?_)
  · have cx3_ : (S0_.1 8 0 2) ≤ a1_ := of_decide_eq_true cx3_
    refine sm_T_go 3 (c1 := (95, [some (.inr (.inr (some (8, 0)))), some (.inl a1_), some (.inl a2_), some (.inl a3_), some (.inl (S0_.2.2.1 86 0 a1_.toNat)), none], [.inl (S0_.1 8 0 2), .inl a1_], S0_)) rfl ?_
    refine sm_T_bin (w := a1_ - (S0_.1 8 0 2)) rfl (bi_sub (by omega) (by omega) (by omega)) ?_ -- pc_ 95
    have bx4_ : 0 ≤ S0_.1 8 0 1 ∧ S0_.1 8 0 1 ≤ 62 := hI_.1 8 0 1 rfl
    refine sm_T_go 4 (c1 := (104, [some (.inr (.inr (some (8, 0)))), some (.inl a1_), some (.inl a2_), some (.inl a3_), some (.inl (S0_.2.2.1 86 0 a1_.toNat)), some (.inl (a1_ - (S0_.1 8 0 2)))], [.inl (S0_.1 8 0 1), .inl (a1_ - (S0_.1 8 0 2))], S0_)) rfl ?_
    refine sm_T_br (a := 2) (z := 17) rfl (fun cx5_ => ?_) (fun cx5_ => ?_)
    · have cx5_ : a1_ - (S0_.1 8 0 2) < (S0_.1 8 0 1) := of_decide_eq_true cx5_
      refine sm_T_go 5 (c1 := (131, [some (.inr (.inr (some (8, 0)))), some (.inl a1_), some (.inl a2_), some (.inl a3_), some (.inl (S0_.2.2.1 86 0 a1_.toNat)), some (.inl (a1_ - (S0_.1 8 0 2)))], [.inl (S0_.1 8 0 1), .inl (S0_.1 8 0 2), .inl (a1_ - (S0_.1 8 0 2))], S0_)) rfl ?_
      refine sm_T_bin (w := (S0_.1 8 0 2) - (S0_.1 8 0 1)) rfl (bi_sub (by omega) (by omega) (by omega)) ?_ -- pc_ 131
      refine sm_T_br (a := 3) (z := 17) rfl (fun cx6_ => ?_) (fun cx6_ => ?_)
      · have cx6_ : (S0_.1 8 0 2) - (S0_.1 8 0 1) ≤ a1_ - (S0_.1 8 0 2) := of_decide_eq_true cx6_
        refine sm_T_go 5 (c1 := (156, [some (.inr (.inr (some (8, 0)))), some (.inl a1_), some (.inl a2_), some (.inl a3_), some (.inl (S0_.2.2.1 86 0 a1_.toNat)), some (.inl (a1_ - (S0_.1 8 0 2)))], [.inl a3_, .inl a2_, .inl (S0_.2.2.1 86 0 a1_.toNat), .inl (a1_ - (S0_.1 8 0 2)), .inr (.inr (some (8, 0)))], S0_)) rfl ?_
        refine sm_T_cal (d1 := 0) (Q1 := vq_163 (a1_ - (S0_.1 8 0 2)) (S0_.2.2.1 86 0 a1_.toNat) a2_ a3_ bb_ a1_ S0_) rfl rfl (by decide) (vc_163 (a1_ - (S0_.1 8 0 2)) (S0_.2.2.1 86 0 a1_.toNat) a2_ a3_ bb_ a1_ S0_ hI_ (by exact (hF_.2.1 8 0 0 rfl).trans hb_) (by exact rgw_fr hg_ hF_) (by first | exact x146_.1 | exact x118_.1 | exact hr_) (by omega) (by omega) (by omega) (by (first | rfl | omega)) (by omega) (by ((first | rw [l146_, m146_] | rw [l118_, m118_] | skip); exact ⟨4, by decide, by rw [nb_4 (by omega)]; omega⟩))) (fun u_ Sx7_ px10_ => ?_)
        obtain ⟨rfl, hIx8_, hFx9_, px10_⟩ := px10_
        have hFx11_ : ai_fr (sx_W vw_162) S0_ Sx7_ := ai_fr_tr hF_ (fr_le hFx9_ rfl)
        have ex12_ : Sx7_.1 8 0 2 = S0_.1 8 0 2 := hFx9_.1 8 0 2 rfl
        have ex13_ : Sx7_.1 8 0 1 = S0_.1 8 0 1 := hFx9_.1 8 0 1 rfl
        have x156_ := px10_
        have y156_ : rmo S0_ Sx7_ := by first | exact rmo_tr y146_ px10_.2 | exact rmo_tr y118_ px10_.2 | exact px10_.2
        have l156_ : Sx7_.1 8 0 1 = S0_.1 8 0 1 := hFx11_.1 8 0 1 rfl
        have m156_ : Sx7_.1 8 0 2 = S0_.1 8 0 2 := hFx11_.1 8 0 2 rfl
        have z156_ : Sx7_.2.2.1 86 0 a1_.toNat = S0_.2.2.1 86 0 a1_.toNat := y156_.1 a1_.toNat (by omega)
        refine sm_T_rv rfl ⟨_, _, rfl, rfl, hIx8_, hFx11_, ?_⟩
        first | exact ⟨x84_.1, y84_⟩ | exact ⟨x156_.1, y156_⟩
      · have cx6_ : ¬ ((S0_.1 8 0 2) - (S0_.1 8 0 1) ≤ a1_ - (S0_.1 8 0 2)) := of_decide_eq_false cx6_
        refine sm_T_go 4 (c1 := (141, [some (.inr (.inr (some (8, 0)))), some (.inl a1_), some (.inl a2_), some (.inl a3_), some (.inl (S0_.2.2.1 86 0 a1_.toNat)), some (.inl (a1_ - (S0_.1 8 0 2)))], [.inl (S0_.1 8 0 1), .inl a1_, .inr (.inr (some (8, 0)))], S0_)) rfl ?_
        refine sm_T_bin (w := a1_ + (S0_.1 8 0 1)) rfl (bi_add (by omega) (by omega) (by omega)) ?_ -- pc_ 141
        refine sm_T_go 3 (c1 := (146, [some (.inr (.inr (some (8, 0)))), some (.inl a1_), some (.inl a2_), some (.inl a3_), some (.inl (S0_.2.2.1 86 0 a1_.toNat)), some (.inl (a1_ - (S0_.1 8 0 2)))], [.inl a3_, .inl a2_, .inl (S0_.2.2.1 86 0 a1_.toNat), .inl (a1_ + (S0_.1 8 0 1)), .inr (.inr (some (8, 0)))], S0_)) rfl ?_
        refine sm_T_cal (d1 := 0) (Q1 := vq_163 (a1_ + (S0_.1 8 0 1)) (S0_.2.2.1 86 0 a1_.toNat) a2_ a3_ bb_ a1_ S0_) rfl rfl (by decide) (vc_163 (a1_ + (S0_.1 8 0 1)) (S0_.2.2.1 86 0 a1_.toNat) a2_ a3_ bb_ a1_ S0_ hI_ (by exact (hF_.2.1 8 0 0 rfl).trans hb_) (by exact rgw_fr hg_ hF_) (by first | exact x118_.1 | exact hr_) (by omega) (by omega) (by omega) (by (first | rfl | omega)) (by omega) (by ((first | rw [l118_, m118_] | skip); exact ⟨2, by decide, by rw [nb_2 (by omega) (by omega)]; omega⟩))) (fun u_ Sx14_ px17_ => ?_)
        obtain ⟨rfl, hIx15_, hFx16_, px17_⟩ := px17_
        have hFx18_ : ai_fr (sx_W vw_162) S0_ Sx14_ := ai_fr_tr hF_ (fr_le hFx16_ rfl)
        have ex19_ : Sx14_.1 8 0 2 = S0_.1 8 0 2 := hFx16_.1 8 0 2 rfl
        have ex20_ : Sx14_.1 8 0 1 = S0_.1 8 0 1 := hFx16_.1 8 0 1 rfl
        have x146_ := px17_
        have y146_ : rmo S0_ Sx14_ := by first | exact rmo_tr y118_ px17_.2 | exact px17_.2
        have l146_ : Sx14_.1 8 0 1 = S0_.1 8 0 1 := hFx18_.1 8 0 1 rfl
        have m146_ : Sx14_.1 8 0 2 = S0_.1 8 0 2 := hFx18_.1 8 0 2 rfl
        have z146_ : Sx14_.2.2.1 86 0 a1_.toNat = S0_.2.2.1 86 0 a1_.toNat := y146_.1 a1_.toNat (by omega)
        refine sm_T_go 5 (c1 := (156, [some (.inr (.inr (some (8, 0)))), some (.inl a1_), some (.inl a2_), some (.inl a3_), some (.inl (S0_.2.2.1 86 0 a1_.toNat)), some (.inl (a1_ - (S0_.1 8 0 2)))], [.inl a3_, .inl a2_, .inl (S0_.2.2.1 86 0 a1_.toNat), .inl (a1_ - (S0_.1 8 0 2)), .inr (.inr (some (8, 0)))], Sx14_)) rfl ?_
        refine sm_T_cal (d1 := 0) (Q1 := vq_163 (a1_ - (S0_.1 8 0 2)) (S0_.2.2.1 86 0 a1_.toNat) a2_ a3_ bb_ a1_ Sx14_) rfl rfl (by decide) (vc_163 (a1_ - (S0_.1 8 0 2)) (S0_.2.2.1 86 0 a1_.toNat) a2_ a3_ bb_ a1_ Sx14_ hIx15_ (by exact (hFx18_.2.1 8 0 0 rfl).trans hb_) (by exact rgw_fr hg_ hFx18_) (by first | exact x146_.1 | exact x118_.1 | exact hr_) (by omega) (by omega) (by omega) (by (first | rfl | omega)) (by omega) (by ((first | rw [l146_, m146_] | rw [l118_, m118_] | skip); exact ⟨4, by decide, by rw [nb_4 (by omega)]; omega⟩))) (fun u_ Sx21_ px24_ => ?_)
        obtain ⟨rfl, hIx22_, hFx23_, px24_⟩ := px24_
        have hFx25_ : ai_fr (sx_W vw_162) S0_ Sx21_ := ai_fr_tr hFx18_ (fr_le hFx23_ rfl)
        have x156_ := px24_
        have y156_ : rmo S0_ Sx21_ := by first | exact rmo_tr y146_ px24_.2 | exact rmo_tr y118_ px24_.2 | exact px24_.2
        have l156_ : Sx21_.1 8 0 1 = S0_.1 8 0 1 := hFx25_.1 8 0 1 rfl
        have m156_ : Sx21_.1 8 0 2 = S0_.1 8 0 2 := hFx25_.1 8 0 2 rfl
        have z156_ : Sx21_.2.2.1 86 0 a1_.toNat = S0_.2.2.1 86 0 a1_.toNat := y156_.1 a1_.toNat (by omega)
        refine sm_T_rv rfl ⟨_, _, rfl, rfl, hIx22_, hFx25_, ?_⟩
        first | exact ⟨x84_.1, y84_⟩ | exact ⟨x156_.1, y156_⟩
    · have cx5_ : ¬ (a1_ - (S0_.1 8 0 2) < (S0_.1 8 0 1)) := of_decide_eq_false cx5_
      refine sm_T_go 4 (c1 := (113, [some (.inr (.inr (some (8, 0)))), some (.inl a1_), some (.inl a2_), some (.inl a3_), some (.inl (S0_.2.2.1 86 0 a1_.toNat)), some (.inl (a1_ - (S0_.1 8 0 2)))], [.inl (S0_.1 8 0 1), .inl a1_, .inr (.inr (some (8, 0)))], S0_)) rfl ?_
      refine sm_T_bin (w := a1_ - (S0_.1 8 0 1)) rfl (bi_sub (by omega) (by omega) (by omega)) ?_ -- pc_ 113
      refine sm_T_go 3 (c1 := (118, [some (.inr (.inr (some (8, 0)))), some (.inl a1_), some (.inl a2_), some (.inl a3_), some (.inl (S0_.2.2.1 86 0 a1_.toNat)), some (.inl (a1_ - (S0_.1 8 0 2)))], [.inl a3_, .inl a2_, .inl (S0_.2.2.1 86 0 a1_.toNat), .inl (a1_ - (S0_.1 8 0 1)), .inr (.inr (some (8, 0)))], S0_)) rfl ?_
      refine sm_T_cal (d1 := 0) (Q1 := vq_163 (a1_ - (S0_.1 8 0 1)) (S0_.2.2.1 86 0 a1_.toNat) a2_ a3_ bb_ a1_ S0_) rfl rfl (by decide) (vc_163 (a1_ - (S0_.1 8 0 1)) (S0_.2.2.1 86 0 a1_.toNat) a2_ a3_ bb_ a1_ S0_ hI_ (by exact (hF_.2.1 8 0 0 rfl).trans hb_) (by exact rgw_fr hg_ hF_) (by exact hr_) (by omega) (by omega) (by omega) (by (first | rfl | omega)) (by omega) (by (skip; exact ⟨3, by decide, by rw [nb_3 (by omega) (by omega)]; omega⟩))) (fun u_ Sx26_ px29_ => ?_)
      obtain ⟨rfl, hIx27_, hFx28_, px29_⟩ := px29_
      have hFx30_ : ai_fr (sx_W vw_162) S0_ Sx26_ := ai_fr_tr hF_ (fr_le hFx28_ rfl)
      have ex31_ : Sx26_.1 8 0 2 = S0_.1 8 0 2 := hFx28_.1 8 0 2 rfl
      have ex32_ : Sx26_.1 8 0 1 = S0_.1 8 0 1 := hFx28_.1 8 0 1 rfl
      have x118_ := px29_
      have y118_ : rmo S0_ Sx26_ := by first | exact px29_.2
      have l118_ : Sx26_.1 8 0 1 = S0_.1 8 0 1 := hFx30_.1 8 0 1 rfl
      have m118_ : Sx26_.1 8 0 2 = S0_.1 8 0 2 := hFx30_.1 8 0 2 rfl
      have z118_ : Sx26_.2.2.1 86 0 a1_.toNat = S0_.2.2.1 86 0 a1_.toNat := y118_.1 a1_.toNat (by omega)
      have bx33_ : 0 ≤ Sx26_.1 8 0 2 ∧ Sx26_.1 8 0 2 ≤ 2356 := hIx27_.1 8 0 2 rfl
      have bx34_ : 0 ≤ Sx26_.1 8 0 1 ∧ Sx26_.1 8 0 1 ≤ 62 := hIx27_.1 8 0 1 rfl
      refine sm_T_go 5 (c1 := (131, [some (.inr (.inr (some (8, 0)))), some (.inl a1_), some (.inl a2_), some (.inl a3_), some (.inl (S0_.2.2.1 86 0 a1_.toNat)), some (.inl (a1_ - (S0_.1 8 0 2)))], [.inl (Sx26_.1 8 0 1), .inl (Sx26_.1 8 0 2), .inl (a1_ - (S0_.1 8 0 2))], Sx26_)) rfl ?_
      refine sm_T_bin (w := (Sx26_.1 8 0 2) - (Sx26_.1 8 0 1)) rfl (bi_sub (by omega) (by omega) (by omega)) ?_ -- pc_ 131
      refine sm_T_br (a := 3) (z := 17) rfl (fun cx35_ => ?_) (fun cx35_ => ?_)
      · have cx35_ : (Sx26_.1 8 0 2) - (Sx26_.1 8 0 1) ≤ a1_ - (S0_.1 8 0 2) := of_decide_eq_true cx35_
        refine sm_T_go 5 (c1 := (156, [some (.inr (.inr (some (8, 0)))), some (.inl a1_), some (.inl a2_), some (.inl a3_), some (.inl (S0_.2.2.1 86 0 a1_.toNat)), some (.inl (a1_ - (S0_.1 8 0 2)))], [.inl a3_, .inl a2_, .inl (S0_.2.2.1 86 0 a1_.toNat), .inl (a1_ - (S0_.1 8 0 2)), .inr (.inr (some (8, 0)))], Sx26_)) rfl ?_
        refine sm_T_cal (d1 := 0) (Q1 := vq_163 (a1_ - (S0_.1 8 0 2)) (S0_.2.2.1 86 0 a1_.toNat) a2_ a3_ bb_ a1_ Sx26_) rfl rfl (by decide) (vc_163 (a1_ - (S0_.1 8 0 2)) (S0_.2.2.1 86 0 a1_.toNat) a2_ a3_ bb_ a1_ Sx26_ hIx27_ (by exact (hFx30_.2.1 8 0 0 rfl).trans hb_) (by exact rgw_fr hg_ hFx30_) (by first | exact x146_.1 | exact x118_.1 | exact hr_) (by omega) (by omega) (by omega) (by (first | rfl | omega)) (by omega) (by ((first | rw [l146_, m146_] | rw [l118_, m118_] | skip); exact ⟨4, by decide, by rw [nb_4 (by omega)]; omega⟩))) (fun u_ Sx36_ px39_ => ?_)
        obtain ⟨rfl, hIx37_, hFx38_, px39_⟩ := px39_
        have hFx40_ : ai_fr (sx_W vw_162) S0_ Sx36_ := ai_fr_tr hFx30_ (fr_le hFx38_ rfl)
        have ex41_ : Sx36_.1 8 0 2 = Sx26_.1 8 0 2 := hFx38_.1 8 0 2 rfl
        have ex42_ : Sx36_.1 8 0 1 = Sx26_.1 8 0 1 := hFx38_.1 8 0 1 rfl
        have x156_ := px39_
        have y156_ : rmo S0_ Sx36_ := by first | exact rmo_tr y146_ px39_.2 | exact rmo_tr y118_ px39_.2 | exact px39_.2
        have l156_ : Sx36_.1 8 0 1 = S0_.1 8 0 1 := hFx40_.1 8 0 1 rfl
        have m156_ : Sx36_.1 8 0 2 = S0_.1 8 0 2 := hFx40_.1 8 0 2 rfl
        have z156_ : Sx36_.2.2.1 86 0 a1_.toNat = S0_.2.2.1 86 0 a1_.toNat := y156_.1 a1_.toNat (by omega)
        refine sm_T_rv rfl ⟨_, _, rfl, rfl, hIx37_, hFx40_, ?_⟩
        first | exact ⟨x84_.1, y84_⟩ | exact ⟨x156_.1, y156_⟩
      · have cx35_ : ¬ ((Sx26_.1 8 0 2) - (Sx26_.1 8 0 1) ≤ a1_ - (S0_.1 8 0 2)) := of_decide_eq_false cx35_
        refine sm_T_go 4 (c1 := (141, [some (.inr (.inr (some (8, 0)))), some (.inl a1_), some (.inl a2_), some (.inl a3_), some (.inl (S0_.2.2.1 86 0 a1_.toNat)), some (.inl (a1_ - (S0_.1 8 0 2)))], [.inl (Sx26_.1 8 0 1), .inl a1_, .inr (.inr (some (8, 0)))], Sx26_)) rfl ?_
        refine sm_T_bin (w := a1_ + (Sx26_.1 8 0 1)) rfl (bi_add (by omega) (by omega) (by omega)) ?_ -- pc_ 141
        refine sm_T_go 3 (c1 := (146, [some (.inr (.inr (some (8, 0)))), some (.inl a1_), some (.inl a2_), some (.inl a3_), some (.inl (S0_.2.2.1 86 0 a1_.toNat)), some (.inl (a1_ - (S0_.1 8 0 2)))], [.inl a3_, .inl a2_, .inl (S0_.2.2.1 86 0 a1_.toNat), .inl (a1_ + (Sx26_.1 8 0 1)), .inr (.inr (some (8, 0)))], Sx26_)) rfl ?_
        refine sm_T_cal (d1 := 0) (Q1 := vq_163 (a1_ + (Sx26_.1 8 0 1)) (S0_.2.2.1 86 0 a1_.toNat) a2_ a3_ bb_ a1_ Sx26_) rfl rfl (by decide) (vc_163 (a1_ + (Sx26_.1 8 0 1)) (S0_.2.2.1 86 0 a1_.toNat) a2_ a3_ bb_ a1_ Sx26_ hIx27_ (by exact (hFx30_.2.1 8 0 0 rfl).trans hb_) (by exact rgw_fr hg_ hFx30_) (by first | exact x118_.1 | exact hr_) (by omega) (by omega) (by omega) (by (first | rfl | omega)) (by omega) (by ((first | rw [l118_, m118_] | skip); exact ⟨2, by decide, by rw [nb_2 (by omega) (by omega)]; omega⟩))) (fun u_ Sx43_ px46_ => ?_)
        obtain ⟨rfl, hIx44_, hFx45_, px46_⟩ := px46_
        have hFx47_ : ai_fr (sx_W vw_162) S0_ Sx43_ := ai_fr_tr hFx30_ (fr_le hFx45_ rfl)
        have ex48_ : Sx43_.1 8 0 2 = Sx26_.1 8 0 2 := hFx45_.1 8 0 2 rfl
        have ex49_ : Sx43_.1 8 0 1 = Sx26_.1 8 0 1 := hFx45_.1 8 0 1 rfl
        have x146_ := px46_
        have y146_ : rmo S0_ Sx43_ := by first | exact rmo_tr y118_ px46_.2 | exact px46_.2
        have l146_ : Sx43_.1 8 0 1 = S0_.1 8 0 1 := hFx47_.1 8 0 1 rfl
        have m146_ : Sx43_.1 8 0 2 = S0_.1 8 0 2 := hFx47_.1 8 0 2 rfl
        have z146_ : Sx43_.2.2.1 86 0 a1_.toNat = S0_.2.2.1 86 0 a1_.toNat := y146_.1 a1_.toNat (by omega)
        refine sm_T_go 5 (c1 := (156, [some (.inr (.inr (some (8, 0)))), some (.inl a1_), some (.inl a2_), some (.inl a3_), some (.inl (S0_.2.2.1 86 0 a1_.toNat)), some (.inl (a1_ - (S0_.1 8 0 2)))], [.inl a3_, .inl a2_, .inl (S0_.2.2.1 86 0 a1_.toNat), .inl (a1_ - (S0_.1 8 0 2)), .inr (.inr (some (8, 0)))], Sx43_)) rfl ?_
        refine sm_T_cal (d1 := 0) (Q1 := vq_163 (a1_ - (S0_.1 8 0 2)) (S0_.2.2.1 86 0 a1_.toNat) a2_ a3_ bb_ a1_ Sx43_) rfl rfl (by decide) (vc_163 (a1_ - (S0_.1 8 0 2)) (S0_.2.2.1 86 0 a1_.toNat) a2_ a3_ bb_ a1_ Sx43_ hIx44_ (by exact (hFx47_.2.1 8 0 0 rfl).trans hb_) (by exact rgw_fr hg_ hFx47_) (by first | exact x146_.1 | exact x118_.1 | exact hr_) (by omega) (by omega) (by omega) (by (first | rfl | omega)) (by omega) (by ((first | rw [l146_, m146_] | rw [l118_, m118_] | skip); exact ⟨4, by decide, by rw [nb_4 (by omega)]; omega⟩))) (fun u_ Sx50_ px53_ => ?_)
        obtain ⟨rfl, hIx51_, hFx52_, px53_⟩ := px53_
        have hFx54_ : ai_fr (sx_W vw_162) S0_ Sx50_ := ai_fr_tr hFx47_ (fr_le hFx52_ rfl)
        have x156_ := px53_
        have y156_ : rmo S0_ Sx50_ := by first | exact rmo_tr y146_ px53_.2 | exact rmo_tr y118_ px53_.2 | exact px53_.2
        have l156_ : Sx50_.1 8 0 1 = S0_.1 8 0 1 := hFx54_.1 8 0 1 rfl
        have m156_ : Sx50_.1 8 0 2 = S0_.1 8 0 2 := hFx54_.1 8 0 2 rfl
        have z156_ : Sx50_.2.2.1 86 0 a1_.toNat = S0_.2.2.1 86 0 a1_.toNat := y156_.1 a1_.toNat (by omega)
        refine sm_T_rv rfl ⟨_, _, rfl, rfl, hIx51_, hFx54_, ?_⟩
        first | exact ⟨x84_.1, y84_⟩ | exact ⟨x156_.1, y156_⟩
  · have cx3_ : ¬ ((S0_.1 8 0 2) ≤ a1_) := of_decide_eq_false cx3_
    have bx55_ : 0 ≤ S0_.1 8 0 1 ∧ S0_.1 8 0 1 ≤ 62 := hI_.1 8 0 1 rfl
    refine sm_T_go 2 (c1 := (20, [some (.inr (.inr (some (8, 0)))), some (.inl a1_), some (.inl a2_), some (.inl a3_), some (.inl (S0_.2.2.1 86 0 a1_.toNat)), none], [.inl (S0_.1 8 0 1)], S0_)) rfl ?_
    refine sm_T_b0 (a := 5) (z := 12) rfl (fun cx56_ => ?_) (fun cx56_ => ?_)
    · have cx56_ : (S0_.1 8 0 1) ≤ 0 := of_decide_eq_true cx56_
      exfalso; omega
    · have cx56_ : ¬ ((S0_.1 8 0 1) ≤ 0) := of_decide_eq_false cx56_
      refine sm_T_go 3 (c1 := (28, [some (.inr (.inr (some (8, 0)))), some (.inl a1_), some (.inl a2_), some (.inl a3_), some (.inl (S0_.2.2.1 86 0 a1_.toNat)), none], [.inl (S0_.1 8 0 1), .inl a1_], S0_)) rfl ?_
      refine sm_T_bin (w := (a1_ % (S0_.1 8 0 1))) rfl (bi_rem (by omega) (by omega) (by omega) (by omega)) ?_ -- pc_ 28
      refine sm_T_go 3 (c1 := (37, [some (.inr (.inr (some (8, 0)))), some (.inl a1_), some (.inl a2_), some (.inl a3_), some (.inl (S0_.2.2.1 86 0 a1_.toNat)), some (.inl (a1_ % (S0_.1 8 0 1)))], [.inl (a1_ % (S0_.1 8 0 1))], S0_)) rfl ?_
      refine sm_T_b0 (a := 5) (z := 14) rfl (fun cx57_ => ?_) (fun cx57_ => ?_)
      · have cx57_ : (a1_ % (S0_.1 8 0 1)) ≤ 0 := of_decide_eq_true cx57_
        refine sm_T_go 4 (c1 := (58, [some (.inr (.inr (some (8, 0)))), some (.inl a1_), some (.inl a2_), some (.inl a3_), some (.inl (S0_.2.2.1 86 0 a1_.toNat)), some (.inl (a1_ % (S0_.1 8 0 1)))], [.inl 1, .inl (S0_.1 8 0 1), .inl (a1_ % (S0_.1 8 0 1))], S0_)) rfl ?_
        refine sm_T_bin (w := (S0_.1 8 0 1) - 1) rfl (bi_sub (by omega) (by omega) (by omega)) ?_ -- pc_ 58
        refine sm_T_br (a := 3) (z := 14) rfl (fun cx58_ => ?_) (fun cx58_ => ?_)
        · have cx58_ : (S0_.1 8 0 1) - 1 ≤ (a1_ % (S0_.1 8 0 1)) := of_decide_eq_true cx58_
          refine sm_T_go 4 (c1 := (79, [some (.inr (.inr (some (8, 0)))), some (.inl a1_), some (.inl a2_), some (.inl a3_), some (.inl (S0_.2.2.1 86 0 a1_.toNat)), some (.inl (a1_ % (S0_.1 8 0 1)))], [.inl (S0_.1 8 0 2), .inl a1_, .inr (.inr (some (8, 0)))], S0_)) rfl ?_
          refine sm_T_bin (w := a1_ + (S0_.1 8 0 2)) rfl (bi_add (by omega) (by omega) (by omega)) ?_ -- pc_ 79
          refine sm_T_go 3 (c1 := (84, [some (.inr (.inr (some (8, 0)))), some (.inl a1_), some (.inl a2_), some (.inl a3_), some (.inl (S0_.2.2.1 86 0 a1_.toNat)), some (.inl (a1_ % (S0_.1 8 0 1)))], [.inl a3_, .inl a2_, .inl (S0_.2.2.1 86 0 a1_.toNat), .inl (a1_ + (S0_.1 8 0 2)), .inr (.inr (some (8, 0)))], S0_)) rfl ?_
          refine sm_T_cal (d1 := 0) (Q1 := vq_163 (a1_ + (S0_.1 8 0 2)) (S0_.2.2.1 86 0 a1_.toNat) a2_ a3_ bb_ a1_ S0_) rfl rfl (by decide) (vc_163 (a1_ + (S0_.1 8 0 2)) (S0_.2.2.1 86 0 a1_.toNat) a2_ a3_ bb_ a1_ S0_ hI_ (by exact (hF_.2.1 8 0 0 rfl).trans hb_) (by exact rgw_fr hg_ hF_) (by first | exact x70_.1 | exact x48_.1 | exact hr_) (by omega) (by omega) (by omega) (by (first | rfl | omega)) (by omega) (by ((first | rw [l70_, m70_] | rw [l48_, m48_] | skip); exact ⟨4, by decide, by rw [nb_5 (by omega)]; omega⟩))) (fun u_ Sx59_ px62_ => ?_)
          obtain ⟨rfl, hIx60_, hFx61_, px62_⟩ := px62_
          have hFx63_ : ai_fr (sx_W vw_162) S0_ Sx59_ := ai_fr_tr hF_ (fr_le hFx61_ rfl)
          have ex64_ : Sx59_.1 8 0 2 = S0_.1 8 0 2 := hFx61_.1 8 0 2 rfl
          have ex65_ : Sx59_.1 8 0 1 = S0_.1 8 0 1 := hFx61_.1 8 0 1 rfl
          have x84_ := px62_
          have y84_ : rmo S0_ Sx59_ := by first | exact rmo_tr y70_ px62_.2 | exact rmo_tr y48_ px62_.2 | exact px62_.2
          have l84_ : Sx59_.1 8 0 1 = S0_.1 8 0 1 := hFx63_.1 8 0 1 rfl
          have m84_ : Sx59_.1 8 0 2 = S0_.1 8 0 2 := hFx63_.1 8 0 2 rfl
          have z84_ : Sx59_.2.2.1 86 0 a1_.toNat = S0_.2.2.1 86 0 a1_.toNat := y84_.1 a1_.toNat (by omega)
          refine sm_T_go 1 (c1 := (159, [some (.inr (.inr (some (8, 0)))), some (.inl a1_), some (.inl a2_), some (.inl a3_), some (.inl (S0_.2.2.1 86 0 a1_.toNat)), some (.inl (a1_ % (S0_.1 8 0 1)))], [], Sx59_)) rfl ?_
          refine sm_T_rv rfl ⟨_, _, rfl, rfl, hIx60_, hFx63_, ?_⟩
          first | exact ⟨x84_.1, y84_⟩ | exact ⟨x156_.1, y156_⟩
        · have cx58_ : ¬ ((S0_.1 8 0 1) - 1 ≤ (a1_ % (S0_.1 8 0 1))) := of_decide_eq_false cx58_
          have u9_ := (nb_b1 (p := a1_) (L := S0_.1 8 0 2) (w := S0_.1 8 0 1) (by omega) (by omega) hkk_ (by omega)).1
          refine sm_T_go 3 (c1 := (65, [some (.inr (.inr (some (8, 0)))), some (.inl a1_), some (.inl a2_), some (.inl a3_), some (.inl (S0_.2.2.1 86 0 a1_.toNat)), some (.inl (a1_ % (S0_.1 8 0 1)))], [.inl 1, .inl a1_, .inr (.inr (some (8, 0)))], S0_)) rfl ?_
          refine sm_T_bin (w := a1_ + 1) rfl (bi_add (by omega) (by omega) (by omega)) ?_ -- pc_ 65
          refine sm_T_go 3 (c1 := (70, [some (.inr (.inr (some (8, 0)))), some (.inl a1_), some (.inl a2_), some (.inl a3_), some (.inl (S0_.2.2.1 86 0 a1_.toNat)), some (.inl (a1_ % (S0_.1 8 0 1)))], [.inl a3_, .inl a2_, .inl (S0_.2.2.1 86 0 a1_.toNat), .inl (a1_ + 1), .inr (.inr (some (8, 0)))], S0_)) rfl ?_
          refine sm_T_cal (d1 := 0) (Q1 := vq_163 (a1_ + 1) (S0_.2.2.1 86 0 a1_.toNat) a2_ a3_ bb_ a1_ S0_) rfl rfl (by decide) (vc_163 (a1_ + 1) (S0_.2.2.1 86 0 a1_.toNat) a2_ a3_ bb_ a1_ S0_ hI_ (by exact (hF_.2.1 8 0 0 rfl).trans hb_) (by exact rgw_fr hg_ hF_) (by first | exact x48_.1 | exact hr_) (by omega) (by omega) (by omega) (by (first | rfl | omega)) (by omega) (by ((first | rw [l48_, m48_] | skip); exact ⟨0, by decide, (nb_b1 (by omega) (by omega) hkk_ (by omega)).2⟩))) (fun u_ Sx66_ px69_ => ?_)
          obtain ⟨rfl, hIx67_, hFx68_, px69_⟩ := px69_
          have hFx70_ : ai_fr (sx_W vw_162) S0_ Sx66_ := ai_fr_tr hF_ (fr_le hFx68_ rfl)
          have ex71_ : Sx66_.1 8 0 2 = S0_.1 8 0 2 := hFx68_.1 8 0 2 rfl
          have ex72_ : Sx66_.1 8 0 1 = S0_.1 8 0 1 := hFx68_.1 8 0 1 rfl
          have x70_ := px69_
          have y70_ : rmo S0_ Sx66_ := by first | exact rmo_tr y48_ px69_.2 | exact px69_.2
          have l70_ : Sx66_.1 8 0 1 = S0_.1 8 0 1 := hFx70_.1 8 0 1 rfl
          have m70_ : Sx66_.1 8 0 2 = S0_.1 8 0 2 := hFx70_.1 8 0 2 rfl
          have z70_ : Sx66_.2.2.1 86 0 a1_.toNat = S0_.2.2.1 86 0 a1_.toNat := y70_.1 a1_.toNat (by omega)
          have bx73_ : 0 ≤ Sx66_.1 8 0 2 ∧ Sx66_.1 8 0 2 ≤ 2356 := hIx67_.1 8 0 2 rfl
          refine sm_T_go 4 (c1 := (79, [some (.inr (.inr (some (8, 0)))), some (.inl a1_), some (.inl a2_), some (.inl a3_), some (.inl (S0_.2.2.1 86 0 a1_.toNat)), some (.inl (a1_ % (S0_.1 8 0 1)))], [.inl (Sx66_.1 8 0 2), .inl a1_, .inr (.inr (some (8, 0)))], Sx66_)) rfl ?_
          refine sm_T_bin (w := a1_ + (Sx66_.1 8 0 2)) rfl (bi_add (by omega) (by omega) (by omega)) ?_ -- pc_ 79
          refine sm_T_go 3 (c1 := (84, [some (.inr (.inr (some (8, 0)))), some (.inl a1_), some (.inl a2_), some (.inl a3_), some (.inl (S0_.2.2.1 86 0 a1_.toNat)), some (.inl (a1_ % (S0_.1 8 0 1)))], [.inl a3_, .inl a2_, .inl (S0_.2.2.1 86 0 a1_.toNat), .inl (a1_ + (Sx66_.1 8 0 2)), .inr (.inr (some (8, 0)))], Sx66_)) rfl ?_
          refine sm_T_cal (d1 := 0) (Q1 := vq_163 (a1_ + (Sx66_.1 8 0 2)) (S0_.2.2.1 86 0 a1_.toNat) a2_ a3_ bb_ a1_ Sx66_) rfl rfl (by decide) (vc_163 (a1_ + (Sx66_.1 8 0 2)) (S0_.2.2.1 86 0 a1_.toNat) a2_ a3_ bb_ a1_ Sx66_ hIx67_ (by exact (hFx70_.2.1 8 0 0 rfl).trans hb_) (by exact rgw_fr hg_ hFx70_) (by first | exact x70_.1 | exact x48_.1 | exact hr_) (by omega) (by omega) (by omega) (by (first | rfl | omega)) (by omega) (by ((first | rw [l70_, m70_] | rw [l48_, m48_] | skip); exact ⟨4, by decide, by rw [nb_5 (by omega)]; omega⟩))) (fun u_ Sx74_ px77_ => ?_)
          obtain ⟨rfl, hIx75_, hFx76_, px77_⟩ := px77_
          have hFx78_ : ai_fr (sx_W vw_162) S0_ Sx74_ := ai_fr_tr hFx70_ (fr_le hFx76_ rfl)
          have ex79_ : Sx74_.1 8 0 2 = Sx66_.1 8 0 2 := hFx76_.1 8 0 2 rfl
          have x84_ := px77_
          have y84_ : rmo S0_ Sx74_ := by first | exact rmo_tr y70_ px77_.2 | exact rmo_tr y48_ px77_.2 | exact px77_.2
          have l84_ : Sx74_.1 8 0 1 = S0_.1 8 0 1 := hFx78_.1 8 0 1 rfl
          have m84_ : Sx74_.1 8 0 2 = S0_.1 8 0 2 := hFx78_.1 8 0 2 rfl
          have z84_ : Sx74_.2.2.1 86 0 a1_.toNat = S0_.2.2.1 86 0 a1_.toNat := y84_.1 a1_.toNat (by omega)
          refine sm_T_go 1 (c1 := (159, [some (.inr (.inr (some (8, 0)))), some (.inl a1_), some (.inl a2_), some (.inl a3_), some (.inl (S0_.2.2.1 86 0 a1_.toNat)), some (.inl (a1_ % (S0_.1 8 0 1)))], [], Sx74_)) rfl ?_
          refine sm_T_rv rfl ⟨_, _, rfl, rfl, hIx75_, hFx78_, ?_⟩
          first | exact ⟨x84_.1, y84_⟩ | exact ⟨x156_.1, y156_⟩
      · have cx57_ : ¬ ((a1_ % (S0_.1 8 0 1)) ≤ 0) := of_decide_eq_false cx57_
        have u8_ := em_p (p := a1_) (w := S0_.1 8 0 1) h1_.1 (by omega)
        refine sm_T_go 3 (c1 := (43, [some (.inr (.inr (some (8, 0)))), some (.inl a1_), some (.inl a2_), some (.inl a3_), some (.inl (S0_.2.2.1 86 0 a1_.toNat)), some (.inl (a1_ % (S0_.1 8 0 1)))], [.inl 1, .inl a1_, .inr (.inr (some (8, 0)))], S0_)) rfl ?_
        refine sm_T_bin (w := a1_ - 1) rfl (bi_sub (by omega) (by omega) (by omega)) ?_ -- pc_ 43
        refine sm_T_go 3 (c1 := (48, [some (.inr (.inr (some (8, 0)))), some (.inl a1_), some (.inl a2_), some (.inl a3_), some (.inl (S0_.2.2.1 86 0 a1_.toNat)), some (.inl (a1_ % (S0_.1 8 0 1)))], [.inl a3_, .inl a2_, .inl (S0_.2.2.1 86 0 a1_.toNat), .inl (a1_ - 1), .inr (.inr (some (8, 0)))], S0_)) rfl ?_
        refine sm_T_cal (d1 := 0) (Q1 := vq_163 (a1_ - 1) (S0_.2.2.1 86 0 a1_.toNat) a2_ a3_ bb_ a1_ S0_) rfl rfl (by decide) (vc_163 (a1_ - 1) (S0_.2.2.1 86 0 a1_.toNat) a2_ a3_ bb_ a1_ S0_ hI_ (by exact (hF_.2.1 8 0 0 rfl).trans hb_) (by exact rgw_fr hg_ hF_) (by exact hr_) (by omega) (by omega) (by omega) (by (first | rfl | omega)) (by omega) (by (skip; exact ⟨1, by decide, nb_b0 (by omega) (by omega) (by omega)⟩))) (fun u_ Sx80_ px83_ => ?_)
        obtain ⟨rfl, hIx81_, hFx82_, px83_⟩ := px83_
        have hFx84_ : ai_fr (sx_W vw_162) S0_ Sx80_ := ai_fr_tr hF_ (fr_le hFx82_ rfl)
        have ex85_ : Sx80_.1 8 0 2 = S0_.1 8 0 2 := hFx82_.1 8 0 2 rfl
        have ex86_ : Sx80_.1 8 0 1 = S0_.1 8 0 1 := hFx82_.1 8 0 1 rfl
        have x48_ := px83_
        have y48_ : rmo S0_ Sx80_ := by first | exact px83_.2
        have l48_ : Sx80_.1 8 0 1 = S0_.1 8 0 1 := hFx84_.1 8 0 1 rfl
        have m48_ : Sx80_.1 8 0 2 = S0_.1 8 0 2 := hFx84_.1 8 0 2 rfl
        have z48_ : Sx80_.2.2.1 86 0 a1_.toNat = S0_.2.2.1 86 0 a1_.toNat := y48_.1 a1_.toNat (by omega)
        have bx87_ : 0 ≤ Sx80_.1 8 0 1 ∧ Sx80_.1 8 0 1 ≤ 62 := hIx81_.1 8 0 1 rfl
        refine sm_T_go 4 (c1 := (58, [some (.inr (.inr (some (8, 0)))), some (.inl a1_), some (.inl a2_), some (.inl a3_), some (.inl (S0_.2.2.1 86 0 a1_.toNat)), some (.inl (a1_ % (S0_.1 8 0 1)))], [.inl 1, .inl (Sx80_.1 8 0 1), .inl (a1_ % (S0_.1 8 0 1))], Sx80_)) rfl ?_
        refine sm_T_bin (w := (Sx80_.1 8 0 1) - 1) rfl (bi_sub (by omega) (by omega) (by omega)) ?_ -- pc_ 58
        refine sm_T_br (a := 3) (z := 14) rfl (fun cx88_ => ?_) (fun cx88_ => ?_)
        · have cx88_ : (Sx80_.1 8 0 1) - 1 ≤ (a1_ % (S0_.1 8 0 1)) := of_decide_eq_true cx88_
          have bx89_ : 0 ≤ Sx80_.1 8 0 2 ∧ Sx80_.1 8 0 2 ≤ 2356 := hIx81_.1 8 0 2 rfl
          refine sm_T_go 4 (c1 := (79, [some (.inr (.inr (some (8, 0)))), some (.inl a1_), some (.inl a2_), some (.inl a3_), some (.inl (S0_.2.2.1 86 0 a1_.toNat)), some (.inl (a1_ % (S0_.1 8 0 1)))], [.inl (Sx80_.1 8 0 2), .inl a1_, .inr (.inr (some (8, 0)))], Sx80_)) rfl ?_
          refine sm_T_bin (w := a1_ + (Sx80_.1 8 0 2)) rfl (bi_add (by omega) (by omega) (by omega)) ?_ -- pc_ 79
          refine sm_T_go 3 (c1 := (84, [some (.inr (.inr (some (8, 0)))), some (.inl a1_), some (.inl a2_), some (.inl a3_), some (.inl (S0_.2.2.1 86 0 a1_.toNat)), some (.inl (a1_ % (S0_.1 8 0 1)))], [.inl a3_, .inl a2_, .inl (S0_.2.2.1 86 0 a1_.toNat), .inl (a1_ + (Sx80_.1 8 0 2)), .inr (.inr (some (8, 0)))], Sx80_)) rfl ?_
          refine sm_T_cal (d1 := 0) (Q1 := vq_163 (a1_ + (Sx80_.1 8 0 2)) (S0_.2.2.1 86 0 a1_.toNat) a2_ a3_ bb_ a1_ Sx80_) rfl rfl (by decide) (vc_163 (a1_ + (Sx80_.1 8 0 2)) (S0_.2.2.1 86 0 a1_.toNat) a2_ a3_ bb_ a1_ Sx80_ hIx81_ (by exact (hFx84_.2.1 8 0 0 rfl).trans hb_) (by exact rgw_fr hg_ hFx84_) (by first | exact x70_.1 | exact x48_.1 | exact hr_) (by omega) (by omega) (by omega) (by (first | rfl | omega)) (by omega) (by ((first | rw [l70_, m70_] | rw [l48_, m48_] | skip); exact ⟨4, by decide, by rw [nb_5 (by omega)]; omega⟩))) (fun u_ Sx90_ px93_ => ?_)
          obtain ⟨rfl, hIx91_, hFx92_, px93_⟩ := px93_
          have hFx94_ : ai_fr (sx_W vw_162) S0_ Sx90_ := ai_fr_tr hFx84_ (fr_le hFx92_ rfl)
          have ex95_ : Sx90_.1 8 0 1 = Sx80_.1 8 0 1 := hFx92_.1 8 0 1 rfl
          have ex96_ : Sx90_.1 8 0 2 = Sx80_.1 8 0 2 := hFx92_.1 8 0 2 rfl
          have x84_ := px93_
          have y84_ : rmo S0_ Sx90_ := by first | exact rmo_tr y70_ px93_.2 | exact rmo_tr y48_ px93_.2 | exact px93_.2
          have l84_ : Sx90_.1 8 0 1 = S0_.1 8 0 1 := hFx94_.1 8 0 1 rfl
          have m84_ : Sx90_.1 8 0 2 = S0_.1 8 0 2 := hFx94_.1 8 0 2 rfl
          have z84_ : Sx90_.2.2.1 86 0 a1_.toNat = S0_.2.2.1 86 0 a1_.toNat := y84_.1 a1_.toNat (by omega)
          refine sm_T_go 1 (c1 := (159, [some (.inr (.inr (some (8, 0)))), some (.inl a1_), some (.inl a2_), some (.inl a3_), some (.inl (S0_.2.2.1 86 0 a1_.toNat)), some (.inl (a1_ % (S0_.1 8 0 1)))], [], Sx90_)) rfl ?_
          refine sm_T_rv rfl ⟨_, _, rfl, rfl, hIx91_, hFx94_, ?_⟩
          first | exact ⟨x84_.1, y84_⟩ | exact ⟨x156_.1, y156_⟩
        · have cx88_ : ¬ ((Sx80_.1 8 0 1) - 1 ≤ (a1_ % (S0_.1 8 0 1))) := of_decide_eq_false cx88_
          have u9_ := (nb_b1 (p := a1_) (L := S0_.1 8 0 2) (w := S0_.1 8 0 1) (by omega) (by omega) hkk_ (by omega)).1
          refine sm_T_go 3 (c1 := (65, [some (.inr (.inr (some (8, 0)))), some (.inl a1_), some (.inl a2_), some (.inl a3_), some (.inl (S0_.2.2.1 86 0 a1_.toNat)), some (.inl (a1_ % (S0_.1 8 0 1)))], [.inl 1, .inl a1_, .inr (.inr (some (8, 0)))], Sx80_)) rfl ?_
          refine sm_T_bin (w := a1_ + 1) rfl (bi_add (by omega) (by omega) (by omega)) ?_ -- pc_ 65
          refine sm_T_go 3 (c1 := (70, [some (.inr (.inr (some (8, 0)))), some (.inl a1_), some (.inl a2_), some (.inl a3_), some (.inl (S0_.2.2.1 86 0 a1_.toNat)), some (.inl (a1_ % (S0_.1 8 0 1)))], [.inl a3_, .inl a2_, .inl (S0_.2.2.1 86 0 a1_.toNat), .inl (a1_ + 1), .inr (.inr (some (8, 0)))], Sx80_)) rfl ?_
          refine sm_T_cal (d1 := 0) (Q1 := vq_163 (a1_ + 1) (S0_.2.2.1 86 0 a1_.toNat) a2_ a3_ bb_ a1_ Sx80_) rfl rfl (by decide) (vc_163 (a1_ + 1) (S0_.2.2.1 86 0 a1_.toNat) a2_ a3_ bb_ a1_ Sx80_ hIx81_ (by exact (hFx84_.2.1 8 0 0 rfl).trans hb_) (by exact rgw_fr hg_ hFx84_) (by first | exact x48_.1 | exact hr_) (by omega) (by omega) (by omega) (by (first | rfl | omega)) (by omega) (by ((first | rw [l48_, m48_] | skip); exact ⟨0, by decide, (nb_b1 (by omega) (by omega) hkk_ (by omega)).2⟩))) (fun u_ Sx97_ px100_ => ?_)
          obtain ⟨rfl, hIx98_, hFx99_, px100_⟩ := px100_
          have hFx101_ : ai_fr (sx_W vw_162) S0_ Sx97_ := ai_fr_tr hFx84_ (fr_le hFx99_ rfl)
          have ex102_ : Sx97_.1 8 0 1 = Sx80_.1 8 0 1 := hFx99_.1 8 0 1 rfl
          have x70_ := px100_
          have y70_ : rmo S0_ Sx97_ := by first | exact rmo_tr y48_ px100_.2 | exact px100_.2
          have l70_ : Sx97_.1 8 0 1 = S0_.1 8 0 1 := hFx101_.1 8 0 1 rfl
          have m70_ : Sx97_.1 8 0 2 = S0_.1 8 0 2 := hFx101_.1 8 0 2 rfl
          have z70_ : Sx97_.2.2.1 86 0 a1_.toNat = S0_.2.2.1 86 0 a1_.toNat := y70_.1 a1_.toNat (by omega)
          have bx103_ : 0 ≤ Sx97_.1 8 0 2 ∧ Sx97_.1 8 0 2 ≤ 2356 := hIx98_.1 8 0 2 rfl
          refine sm_T_go 4 (c1 := (79, [some (.inr (.inr (some (8, 0)))), some (.inl a1_), some (.inl a2_), some (.inl a3_), some (.inl (S0_.2.2.1 86 0 a1_.toNat)), some (.inl (a1_ % (S0_.1 8 0 1)))], [.inl (Sx97_.1 8 0 2), .inl a1_, .inr (.inr (some (8, 0)))], Sx97_)) rfl ?_
          refine sm_T_bin (w := a1_ + (Sx97_.1 8 0 2)) rfl (bi_add (by omega) (by omega) (by omega)) ?_ -- pc_ 79
          refine sm_T_go 3 (c1 := (84, [some (.inr (.inr (some (8, 0)))), some (.inl a1_), some (.inl a2_), some (.inl a3_), some (.inl (S0_.2.2.1 86 0 a1_.toNat)), some (.inl (a1_ % (S0_.1 8 0 1)))], [.inl a3_, .inl a2_, .inl (S0_.2.2.1 86 0 a1_.toNat), .inl (a1_ + (Sx97_.1 8 0 2)), .inr (.inr (some (8, 0)))], Sx97_)) rfl ?_
          refine sm_T_cal (d1 := 0) (Q1 := vq_163 (a1_ + (Sx97_.1 8 0 2)) (S0_.2.2.1 86 0 a1_.toNat) a2_ a3_ bb_ a1_ Sx97_) rfl rfl (by decide) (vc_163 (a1_ + (Sx97_.1 8 0 2)) (S0_.2.2.1 86 0 a1_.toNat) a2_ a3_ bb_ a1_ Sx97_ hIx98_ (by exact (hFx101_.2.1 8 0 0 rfl).trans hb_) (by exact rgw_fr hg_ hFx101_) (by first | exact x70_.1 | exact x48_.1 | exact hr_) (by omega) (by omega) (by omega) (by (first | rfl | omega)) (by omega) (by ((first | rw [l70_, m70_] | rw [l48_, m48_] | skip); exact ⟨4, by decide, by rw [nb_5 (by omega)]; omega⟩))) (fun u_ Sx104_ px107_ => ?_)
          obtain ⟨rfl, hIx105_, hFx106_, px107_⟩ := px107_
          have hFx108_ : ai_fr (sx_W vw_162) S0_ Sx104_ := ai_fr_tr hFx101_ (fr_le hFx106_ rfl)
          have ex109_ : Sx104_.1 8 0 2 = Sx97_.1 8 0 2 := hFx106_.1 8 0 2 rfl
          have x84_ := px107_
          have y84_ : rmo S0_ Sx104_ := by first | exact rmo_tr y70_ px107_.2 | exact rmo_tr y48_ px107_.2 | exact px107_.2
          have l84_ : Sx104_.1 8 0 1 = S0_.1 8 0 1 := hFx108_.1 8 0 1 rfl
          have m84_ : Sx104_.1 8 0 2 = S0_.1 8 0 2 := hFx108_.1 8 0 2 rfl
          have z84_ : Sx104_.2.2.1 86 0 a1_.toNat = S0_.2.2.1 86 0 a1_.toNat := y84_.1 a1_.toNat (by omega)
          refine sm_T_go 1 (c1 := (159, [some (.inr (.inr (some (8, 0)))), some (.inl a1_), some (.inl a2_), some (.inl a3_), some (.inl (S0_.2.2.1 86 0 a1_.toNat)), some (.inl (a1_ % (S0_.1 8 0 1)))], [], Sx104_)) rfl ?_
          refine sm_T_rv rfl ⟨_, _, rfl, rfl, hIx105_, hFx108_, ?_⟩
          first | exact ⟨x84_.1, y84_⟩ | exact ⟨x156_.1, y156_⟩
end
/-! 99.zkdb -/
section
/-! Router.neighbour -/
def vw_164 : sx_Wl := ([], [], [])
def vq_164 (a1_ : Int) (a2_ : Int) (S0_ : sm_S) (u_ : Option sm_V) (S1_ : sm_S) : Prop := S0_ = S1_ ∧ ∃ v_ : Int, u_ = some (.inl v_) ∧ (v_ = nb (S0_.1 8 0 1) (S0_.1 8 0 2) a1_ a2_)
set_option maxHeartbeats 2000000 in
theorem vc_164 {sc_ : Nat × (Nat → Int)} (a1_ : Int) (a2_ : Int) (S0_ : sm_S) (hI_ : gi S0_) (hg_ : rgw S0_) (h1_ : 0 ≤ a1_ ∧ a1_ < 2 * S0_.1 8 0 2) (h2_ : 0 ≤ a2_ ∧ a2_ ≤ 4) : sm_T (mt_P sc_) 0 164 (0, [some (.inr (.inr (some (8, 0)))), some (.inl a1_), some (.inl a2_), none, none, none], [], S0_) (fun ro9_ => ∃ u_ S1_, ro9_ = (.inl u_, S1_, 0) ∧ vq_164 a1_ a2_ S0_ u_ S1_) := by
  have hF_ : ai_fr (sx_W vw_164) S0_ S0_ := ai_fr_rf
  have cL_ : 0 ≤ S0_.1 8 0 2 ∧ S0_.1 8 0 2 ≤ 2356 := hI_.1 8 0 2 rfl
  have cw : 0 ≤ S0_.1 8 0 1 ∧ S0_.1 8 0 1 ≤ 62 := hI_.1 8 0 1 rfl
  have w9_ := hg_.1
  have bx1_ : 0 ≤ S0_.1 8 0 2 ∧ S0_.1 8 0 2 ≤ 2356 := hI_.1 8 0 2 rfl
  refine sm_T_go 3 (c1 := (5, [some (.inr (.inr (some (8, 0)))), some (.inl a1_), some (.inl a2_), none, none, none], [.inl (S0_.1 8 0 2), .inl a1_], S0_)) rfl ?_
  refine sm_T_br (a := 2) (z := 7) rfl (fun cx2_ => ?_) (fun cx2_ => ?_)
  · have cx2_ : a1_ < (S0_.1 8 0 2) := of_decide_eq_true cx2_
    have bx3_ : 0 ≤ S0_.1 8 0 1 ∧ S0_.1 8 0 1 ≤ 62 := hI_.1 8 0 1 rfl
    refine sm_T_go 8 (c1 := (34, [some (.inr (.inr (some (8, 0)))), some (.inl a1_), some (.inl a2_), some (.inl 0), some (.inl a1_), none], [.inl (S0_.1 8 0 1)], S0_)) rfl ?_
    refine sm_T_b0 (a := 5) (z := 13) rfl (fun cx4_ => ?_) (fun cx4_ => ?_)
    · have cx4_ : (S0_.1 8 0 1) ≤ 0 := of_decide_eq_true cx4_
      exfalso; omega
    · have cx4_ : ¬ ((S0_.1 8 0 1) ≤ 0) := of_decide_eq_false cx4_
      refine sm_T_go 3 (c1 := (43, [some (.inr (.inr (some (8, 0)))), some (.inl a1_), some (.inl a2_), some (.inl 0), some (.inl a1_), none], [.inl (S0_.1 8 0 1), .inl a1_], S0_)) rfl ?_
      refine sm_T_bin (w := (a1_ % (S0_.1 8 0 1))) rfl (bi_rem (by omega) (by omega) (by omega) (by omega)) ?_ -- pc_ 43
      refine sm_T_go 3 (c1 := (51, [some (.inr (.inr (some (8, 0)))), some (.inl a1_), some (.inl a2_), some (.inl 0), some (.inl a1_), some (.inl (a1_ % (S0_.1 8 0 1)))], [.inl a2_], S0_)) rfl ?_
      by_cases cx5_ : a2_ = 0
      · refine sm_T_sw (t := 80) rfl rfl (by rw [cx5_]; rfl) ?_
        refine sm_T_go 3 (c1 := (86, [some (.inr (.inr (some (8, 0)))), some (.inl a1_), some (.inl a2_), some (.inl 0), some (.inl a1_), some (.inl (a1_ % (S0_.1 8 0 1)))], [.inl (a1_ % (S0_.1 8 0 1))], S0_)) rfl ?_
        refine sm_T_b0 (a := 5) (z := 9) rfl (fun cx6_ => ?_) (fun cx6_ => ?_)
        · have cx6_ : (a1_ % (S0_.1 8 0 1)) ≤ 0 := of_decide_eq_true cx6_
          refine sm_T_go 1 (c1 := (96, [some (.inr (.inr (some (8, 0)))), some (.inl a1_), some (.inl a2_), some (.inl 0), some (.inl a1_), some (.inl (a1_ % (S0_.1 8 0 1)))], [.inl (-1)], S0_)) rfl ?_
          refine sm_T_ri rfl ⟨_, _, rfl, rfl, _, rfl, ?_⟩
          unfold nb
          by_cases u9_ : a1_ < S0_.1 8 0 2
          · first | (exfalso; omega) | (rw [if_pos u9_]; first | rw [if_pos (by omega), if_pos (by omega)] | rw [if_pos (by omega), if_neg (by omega)] | rw [if_neg (by omega), if_pos (by omega), if_pos (by omega)] | rw [if_neg (by omega), if_pos (by omega), if_neg (by omega)] | rw [if_neg (by omega), if_neg (by omega), if_pos (by omega)] | rw [if_neg (by omega), if_neg (by omega), if_neg (by omega)])
          · first | (exfalso; omega) | (rw [if_neg u9_]; first | rw [if_pos (by omega)] | rw [if_neg (by omega), if_pos (by omega), if_pos (by omega)] | rw [if_neg (by omega), if_pos (by omega), if_neg (by omega)] | rw [if_neg (by omega), if_neg (by omega), if_pos (by omega), if_pos (by omega)] | rw [if_neg (by omega), if_neg (by omega), if_pos (by omega), if_neg (by omega)] | rw [if_neg (by omega), if_neg (by omega), if_neg (by omega)])
        · have cx6_ : ¬ ((a1_ % (S0_.1 8 0 1)) ≤ 0) := of_decide_eq_false cx6_
          refine sm_T_go 2 (c1 := (91, [some (.inr (.inr (some (8, 0)))), some (.inl a1_), some (.inl a2_), some (.inl 0), some (.inl a1_), some (.inl (a1_ % (S0_.1 8 0 1)))], [.inl 1, .inl a1_], S0_)) rfl ?_
          refine sm_T_bin (w := a1_ - 1) rfl (bi_sub (by omega) (by omega) (by omega)) ?_ -- pc_ 91
          refine sm_T_go 1 (c1 := (96, [some (.inr (.inr (some (8, 0)))), some (.inl a1_), some (.inl a2_), some (.inl 0), some (.inl a1_), some (.inl (a1_ % (S0_.1 8 0 1)))], [.inl (a1_ - 1)], S0_)) rfl ?_
          refine sm_T_ri rfl ⟨_, _, rfl, rfl, _, rfl, ?_⟩
          unfold nb
          by_cases u9_ : a1_ < S0_.1 8 0 2
          · first | (exfalso; omega) | (rw [if_pos u9_]; first | rw [if_pos (by omega), if_pos (by omega)] | rw [if_pos (by omega), if_neg (by omega)] | rw [if_neg (by omega), if_pos (by omega), if_pos (by omega)] | rw [if_neg (by omega), if_pos (by omega), if_neg (by omega)] | rw [if_neg (by omega), if_neg (by omega), if_pos (by omega)] | rw [if_neg (by omega), if_neg (by omega), if_neg (by omega)])
          · first | (exfalso; omega) | (rw [if_neg u9_]; first | rw [if_pos (by omega)] | rw [if_neg (by omega), if_pos (by omega), if_pos (by omega)] | rw [if_neg (by omega), if_pos (by omega), if_neg (by omega)] | rw [if_neg (by omega), if_neg (by omega), if_pos (by omega), if_pos (by omega)] | rw [if_neg (by omega), if_neg (by omega), if_pos (by omega), if_neg (by omega)] | rw [if_neg (by omega), if_neg (by omega), if_neg (by omega)])
      by_cases cx7_ : a2_ = 1
      · refine sm_T_sw (t := 97) rfl rfl (by rw [cx7_]; rfl) ?_
        refine sm_T_go 6 (c1 := (108, [some (.inr (.inr (some (8, 0)))), some (.inl a1_), some (.inl a2_), some (.inl 0), some (.inl a1_), some (.inl (a1_ % (S0_.1 8 0 1)))], [.inl 1, .inl (S0_.1 8 0 1), .inl (a1_ % (S0_.1 8 0 1))], S0_)) rfl ?_
        refine sm_T_bin (w := (S0_.1 8 0 1) - 1) rfl (bi_sub (by omega) (by omega) (by omega)) ?_ -- pc_ 108
        refine sm_T_br (a := 3) (z := 9) rfl (fun cx8_ => ?_) (fun cx8_ => ?_)
        · have cx8_ : (S0_.1 8 0 1) - 1 ≤ (a1_ % (S0_.1 8 0 1)) := of_decide_eq_true cx8_
          refine sm_T_go 1 (c1 := (119, [some (.inr (.inr (some (8, 0)))), some (.inl a1_), some (.inl a2_), some (.inl 0), some (.inl a1_), some (.inl (a1_ % (S0_.1 8 0 1)))], [.inl (-1)], S0_)) rfl ?_
          refine sm_T_ri rfl ⟨_, _, rfl, rfl, _, rfl, ?_⟩
          unfold nb
          by_cases u9_ : a1_ < S0_.1 8 0 2
          · first | (exfalso; omega) | (rw [if_pos u9_]; first | rw [if_pos (by omega), if_pos (by omega)] | rw [if_pos (by omega), if_neg (by omega)] | rw [if_neg (by omega), if_pos (by omega), if_pos (by omega)] | rw [if_neg (by omega), if_pos (by omega), if_neg (by omega)] | rw [if_neg (by omega), if_neg (by omega), if_pos (by omega)] | rw [if_neg (by omega), if_neg (by omega), if_neg (by omega)])
          · first | (exfalso; omega) | (rw [if_neg u9_]; first | rw [if_pos (by omega)] | rw [if_neg (by omega), if_pos (by omega), if_pos (by omega)] | rw [if_neg (by omega), if_pos (by omega), if_neg (by omega)] | rw [if_neg (by omega), if_neg (by omega), if_pos (by omega), if_pos (by omega)] | rw [if_neg (by omega), if_neg (by omega), if_pos (by omega), if_neg (by omega)] | rw [if_neg (by omega), if_neg (by omega), if_neg (by omega)])
        · have cx8_ : ¬ ((S0_.1 8 0 1) - 1 ≤ (a1_ % (S0_.1 8 0 1))) := of_decide_eq_false cx8_
          refine sm_T_go 2 (c1 := (114, [some (.inr (.inr (some (8, 0)))), some (.inl a1_), some (.inl a2_), some (.inl 0), some (.inl a1_), some (.inl (a1_ % (S0_.1 8 0 1)))], [.inl 1, .inl a1_], S0_)) rfl ?_
          refine sm_T_bin (w := a1_ + 1) rfl (bi_add (by omega) (by omega) (by omega)) ?_ -- pc_ 114
          refine sm_T_go 1 (c1 := (119, [some (.inr (.inr (some (8, 0)))), some (.inl a1_), some (.inl a2_), some (.inl 0), some (.inl a1_), some (.inl (a1_ % (S0_.1 8 0 1)))], [.inl (a1_ + 1)], S0_)) rfl ?_
          refine sm_T_ri rfl ⟨_, _, rfl, rfl, _, rfl, ?_⟩
          unfold nb
          by_cases u9_ : a1_ < S0_.1 8 0 2
          · first | (exfalso; omega) | (rw [if_pos u9_]; first | rw [if_pos (by omega), if_pos (by omega)] | rw [if_pos (by omega), if_neg (by omega)] | rw [if_neg (by omega), if_pos (by omega), if_pos (by omega)] | rw [if_neg (by omega), if_pos (by omega), if_neg (by omega)] | rw [if_neg (by omega), if_neg (by omega), if_pos (by omega)] | rw [if_neg (by omega), if_neg (by omega), if_neg (by omega)])
          · first | (exfalso; omega) | (rw [if_neg u9_]; first | rw [if_pos (by omega)] | rw [if_neg (by omega), if_pos (by omega), if_pos (by omega)] | rw [if_neg (by omega), if_pos (by omega), if_neg (by omega)] | rw [if_neg (by omega), if_neg (by omega), if_pos (by omega), if_pos (by omega)] | rw [if_neg (by omega), if_neg (by omega), if_pos (by omega), if_neg (by omega)] | rw [if_neg (by omega), if_neg (by omega), if_neg (by omega)])
      by_cases cx9_ : a2_ = 2
      · refine sm_T_sw (t := 120) rfl rfl (by rw [cx9_]; rfl) ?_
        refine sm_T_go 3 (c1 := (143, [some (.inr (.inr (some (8, 0)))), some (.inl a1_), some (.inl a2_), some (.inl 0), some (.inl a1_), some (.inl (a1_ % (S0_.1 8 0 1)))], [.inl (-1)], S0_)) rfl ?_
        refine sm_T_ri rfl ⟨_, _, rfl, rfl, _, rfl, ?_⟩
        unfold nb
        by_cases u9_ : a1_ < S0_.1 8 0 2
        · first | (exfalso; omega) | (rw [if_pos u9_]; first | rw [if_pos (by omega), if_pos (by omega)] | rw [if_pos (by omega), if_neg (by omega)] | rw [if_neg (by omega), if_pos (by omega), if_pos (by omega)] | rw [if_neg (by omega), if_pos (by omega), if_neg (by omega)] | rw [if_neg (by omega), if_neg (by omega), if_pos (by omega)] | rw [if_neg (by omega), if_neg (by omega), if_neg (by omega)])
        · first | (exfalso; omega) | (rw [if_neg u9_]; first | rw [if_pos (by omega)] | rw [if_neg (by omega), if_pos (by omega), if_pos (by omega)] | rw [if_neg (by omega), if_pos (by omega), if_neg (by omega)] | rw [if_neg (by omega), if_neg (by omega), if_pos (by omega), if_pos (by omega)] | rw [if_neg (by omega), if_neg (by omega), if_pos (by omega), if_neg (by omega)] | rw [if_neg (by omega), if_neg (by omega), if_neg (by omega)])
      by_cases cx10_ : a2_ = 3
      · refine sm_T_sw (t := 144) rfl rfl (by rw [cx10_]; rfl) ?_
        refine sm_T_go 3 (c1 := (172, [some (.inr (.inr (some (8, 0)))), some (.inl a1_), some (.inl a2_), some (.inl 0), some (.inl a1_), some (.inl (a1_ % (S0_.1 8 0 1)))], [.inl (-1)], S0_)) rfl ?_
        refine sm_T_ri rfl ⟨_, _, rfl, rfl, _, rfl, ?_⟩
        unfold nb
        by_cases u9_ : a1_ < S0_.1 8 0 2
        · first | (exfalso; omega) | (rw [if_pos u9_]; first | rw [if_pos (by omega), if_pos (by omega)] | rw [if_pos (by omega), if_neg (by omega)] | rw [if_neg (by omega), if_pos (by omega), if_pos (by omega)] | rw [if_neg (by omega), if_pos (by omega), if_neg (by omega)] | rw [if_neg (by omega), if_neg (by omega), if_pos (by omega)] | rw [if_neg (by omega), if_neg (by omega), if_neg (by omega)])
        · first | (exfalso; omega) | (rw [if_neg u9_]; first | rw [if_pos (by omega)] | rw [if_neg (by omega), if_pos (by omega), if_pos (by omega)] | rw [if_neg (by omega), if_pos (by omega), if_neg (by omega)] | rw [if_neg (by omega), if_neg (by omega), if_pos (by omega), if_pos (by omega)] | rw [if_neg (by omega), if_neg (by omega), if_pos (by omega), if_neg (by omega)] | rw [if_neg (by omega), if_neg (by omega), if_neg (by omega)])
      refine sm_T_sw (t := 173) rfl rfl (by (have hh_ : a2_ < 0 ∨ 4 ≤ a2_ := by omega); rcases hh_ with hh_ | hh_; (exact sm_swd (Or.inl hh_)); (exact sm_swd (Or.inr (by simp only [List.length_cons, List.length_nil]; omega)))) ?_
      refine sm_T_go 5 (c1 := (187, [some (.inr (.inr (some (8, 0)))), some (.inl a1_), some (.inl a2_), some (.inl 0), some (.inl a1_), some (.inl (a1_ % (S0_.1 8 0 1)))], [.inl (S0_.1 8 0 2), .inl a1_], S0_)) rfl ?_
      refine sm_T_bin (w := a1_ + (S0_.1 8 0 2)) rfl (bi_add (by omega) (by omega) (by omega)) ?_ -- pc_ 187
      refine sm_T_ri rfl ⟨_, _, rfl, rfl, _, rfl, ?_⟩
      unfold nb
      by_cases u9_ : a1_ < S0_.1 8 0 2
      · first | (exfalso; omega) | (rw [if_pos u9_]; first | rw [if_pos (by omega), if_pos (by omega)] | rw [if_pos (by omega), if_neg (by omega)] | rw [if_neg (by omega), if_pos (by omega), if_pos (by omega)] | rw [if_neg (by omega), if_pos (by omega), if_neg (by omega)] | rw [if_neg (by omega), if_neg (by omega), if_pos (by omega)] | rw [if_neg (by omega), if_neg (by omega), if_neg (by omega)])
      · first | (exfalso; omega) | (rw [if_neg u9_]; first | rw [if_pos (by omega)] | rw [if_neg (by omega), if_pos (by omega), if_pos (by omega)] | rw [if_neg (by omega), if_pos (by omega), if_neg (by omega)] | rw [if_neg (by omega), if_neg (by omega), if_pos (by omega), if_pos (by omega)] | rw [if_neg (by omega), if_neg (by omega), if_pos (by omega), if_neg (by omega)] | rw [if_neg (by omega), if_neg (by omega), if_neg (by omega)])
  · have cx2_ : ¬ (a1_ < (S0_.1 8 0 2)) := of_decide_eq_false cx2_
    refine sm_T_go 8 (c1 := (23, [some (.inr (.inr (some (8, 0)))), some (.inl a1_), some (.inl a2_), some (.inl 1), none, none], [.inl (S0_.1 8 0 2), .inl a1_], S0_)) rfl ?_
    refine sm_T_bin (w := a1_ - (S0_.1 8 0 2)) rfl (bi_sub (by omega) (by omega) (by omega)) ?_ -- pc_ 23
    have bx11_ : 0 ≤ S0_.1 8 0 1 ∧ S0_.1 8 0 1 ≤ 62 := hI_.1 8 0 1 rfl
    refine sm_T_go 4 (c1 := (34, [some (.inr (.inr (some (8, 0)))), some (.inl a1_), some (.inl a2_), some (.inl 1), some (.inl (a1_ - (S0_.1 8 0 2))), none], [.inl (S0_.1 8 0 1)], S0_)) rfl ?_
    refine sm_T_b0 (a := 5) (z := 13) rfl (fun cx12_ => ?_) (fun cx12_ => ?_)
    · have cx12_ : (S0_.1 8 0 1) ≤ 0 := of_decide_eq_true cx12_
      exfalso; omega
    · have cx12_ : ¬ ((S0_.1 8 0 1) ≤ 0) := of_decide_eq_false cx12_
      refine sm_T_go 3 (c1 := (43, [some (.inr (.inr (some (8, 0)))), some (.inl a1_), some (.inl a2_), some (.inl 1), some (.inl (a1_ - (S0_.1 8 0 2))), none], [.inl (S0_.1 8 0 1), .inl (a1_ - (S0_.1 8 0 2))], S0_)) rfl ?_
      refine sm_T_bin (w := ((a1_ - (S0_.1 8 0 2)) % (S0_.1 8 0 1))) rfl (bi_rem (by omega) (by omega) (by omega) (by omega)) ?_ -- pc_ 43
      refine sm_T_go 3 (c1 := (51, [some (.inr (.inr (some (8, 0)))), some (.inl a1_), some (.inl a2_), some (.inl 1), some (.inl (a1_ - (S0_.1 8 0 2))), some (.inl ((a1_ - (S0_.1 8 0 2)) % (S0_.1 8 0 1)))], [.inl a2_], S0_)) rfl ?_
      by_cases cx13_ : a2_ = 0
      · refine sm_T_sw (t := 80) rfl rfl (by rw [cx13_]; rfl) ?_
        refine sm_T_go 3 (c1 := (96, [some (.inr (.inr (some (8, 0)))), some (.inl a1_), some (.inl a2_), some (.inl 1), some (.inl (a1_ - (S0_.1 8 0 2))), some (.inl ((a1_ - (S0_.1 8 0 2)) % (S0_.1 8 0 1)))], [.inl (-1)], S0_)) rfl ?_
        refine sm_T_ri rfl ⟨_, _, rfl, rfl, _, rfl, ?_⟩
        unfold nb
        by_cases u9_ : a1_ < S0_.1 8 0 2
        · first | (exfalso; omega) | (rw [if_pos u9_]; first | rw [if_pos (by omega), if_pos (by omega)] | rw [if_pos (by omega), if_neg (by omega)] | rw [if_neg (by omega), if_pos (by omega), if_pos (by omega)] | rw [if_neg (by omega), if_pos (by omega), if_neg (by omega)] | rw [if_neg (by omega), if_neg (by omega), if_pos (by omega)] | rw [if_neg (by omega), if_neg (by omega), if_neg (by omega)])
        · first | (exfalso; omega) | (rw [if_neg u9_]; first | rw [if_pos (by omega)] | rw [if_neg (by omega), if_pos (by omega), if_pos (by omega)] | rw [if_neg (by omega), if_pos (by omega), if_neg (by omega)] | rw [if_neg (by omega), if_neg (by omega), if_pos (by omega), if_pos (by omega)] | rw [if_neg (by omega), if_neg (by omega), if_pos (by omega), if_neg (by omega)] | rw [if_neg (by omega), if_neg (by omega), if_neg (by omega)])
      by_cases cx14_ : a2_ = 1
      · refine sm_T_sw (t := 97) rfl rfl (by rw [cx14_]; rfl) ?_
        refine sm_T_go 3 (c1 := (119, [some (.inr (.inr (some (8, 0)))), some (.inl a1_), some (.inl a2_), some (.inl 1), some (.inl (a1_ - (S0_.1 8 0 2))), some (.inl ((a1_ - (S0_.1 8 0 2)) % (S0_.1 8 0 1)))], [.inl (-1)], S0_)) rfl ?_
        refine sm_T_ri rfl ⟨_, _, rfl, rfl, _, rfl, ?_⟩
        unfold nb
        by_cases u9_ : a1_ < S0_.1 8 0 2
        · first | (exfalso; omega) | (rw [if_pos u9_]; first | rw [if_pos (by omega), if_pos (by omega)] | rw [if_pos (by omega), if_neg (by omega)] | rw [if_neg (by omega), if_pos (by omega), if_pos (by omega)] | rw [if_neg (by omega), if_pos (by omega), if_neg (by omega)] | rw [if_neg (by omega), if_neg (by omega), if_pos (by omega)] | rw [if_neg (by omega), if_neg (by omega), if_neg (by omega)])
        · first | (exfalso; omega) | (rw [if_neg u9_]; first | rw [if_pos (by omega)] | rw [if_neg (by omega), if_pos (by omega), if_pos (by omega)] | rw [if_neg (by omega), if_pos (by omega), if_neg (by omega)] | rw [if_neg (by omega), if_neg (by omega), if_pos (by omega), if_pos (by omega)] | rw [if_neg (by omega), if_neg (by omega), if_pos (by omega), if_neg (by omega)] | rw [if_neg (by omega), if_neg (by omega), if_neg (by omega)])
      by_cases cx15_ : a2_ = 2
      · refine sm_T_sw (t := 120) rfl rfl (by rw [cx15_]; rfl) ?_
        refine sm_T_go 5 (c1 := (130, [some (.inr (.inr (some (8, 0)))), some (.inl a1_), some (.inl a2_), some (.inl 1), some (.inl (a1_ - (S0_.1 8 0 2))), some (.inl ((a1_ - (S0_.1 8 0 2)) % (S0_.1 8 0 1)))], [.inl (S0_.1 8 0 1), .inl (a1_ - (S0_.1 8 0 2))], S0_)) rfl ?_
        refine sm_T_br (a := 2) (z := 12) rfl (fun cx16_ => ?_) (fun cx16_ => ?_)
        · have cx16_ : a1_ - (S0_.1 8 0 2) < (S0_.1 8 0 1) := of_decide_eq_true cx16_
          refine sm_T_go 1 (c1 := (143, [some (.inr (.inr (some (8, 0)))), some (.inl a1_), some (.inl a2_), some (.inl 1), some (.inl (a1_ - (S0_.1 8 0 2))), some (.inl ((a1_ - (S0_.1 8 0 2)) % (S0_.1 8 0 1)))], [.inl (-1)], S0_)) rfl ?_
          refine sm_T_ri rfl ⟨_, _, rfl, rfl, _, rfl, ?_⟩
          unfold nb
          by_cases u9_ : a1_ < S0_.1 8 0 2
          · first | (exfalso; omega) | (rw [if_pos u9_]; first | rw [if_pos (by omega), if_pos (by omega)] | rw [if_pos (by omega), if_neg (by omega)] | rw [if_neg (by omega), if_pos (by omega), if_pos (by omega)] | rw [if_neg (by omega), if_pos (by omega), if_neg (by omega)] | rw [if_neg (by omega), if_neg (by omega), if_pos (by omega)] | rw [if_neg (by omega), if_neg (by omega), if_neg (by omega)])
          · first | (exfalso; omega) | (rw [if_neg u9_]; first | rw [if_pos (by omega)] | rw [if_neg (by omega), if_pos (by omega), if_pos (by omega)] | rw [if_neg (by omega), if_pos (by omega), if_neg (by omega)] | rw [if_neg (by omega), if_neg (by omega), if_pos (by omega), if_pos (by omega)] | rw [if_neg (by omega), if_neg (by omega), if_pos (by omega), if_neg (by omega)] | rw [if_neg (by omega), if_neg (by omega), if_neg (by omega)])
        · have cx16_ : ¬ (a1_ - (S0_.1 8 0 2) < (S0_.1 8 0 1)) := of_decide_eq_false cx16_
          refine sm_T_go 3 (c1 := (138, [some (.inr (.inr (some (8, 0)))), some (.inl a1_), some (.inl a2_), some (.inl 1), some (.inl (a1_ - (S0_.1 8 0 2))), some (.inl ((a1_ - (S0_.1 8 0 2)) % (S0_.1 8 0 1)))], [.inl (S0_.1 8 0 1), .inl a1_], S0_)) rfl ?_
          refine sm_T_bin (w := a1_ - (S0_.1 8 0 1)) rfl (bi_sub (by omega) (by omega) (by omega)) ?_ -- pc_ 138
          refine sm_T_go 1 (c1 := (143, [some (.inr (.inr (some (8, 0)))), some (.inl a1_), some (.inl a2_), some (.inl 1), some (.inl (a1_ - (S0_.1 8 0 2))), some (.inl ((a1_ - (S0_.1 8 0 2)) % (S0_.1 8 0 1)))], [.inl (a1_ - (S0_.1 8 0 1))], S0_)) rfl ?_
          refine sm_T_ri rfl ⟨_, _, rfl, rfl, _, rfl, ?_⟩
          unfold nb
          by_cases u9_ : a1_ < S0_.1 8 0 2
          · first | (exfalso; omega) | (rw [if_pos u9_]; first | rw [if_pos (by omega), if_pos (by omega)] | rw [if_pos (by omega), if_neg (by omega)] | rw [if_neg (by omega), if_pos (by omega), if_pos (by omega)] | rw [if_neg (by omega), if_pos (by omega), if_neg (by omega)] | rw [if_neg (by omega), if_neg (by omega), if_pos (by omega)] | rw [if_neg (by omega), if_neg (by omega), if_neg (by omega)])
          · first | (exfalso; omega) | (rw [if_neg u9_]; first | rw [if_pos (by omega)] | rw [if_neg (by omega), if_pos (by omega), if_pos (by omega)] | rw [if_neg (by omega), if_pos (by omega), if_neg (by omega)] | rw [if_neg (by omega), if_neg (by omega), if_pos (by omega), if_pos (by omega)] | rw [if_neg (by omega), if_neg (by omega), if_pos (by omega), if_neg (by omega)] | rw [if_neg (by omega), if_neg (by omega), if_neg (by omega)])
      by_cases cx17_ : a2_ = 3
      · refine sm_T_sw (t := 144) rfl rfl (by rw [cx17_]; rfl) ?_
        refine sm_T_go 7 (c1 := (158, [some (.inr (.inr (some (8, 0)))), some (.inl a1_), some (.inl a2_), some (.inl 1), some (.inl (a1_ - (S0_.1 8 0 2))), some (.inl ((a1_ - (S0_.1 8 0 2)) % (S0_.1 8 0 1)))], [.inl (S0_.1 8 0 1), .inl (S0_.1 8 0 2), .inl (a1_ - (S0_.1 8 0 2))], S0_)) rfl ?_
        refine sm_T_bin (w := (S0_.1 8 0 2) - (S0_.1 8 0 1)) rfl (bi_sub (by omega) (by omega) (by omega)) ?_ -- pc_ 158
        refine sm_T_br (a := 3) (z := 12) rfl (fun cx18_ => ?_) (fun cx18_ => ?_)
        · have cx18_ : (S0_.1 8 0 2) - (S0_.1 8 0 1) ≤ a1_ - (S0_.1 8 0 2) := of_decide_eq_true cx18_
          refine sm_T_go 1 (c1 := (172, [some (.inr (.inr (some (8, 0)))), some (.inl a1_), some (.inl a2_), some (.inl 1), some (.inl (a1_ - (S0_.1 8 0 2))), some (.inl ((a1_ - (S0_.1 8 0 2)) % (S0_.1 8 0 1)))], [.inl (-1)], S0_)) rfl ?_
          refine sm_T_ri rfl ⟨_, _, rfl, rfl, _, rfl, ?_⟩
          unfold nb
          by_cases u9_ : a1_ < S0_.1 8 0 2
          · first | (exfalso; omega) | (rw [if_pos u9_]; first | rw [if_pos (by omega), if_pos (by omega)] | rw [if_pos (by omega), if_neg (by omega)] | rw [if_neg (by omega), if_pos (by omega), if_pos (by omega)] | rw [if_neg (by omega), if_pos (by omega), if_neg (by omega)] | rw [if_neg (by omega), if_neg (by omega), if_pos (by omega)] | rw [if_neg (by omega), if_neg (by omega), if_neg (by omega)])
          · first | (exfalso; omega) | (rw [if_neg u9_]; first | rw [if_pos (by omega)] | rw [if_neg (by omega), if_pos (by omega), if_pos (by omega)] | rw [if_neg (by omega), if_pos (by omega), if_neg (by omega)] | rw [if_neg (by omega), if_neg (by omega), if_pos (by omega), if_pos (by omega)] | rw [if_neg (by omega), if_neg (by omega), if_pos (by omega), if_neg (by omega)] | rw [if_neg (by omega), if_neg (by omega), if_neg (by omega)])
        · have cx18_ : ¬ ((S0_.1 8 0 2) - (S0_.1 8 0 1) ≤ a1_ - (S0_.1 8 0 2)) := of_decide_eq_false cx18_
          refine sm_T_go 3 (c1 := (167, [some (.inr (.inr (some (8, 0)))), some (.inl a1_), some (.inl a2_), some (.inl 1), some (.inl (a1_ - (S0_.1 8 0 2))), some (.inl ((a1_ - (S0_.1 8 0 2)) % (S0_.1 8 0 1)))], [.inl (S0_.1 8 0 1), .inl a1_], S0_)) rfl ?_
          refine sm_T_bin (w := a1_ + (S0_.1 8 0 1)) rfl (bi_add (by omega) (by omega) (by omega)) ?_ -- pc_ 167
          refine sm_T_go 1 (c1 := (172, [some (.inr (.inr (some (8, 0)))), some (.inl a1_), some (.inl a2_), some (.inl 1), some (.inl (a1_ - (S0_.1 8 0 2))), some (.inl ((a1_ - (S0_.1 8 0 2)) % (S0_.1 8 0 1)))], [.inl (a1_ + (S0_.1 8 0 1))], S0_)) rfl ?_
          refine sm_T_ri rfl ⟨_, _, rfl, rfl, _, rfl, ?_⟩
          unfold nb
          by_cases u9_ : a1_ < S0_.1 8 0 2
          · first | (exfalso; omega) | (rw [if_pos u9_]; first | rw [if_pos (by omega), if_pos (by omega)] | rw [if_pos (by omega), if_neg (by omega)] | rw [if_neg (by omega), if_pos (by omega), if_pos (by omega)] | rw [if_neg (by omega), if_pos (by omega), if_neg (by omega)] | rw [if_neg (by omega), if_neg (by omega), if_pos (by omega)] | rw [if_neg (by omega), if_neg (by omega), if_neg (by omega)])
          · first | (exfalso; omega) | (rw [if_neg u9_]; first | rw [if_pos (by omega)] | rw [if_neg (by omega), if_pos (by omega), if_pos (by omega)] | rw [if_neg (by omega), if_pos (by omega), if_neg (by omega)] | rw [if_neg (by omega), if_neg (by omega), if_pos (by omega), if_pos (by omega)] | rw [if_neg (by omega), if_neg (by omega), if_pos (by omega), if_neg (by omega)] | rw [if_neg (by omega), if_neg (by omega), if_neg (by omega)])
      refine sm_T_sw (t := 173) rfl rfl (by (have hh_ : a2_ < 0 ∨ 4 ≤ a2_ := by omega); rcases hh_ with hh_ | hh_; (exact sm_swd (Or.inl hh_)); (exact sm_swd (Or.inr (by simp only [List.length_cons, List.length_nil]; omega)))) ?_
      refine sm_T_go 4 (c1 := (188, [some (.inr (.inr (some (8, 0)))), some (.inl a1_), some (.inl a2_), some (.inl 1), some (.inl (a1_ - (S0_.1 8 0 2))), some (.inl ((a1_ - (S0_.1 8 0 2)) % (S0_.1 8 0 1)))], [.inl (a1_ - (S0_.1 8 0 2))], S0_)) rfl ?_
      refine sm_T_ri rfl ⟨_, _, rfl, rfl, _, rfl, ?_⟩
      unfold nb
      by_cases u9_ : a1_ < S0_.1 8 0 2
      · first | (exfalso; omega) | (rw [if_pos u9_]; first | rw [if_pos (by omega), if_pos (by omega)] | rw [if_pos (by omega), if_neg (by omega)] | rw [if_neg (by omega), if_pos (by omega), if_pos (by omega)] | rw [if_neg (by omega), if_pos (by omega), if_neg (by omega)] | rw [if_neg (by omega), if_neg (by omega), if_pos (by omega)] | rw [if_neg (by omega), if_neg (by omega), if_neg (by omega)])
      · first | (exfalso; omega) | (rw [if_neg u9_]; first | rw [if_pos (by omega)] | rw [if_neg (by omega), if_pos (by omega), if_pos (by omega)] | rw [if_neg (by omega), if_pos (by omega), if_neg (by omega)] | rw [if_neg (by omega), if_neg (by omega), if_pos (by omega), if_pos (by omega)] | rw [if_neg (by omega), if_neg (by omega), if_pos (by omega), if_neg (by omega)] | rw [if_neg (by omega), if_neg (by omega), if_neg (by omega)])
end
/-! 99.zkdc -/
section
/-! Router.priceOf -/
def vw_160 : sx_Wl := ([], [], [])
def vq_160 (a1_ : Int) (a2_ : Int) (bb_ : Nat) (S0_ : sm_S) (u_ : Option sm_V) (S1_ : sm_S) : Prop := S0_ = S1_ ∧ ∃ v_ : Int, u_ = some (.inl v_) ∧ (v_ = prc (S0_.2.2.1 22 (0 + bb_)) a2_ a1_.toNat)
set_option maxHeartbeats 400000 in
theorem vc_160 {sc_ : Nat × (Nat → Int)} (a1_ : Int) (a2_ : Int) (bb_ : Nat) (S0_ : sm_S) (hI_ : gi S0_) (hb_ : S0_.2.1 8 0 0 = some bb_) (h1_ : 0 ≤ a1_ ∧ a1_ < 4712) : sm_T (mt_P sc_) 0 160 (0, [some (.inr (.inr (some (8, 0)))), some (.inl a1_), some (.inl a2_)], [], S0_) (fun ro9_ => ∃ u_ S1_, ro9_ = (.inl u_, S1_, 0) ∧ vq_160 a1_ a2_ bb_ S0_ u_ S1_) := by
  have hF_ : ai_fr (sx_W vw_160) S0_ S0_ := ai_fr_rf
  refine sm_T_go 1 (c1 := (1, [some (.inr (.inr (some (8, 0)))), some (.inl a1_), some (.inl a2_)], [.inr (.inr (some (8, 0)))], S0_)) rfl ?_
  refine sm_T_gr rfl rfl ((hF_.2.1 8 0 0 rfl).trans hb_) ?_
  refine sm_T_go 2 (c1 := (8, [some (.inr (.inr (some (8, 0)))), some (.inl a1_), some (.inl a2_)], [.inl a1_, .inr (.inr (some (22, (0 + bb_))))], S0_)) rfl ?_
  refine sm_T_iald (n := 4712) rfl rfl (by omega) (by omega) ?_
  have bx1_ : (-1) ≤ S0_.2.2.1 22 (0 + bb_) a1_.toNat ∧ S0_.2.2.1 22 (0 + bb_) a1_.toNat ≤ 161 := hI_.2 22 (0 + bb_) _
  refine sm_T_go 1 (c1 := (10, [some (.inr (.inr (some (8, 0)))), some (.inl a1_), some (.inl a2_)], [.inl (-1), .inl (S0_.2.2.1 22 (0 + bb_) a1_.toNat)], S0_)) rfl ?_
  refine sm_T_br (a := 0) (z := 16) rfl (fun cx2_ => ?_) (fun cx2_ => ?_)
  · have cx2_ : (S0_.2.2.1 22 (0 + bb_) a1_.toNat) = (-1) := of_decide_eq_true cx2_
    refine sm_T_go 2 (c1 := (32, [some (.inr (.inr (some (8, 0)))), some (.inl a1_), some (.inl a2_)], [.inl 1], S0_)) rfl ?_
    refine sm_T_ri rfl ⟨_, _, rfl, rfl, _, rfl, ?_⟩
    unfold prc
    first | rw [if_pos (Or.inl (by omega))] | rw [if_pos (Or.inr (by omega))] | rw [if_neg (by omega)]
  · have cx2_ : ¬ ((S0_.2.2.1 22 (0 + bb_) a1_.toNat) = (-1)) := of_decide_eq_false cx2_
    refine sm_T_go 1 (c1 := (14, [some (.inr (.inr (some (8, 0)))), some (.inl a1_), some (.inl a2_)], [.inr (.inr (some (8, 0)))], S0_)) rfl ?_
    refine sm_T_gr rfl rfl ((hF_.2.1 8 0 0 rfl).trans hb_) ?_
    refine sm_T_go 2 (c1 := (21, [some (.inr (.inr (some (8, 0)))), some (.inl a1_), some (.inl a2_)], [.inl a1_, .inr (.inr (some (22, (0 + bb_))))], S0_)) rfl ?_
    refine sm_T_iald (n := 4712) rfl rfl (by omega) (by omega) ?_
    refine sm_T_go 1 (c1 := (23, [some (.inr (.inr (some (8, 0)))), some (.inl a1_), some (.inl a2_)], [.inl a2_, .inl (S0_.2.2.1 22 (0 + bb_) a1_.toNat)], S0_)) rfl ?_
    refine sm_T_br (a := 1) (z := 7) rfl (fun cx3_ => ?_) (fun cx3_ => ?_)
    · have cx3_ : (S0_.2.2.1 22 (0 + bb_) a1_.toNat) ≠ a2_ := of_decide_eq_true cx3_
      refine sm_T_go 1 (c1 := (32, [some (.inr (.inr (some (8, 0)))), some (.inl a1_), some (.inl a2_)], [.inl 11], S0_)) rfl ?_
      refine sm_T_ri rfl ⟨_, _, rfl, rfl, _, rfl, ?_⟩
      unfold prc
      first | rw [if_pos (Or.inl (by omega))] | rw [if_pos (Or.inr (by omega))] | rw [if_neg (by omega)]
    · have cx3_ : ¬ ((S0_.2.2.1 22 (0 + bb_) a1_.toNat) ≠ a2_) := of_decide_eq_false cx3_
      refine sm_T_go 2 (c1 := (32, [some (.inr (.inr (some (8, 0)))), some (.inl a1_), some (.inl a2_)], [.inl 1], S0_)) rfl ?_
      refine sm_T_ri rfl ⟨_, _, rfl, rfl, _, rfl, ?_⟩
      unfold prc
      first | rw [if_pos (Or.inl (by omega))] | rw [if_pos (Or.inr (by omega))] | rw [if_neg (by omega)]
end
/-! 99.zkdd -/
section
/-! Router.before -/
def vw_166 : sx_Wl := ([], [], [])
def vq_166 (a1_ : Int) (a2_ : Int) (S0_ : sm_S) (u_ : Option sm_V) (S1_ : sm_S) : Prop := S0_ = S1_ ∧ ∃ v_ : Int, u_ = some (.inl v_) ∧ ((v_ = -1 ∧ ∀ d_, 0 ≤ d_ → d_ < 5 → nb (S0_.1 8 0 1) (S0_.1 8 0 2) a1_ d_ = -1 ∨ S0_.2.2.1 86 0 (nb (S0_.1 8 0 1) (S0_.1 8 0 2) a1_ d_).toNat ≠ a2_) ∨ ((0 ≤ v_ ∧ v_ < 2 * S0_.1 8 0 2) ∧ S0_.2.2.1 86 0 v_.toNat = a2_))
set_option maxHeartbeats 400000 in
theorem vl_166 {sc_ : Nat × (Nat → Int)} (a1_ : Int) (a2_ : Int) (S0_ : sm_S) (hg_ : rgw S0_) (h1_ : 0 ≤ a1_ ∧ a1_ < 2 * S0_.1 8 0 2) : ∀ nn_ : Nat, (∀ (d9_ : Int) (S_ : sm_S), gi S_ → ai_fr (sx_W vw_166) S0_ S_ → ((0 ≤ d9_ ∧ d9_ ≤ 5) ∧ (∀ d_, 0 ≤ d_ → d_ < d9_ → nb (S0_.1 8 0 1) (S0_.1 8 0 2) a1_ d_ = -1 ∨ S0_.2.2.1 86 0 (nb (S0_.1 8 0 1) (S0_.1 8 0 2) a1_ d_).toNat ≠ a2_) ∧ (S_ = S0_) ∧ True) → ((10 - d9_).toNat) < nn_ → sm_T (mt_P sc_) 1 166 (2, [some (.inr (.inr (some (8, 0)))), some (.inl a1_), some (.inl a2_), some (.inl d9_), none], [], S_) (fun ro9_ => ∃ u_ S1_, ro9_ = (.inl u_, S1_, 0) ∧ vq_166 a1_ a2_ S0_ u_ S1_)) := by
  intro nn_
  induction nn_ with
  | zero => exact fun _ _ _ _ _ h_ => absurd h_ (Nat.not_lt_zero _)
  | succ nn_ ih_ =>
    rintro d9_ S_ hI_ hF_ ⟨h0_, hd_, hS_, -⟩ hm_
    have cL_ : 0 ≤ S_.1 8 0 2 ∧ S_.1 8 0 2 ≤ 2356 := hI_.1 8 0 2 rfl
    rw [hS_] at cL_
    refine sm_T_go 2 (c1 := (4, [some (.inr (.inr (some (8, 0)))), some (.inl a1_), some (.inl a2_), some (.inl d9_), none], [.inl 5, .inl d9_], S_)) rfl ?_
    refine sm_T_br (a := 3) (z := 37) rfl (fun cx1_ => ?_) (fun cx1_ => ?_)
    · have cx1_ : 5 ≤ d9_ := of_decide_eq_true cx1_
      refine sm_T_go 1 (c1 := (42, [some (.inr (.inr (some (8, 0)))), some (.inl a1_), some (.inl a2_), some (.inl d9_), none], [.inl (-1)], S_)) rfl ?_
      refine sm_T_ri rfl ⟨_, _, rfl, (by first | rfl | exact hS_.symm), _, rfl, ?_⟩
      left
      exact ⟨rfl, fun d_ u_ w_ => hd_ d_ u_ (by omega)⟩
    · have cx1_ : ¬ (5 ≤ d9_) := of_decide_eq_false cx1_
      refine sm_T_go 3 (c1 := (10, [some (.inr (.inr (some (8, 0)))), some (.inl a1_), some (.inl a2_), some (.inl d9_), none], [.inl d9_, .inl a1_, .inr (.inr (some (8, 0)))], S_)) rfl ?_
      refine sm_T_cal (d1 := 0) (Q1 := vq_164 a1_ d9_ S_) rfl rfl (by decide) (vc_164 a1_ d9_ S_ hI_ (by (rw [hS_]; exact hg_)) (by (rw [hS_]; omega)) (by omega)) (fun u_ Sx2_ px5_ => ?_)
      obtain ⟨rfl, vx7_, rfl, px5_⟩ := px5_
      have n9_ := px5_
      rw [hS_] at n9_
      have r9_ := nb_r (d := d9_) (show 0 < S0_.1 8 0 1 from hg_.1) (show 0 < S0_.1 8 0 2 from hg_.2.1) h1_
      rw [← n9_] at r9_
      refine sm_T_go 3 (c1 := (18, [some (.inr (.inr (some (8, 0)))), some (.inl a1_), some (.inl a2_), some (.inl d9_), some (.inl vx7_)], [.inl (-1), .inl vx7_], S_)) rfl ?_
      refine sm_T_br (a := 0) (z := 17) rfl (fun cx8_ => ?_) (fun cx8_ => ?_)
      · have cx8_ : vx7_ = (-1) := of_decide_eq_true cx8_
        refine sm_T_inc (a := 3) (z := 1) (v := d9_) (w := d9_ + 1) rfl rfl (by omega) (by omega) (by omega) ?_ -- pc_ 35
        refine sm_T_go 1 (c1 := (2, [some (.inr (.inr (some (8, 0)))), some (.inl a1_), some (.inl a2_), some (.inl (d9_ + 1)), some (.inl vx7_)], [], S_)) rfl ?_
        refine sm_T_wk [some (.inr (.inr (some (8, 0)))), some (.inl a1_), some (.inl a2_), some (.inl (d9_ + 1)), none] (by exact ⟨rfl, rfl, rfl, rfl, trivial⟩) ?_
        refine ih_ (d9_ + 1) S_ hI_ hF_ ⟨?_, ?_, ?_, trivial⟩ ?_
        · omega
        · intro d_ u_ w_
          by_cases y9_ : d_ = d9_
          · rw [y9_, ← n9_]; first | (left; omega) | (right; rw [← hS_]; omega)
          · exact hd_ d_ u_ (by omega)
        · first | rfl | exact hS_
        · omega
      · have cx8_ : ¬ (vx7_ = (-1)) := of_decide_eq_false cx8_
        refine sm_T_go 3 (c1 := (27, [some (.inr (.inr (some (8, 0)))), some (.inl a1_), some (.inl a2_), some (.inl d9_), some (.inl vx7_)], [.inl vx7_, .inr (.inr (some (86, 0)))], S_)) rfl ?_
        refine sm_T_iald (n := 4712) rfl rfl (by omega) (by omega) ?_
        have bx9_ : (-1) ≤ S_.2.2.1 86 0 vx7_.toNat ∧ S_.2.2.1 86 0 vx7_.toNat ≤ 100000 := hI_.2 86 0 _
        refine sm_T_go 1 (c1 := (29, [some (.inr (.inr (some (8, 0)))), some (.inl a1_), some (.inl a2_), some (.inl d9_), some (.inl vx7_)], [.inl a2_, .inl (S_.2.2.1 86 0 vx7_.toNat)], S_)) rfl ?_
        refine sm_T_br (a := 1) (z := 6) rfl (fun cx10_ => ?_) (fun cx10_ => ?_)
        · have cx10_ : (S_.2.2.1 86 0 vx7_.toNat) ≠ a2_ := of_decide_eq_true cx10_
          refine sm_T_inc (a := 3) (z := 1) (v := d9_) (w := d9_ + 1) rfl rfl (by omega) (by omega) (by omega) ?_ -- pc_ 35
          refine sm_T_go 1 (c1 := (2, [some (.inr (.inr (some (8, 0)))), some (.inl a1_), some (.inl a2_), some (.inl (d9_ + 1)), some (.inl vx7_)], [], S_)) rfl ?_
          refine sm_T_wk [some (.inr (.inr (some (8, 0)))), some (.inl a1_), some (.inl a2_), some (.inl (d9_ + 1)), none] (by exact ⟨rfl, rfl, rfl, rfl, trivial⟩) ?_
          refine ih_ (d9_ + 1) S_ hI_ hF_ ⟨?_, ?_, ?_, trivial⟩ ?_
          · omega
          · intro d_ u_ w_
            by_cases y9_ : d_ = d9_
            · rw [y9_, ← n9_]; first | (left; omega) | (right; rw [← hS_]; omega)
            · exact hd_ d_ u_ (by omega)
          · first | rfl | exact hS_
          · omega
        · have cx10_ : ¬ ((S_.2.2.1 86 0 vx7_.toNat) ≠ a2_) := of_decide_eq_false cx10_
          refine sm_T_go 1 (c1 := (34, [some (.inr (.inr (some (8, 0)))), some (.inl a1_), some (.inl a2_), some (.inl d9_), some (.inl vx7_)], [.inl vx7_], S_)) rfl ?_
          refine sm_T_ri rfl ⟨_, _, rfl, (by first | rfl | exact hS_.symm), _, rfl, ?_⟩
          right
          rw [hS_] at *
          exact ⟨by omega, by omega⟩
set_option maxHeartbeats 400000 in
theorem vc_166 {sc_ : Nat × (Nat → Int)} (a1_ : Int) (a2_ : Int) (S0_ : sm_S) (hI_ : gi S0_) (hg_ : rgw S0_) (h1_ : 0 ≤ a1_ ∧ a1_ < 2 * S0_.1 8 0 2) : sm_T (mt_P sc_) 1 166 (0, [some (.inr (.inr (some (8, 0)))), some (.inl a1_), some (.inl a2_), none, none], [], S0_) (fun ro9_ => ∃ u_ S1_, ro9_ = (.inl u_, S1_, 0) ∧ vq_166 a1_ a2_ S0_ u_ S1_) := by
  have hF_ : ai_fr (sx_W vw_166) S0_ S0_ := ai_fr_rf
  have cL_ : 0 ≤ S0_.1 8 0 2 ∧ S0_.1 8 0 2 ≤ 2356 := hI_.1 8 0 2 rfl
  refine sm_T_go 2 (c1 := (2, [some (.inr (.inr (some (8, 0)))), some (.inl a1_), some (.inl a2_), some (.inl 0), none], [], S0_)) rfl ?_
  refine (vl_166 a1_ a2_ S0_ hg_ h1_ _) 0 S0_ hI_ hF_ ⟨?_, ?_, ?_, trivial⟩ (Nat.lt_succ_self _)
  · omega
  · (intro d_ u_ w_; exfalso; omega)
  · first | rfl | exact hS_
end
/-! 99.zkea -/
section
/-! wires lost; the nearest pin; written by wip/p55/gen/vg -/

/-! wires lost, joined; the_ nearest pin_ -/
def ppk (bb_ : Nat) (S_ : sm_S) (c_ k_ : Nat) : Int := ppt bb_ S_ (S_.2.2.1 18 (0 + bb_) ((S_.2.2.1 19 (0 + bb_) c_).toNat + k_))
def rpt (bb_ : Nat) (S_ : sm_S) : Prop := ∀ c_ : Nat, c_ < 162 → ∀ k_ : Nat, (k_ : Int) < S_.2.2.1 20 (0 + bb_) c_ → 0 ≤ ppk bb_ S_ c_ k_ ∧ ppk bb_ S_ c_ k_ < S_.1 8 0 2
/-- a_ net's wire is_ gone -/
def rls (bb_ : Nat) (t_ : Int) (S_ S'_ : sm_S) : Prop := ∀ p_ : Nat, S'_.2.2.1 22 (0 + bb_) p_ = (if (p_ : Int) < 2 * S_.1 8 0 2 ∧ S_.2.2.1 22 (0 + bb_) p_ = t_ then -1 else S_.2.2.1 22 (0 + bb_) p_) ∧ S'_.2.2.1 23 (0 + bb_) p_ = (if (p_ : Int) < 2 * S_.1 8 0 2 ∧ S_.2.2.1 22 (0 + bb_) p_ = t_ then 0 else S_.2.2.1 23 (0 + bb_) p_)
def rls9 (bb_ : Nat) (t_ k_ : Int) (S_ S'_ : sm_S) : Prop := ∀ p_ : Nat, S'_.2.2.1 22 (0 + bb_) p_ = (if (p_ : Int) < k_ ∧ S_.2.2.1 22 (0 + bb_) p_ = t_ then -1 else S_.2.2.1 22 (0 + bb_) p_) ∧ S'_.2.2.1 23 (0 + bb_) p_ = (if (p_ : Int) < k_ ∧ S_.2.2.1 22 (0 + bb_) p_ = t_ then 0 else S_.2.2.1 23 (0 + bb_) p_)
theorem rls_0 {bb_ : Nat} {t_ k_ : Int} {S_ S'_ S2_ : sm_S} (h_ : rls9 bb_ t_ k_ S_ S'_) (hk_ : 0 ≤ k_) (ho_ : S'_.2.2.1 22 (0 + bb_) k_.toNat ≠ t_) : rls9 bb_ t_ (k_ + 1) S_ S'_ := by
  intro p_
  have a_ := h_ p_
  by_cases z_ : (p_ : Int) = k_
  · have e_ : k_.toNat = p_ := by omega
    rw [e_] at ho_
    rw [if_neg (by omega), if_neg (by omega)] at a_
    rw [a_.1] at ho_
    rw [if_neg (fun q_ => ho_ q_.2), if_neg (fun q_ => ho_ q_.2)]
    exact a_
  · by_cases y_ : (p_ : Int) < k_ ∧ S_.2.2.1 22 (0 + bb_) p_ = t_
    · rw [if_pos y_, if_pos y_] at a_
      rw [if_pos ⟨by omega, y_.2⟩, if_pos ⟨by omega, y_.2⟩]; exact a_
    · rw [if_neg y_, if_neg y_] at a_
      rw [if_neg (fun q_ => y_ ⟨by omega, q_.2⟩), if_neg (fun q_ => y_ ⟨by omega, q_.2⟩)]; exact a_
theorem rls_1 {bb_ : Nat} {t_ k_ : Int} {S_ S'_ : sm_S} (h_ : rls9 bb_ t_ k_ S_ S'_) (hk_ : 0 ≤ k_) (ho_ : S'_.2.2.1 22 (0 + bb_) k_.toNat = t_) : rls9 bb_ t_ (k_ + 1) S_ (sm_aI (sm_aI S'_ 22 (0 + bb_) k_.toNat (-1)) 23 (0 + bb_) k_.toNat 0) := by
  intro p_
  have a_ := h_ p_
  rw [rd_ne (by decide), rd_eq, rd_eq, rd_ne (by decide)]
  by_cases z_ : (p_ : Int) = k_
  · have e_ : p_ = k_.toNat := by omega
    simp only [if_pos e_]
    rw [e_] at a_
    rw [if_neg (by omega), if_neg (by omega)] at a_
    rw [a_.1] at ho_
    rw [e_, if_pos ⟨by omega, ho_⟩, if_pos ⟨by omega, ho_⟩]
    exact ⟨rfl, rfl⟩
  · have e_ : ¬ p_ = k_.toNat := by omega
    simp only [if_neg e_]
    by_cases y_ : (p_ : Int) < k_ ∧ S_.2.2.1 22 (0 + bb_) p_ = t_
    · rw [if_pos y_, if_pos y_] at a_
      rw [if_pos ⟨by omega, y_.2⟩, if_pos ⟨by omega, y_.2⟩]; exact a_
    · rw [if_neg y_, if_neg y_] at a_
      rw [if_neg (fun q_ => y_ ⟨by omega, q_.2⟩), if_neg (fun q_ => y_ ⟨by omega, q_.2⟩)]; exact a_
/-! Router.lose -/
def vw_159 : sx_Wl := ([], [22, 23, 24], [])
def vq_159 (a1_ : Int) (bb_ : Nat) (S0_ : sm_S) (u_ : Option sm_V) (S1_ : sm_S) : Prop := u_ = none ∧ gi S1_ ∧ ai_fr (sx_W vw_159) S0_ S1_ ∧ (cdf bb_ S0_ S1_ ∧ (rls bb_ a1_ S0_ S1_ ∧ ∀ c_, S1_.2.2.1 24 (0 + bb_) c_ = if c_ = a1_.toNat then 1 else S0_.2.2.1 24 (0 + bb_) c_))
set_option maxHeartbeats 400000 in
theorem vl_159 {sc_ : Nat × (Nat → Int)} (a1_ : Int) (bb_ : Nat) (S0_ : sm_S) (hb_ : S0_.2.1 8 0 0 = some bb_) (h1_ : 0 ≤ a1_ ∧ a1_ ≤ 161) : ∀ nn_ : Nat, (∀ (k_ : Int) (S_ : sm_S), gi S_ → ai_fr (sx_W vw_159) S0_ S_ → ((0 ≤ k_ ∧ k_ ≤ 4712 ∧ k_ ≤ 2 * S0_.1 8 0 2 ) ∧ (rls9 bb_ a1_ k_ S0_ S_) ∧ (∀ c_, S_.2.2.1 24 (0 + bb_) c_ = if c_ = a1_.toNat then 1 else S0_.2.2.1 24 (0 + bb_) c_) ∧ (cdf bb_ S0_ S_) ∧ True) → ((5000 - k_).toNat) < nn_ → sm_T (mt_P sc_) 0 159 (12, [some (.inr (.inr (some (8, 0)))), some (.inl a1_), some (.inl k_)], [], S_) (fun ro9_ => ∃ u_ S1_, ro9_ = (.inl u_, S1_, 0) ∧ vq_159 a1_ bb_ S0_ u_ S1_)) := by
  intro nn_
  induction nn_ with
  | zero => exact fun _ _ _ _ _ h_ => absurd h_ (Nat.not_lt_zero _)
  | succ nn_ ih_ =>
    rintro k_ S_ hI_ hF_ ⟨h0_, hl_, ho_, hC_, -⟩ hm_
    have e2_ : S_.1 8 0 2 = S0_.1 8 0 2 := hF_.1 8 0 2 rfl
    have cL_ : 0 ≤ S_.1 8 0 2 ∧ S_.1 8 0 2 ≤ 2356 := hI_.1 8 0 2 rfl
    have bx1_ : 0 ≤ S_.1 8 0 2 ∧ S_.1 8 0 2 ≤ 2356 := hI_.1 8 0 2 rfl
    refine sm_T_go 4 (c1 := (18, [some (.inr (.inr (some (8, 0)))), some (.inl a1_), some (.inl k_)], [.inl (S_.1 8 0 2), .inl 2, .inl k_], S_)) rfl ?_
    refine sm_T_bin (w := 2 * (S_.1 8 0 2)) rfl (bi_mul (by omega) (by omega) (by omega)) ?_ -- pc_ 18
    refine sm_T_br (a := 3) (z := 42) rfl (fun cx2_ => ?_) (fun cx2_ => ?_)
    · have cx2_ : 2 * (S_.1 8 0 2) ≤ k_ := of_decide_eq_true cx2_
      refine sm_T_rv rfl ⟨_, _, rfl, rfl, hI_, hF_, ?_⟩
      refine ⟨hC_, ?_⟩
      refine ⟨?_, ho_⟩
      intro p_
      have a_ := hl_ p_
      rw [show k_ = 2 * S0_.1 8 0 2 by omega] at a_
      exact a_
    · have cx2_ : ¬ (2 * (S_.1 8 0 2) ≤ k_) := of_decide_eq_false cx2_
      refine sm_T_go 1 (c1 := (23, [some (.inr (.inr (some (8, 0)))), some (.inl a1_), some (.inl k_)], [.inr (.inr (some (8, 0)))], S_)) rfl ?_
      refine sm_T_gr rfl rfl ((hF_.2.1 8 0 0 rfl).trans hb_) ?_
      refine sm_T_go 2 (c1 := (30, [some (.inr (.inr (some (8, 0)))), some (.inl a1_), some (.inl k_)], [.inl k_, .inr (.inr (some (22, (0 + bb_))))], S_)) rfl ?_
      refine sm_T_iald (n := 4712) rfl rfl (by omega) (by omega) ?_
      have bx3_ : (-1) ≤ S_.2.2.1 22 (0 + bb_) k_.toNat ∧ S_.2.2.1 22 (0 + bb_) k_.toNat ≤ 161 := hI_.2 22 (0 + bb_) _
      refine sm_T_go 1 (c1 := (32, [some (.inr (.inr (some (8, 0)))), some (.inl a1_), some (.inl k_)], [.inl a1_, .inl (S_.2.2.1 22 (0 + bb_) k_.toNat)], S_)) rfl ?_
      refine sm_T_br (a := 1) (z := 23) rfl (fun cx4_ => ?_) (fun cx4_ => ?_)
      · have cx4_ : (S_.2.2.1 22 (0 + bb_) k_.toNat) ≠ a1_ := of_decide_eq_true cx4_
        refine sm_T_inc (a := 2) (z := 1) (v := k_) (w := k_ + 1) rfl rfl (by omega) (by omega) (by omega) ?_ -- pc_ 55
        refine sm_T_go 1 (c1 := (12, [some (.inr (.inr (some (8, 0)))), some (.inl a1_), some (.inl (k_ + 1))], [], S_)) rfl ?_
        refine ih_ (k_ + 1) S_ hI_ hF_ ⟨?_, ?_, ?_, ?_, trivial⟩ ?_
        · omega
        · exact rls_0 (S2_ := S0_) hl_ (by omega) (by omega)
        · exact ho_
        · exact hC_
        · omega
      · have cx4_ : ¬ ((S_.2.2.1 22 (0 + bb_) k_.toNat) ≠ a1_) := of_decide_eq_false cx4_
        refine sm_T_go 1 (c1 := (36, [some (.inr (.inr (some (8, 0)))), some (.inl a1_), some (.inl k_)], [.inr (.inr (some (8, 0)))], S_)) rfl ?_
        refine sm_T_gr rfl rfl ((hF_.2.1 8 0 0 rfl).trans hb_) ?_
        refine sm_T_go 3 (c1 := (44, [some (.inr (.inr (some (8, 0)))), some (.inl a1_), some (.inl k_)], [.inl (-1), .inl k_, .inr (.inr (some (22, (0 + bb_))))], S_)) rfl ?_
        refine sm_T_iast (n := 4712) rfl rfl (by omega) (by omega) ?_
        have hIx5_ : gi (sm_aI S_ 22 (0 + bb_) k_.toNat (-1)) := gi_aI hI_ (show (-1) ≤ (-1) ∧ (-1) ≤ 161 from ⟨by omega, by omega⟩)
        have hFx6_ : ai_fr (sx_W vw_159) S0_ (sm_aI S_ 22 (0 + bb_) k_.toNat (-1)) := ai_fr_tr hF_ (ai_fr_aI rfl)
        have hCx7_ : cdf bb_ S0_ (sm_aI S_ 22 (0 + bb_) k_.toNat (-1)) := cdf_aI hC_ (Or.inr (by rw [show cof 22 = 0 from rfl] <;> omega))
        refine sm_T_go 1 (c1 := (46, [some (.inr (.inr (some (8, 0)))), some (.inl a1_), some (.inl k_)], [.inr (.inr (some (8, 0)))], sm_aI S_ 22 (0 + bb_) k_.toNat (-1))) rfl ?_
        refine sm_T_gr rfl rfl ((hFx6_.2.1 8 0 0 rfl).trans hb_) ?_
        refine sm_T_go 3 (c1 := (54, [some (.inr (.inr (some (8, 0)))), some (.inl a1_), some (.inl k_)], [.inl 0, .inl k_, .inr (.inr (some (23, (0 + bb_))))], sm_aI S_ 22 (0 + bb_) k_.toNat (-1))) rfl ?_
        refine sm_T_iast (n := 4712) rfl rfl (by omega) (by omega) ?_
        have hIx8_ : gi (sm_aI (sm_aI S_ 22 (0 + bb_) k_.toNat (-1)) 23 (0 + bb_) k_.toNat 0) := gi_aI hIx5_ (show 0 ≤ 0 ∧ 0 ≤ 7 from ⟨by omega, by omega⟩)
        have hFx9_ : ai_fr (sx_W vw_159) S0_ (sm_aI (sm_aI S_ 22 (0 + bb_) k_.toNat (-1)) 23 (0 + bb_) k_.toNat 0) := ai_fr_tr hFx6_ (ai_fr_aI rfl)
        have hCx10_ : cdf bb_ S0_ (sm_aI (sm_aI S_ 22 (0 + bb_) k_.toNat (-1)) 23 (0 + bb_) k_.toNat 0) := cdf_aI hCx7_ (Or.inr (by rw [show cof 23 = 0 from rfl] <;> omega))
        refine sm_T_inc (a := 2) (z := 1) (v := k_) (w := k_ + 1) rfl rfl (by omega) (by omega) (by omega) ?_ -- pc_ 55
        refine sm_T_go 1 (c1 := (12, [some (.inr (.inr (some (8, 0)))), some (.inl a1_), some (.inl (k_ + 1))], [], sm_aI (sm_aI S_ 22 (0 + bb_) k_.toNat (-1)) 23 (0 + bb_) k_.toNat 0)) rfl ?_
        refine ih_ (k_ + 1) (sm_aI (sm_aI S_ 22 (0 + bb_) k_.toNat (-1)) 23 (0 + bb_) k_.toNat 0) hIx8_ hFx9_ ⟨?_, ?_, ?_, ?_, trivial⟩ ?_
        · omega
        · exact rls_1 hl_ (by omega) (by omega)
        · (intro c_; rw [rd_ne (by decide), rd_ne (by decide)]; exact ho_ c_)
        · exact hCx10_
        · omega
set_option maxHeartbeats 400000 in
theorem vc_159 {sc_ : Nat × (Nat → Int)} (a1_ : Int) (bb_ : Nat) (S0_ : sm_S) (hI_ : gi S0_) (hb_ : S0_.2.1 8 0 0 = some bb_) (h1_ : 0 ≤ a1_ ∧ a1_ ≤ 161) : sm_T (mt_P sc_) 0 159 (0, [some (.inr (.inr (some (8, 0)))), some (.inl a1_), none], [], S0_) (fun ro9_ => ∃ u_ S1_, ro9_ = (.inl u_, S1_, 0) ∧ vq_159 a1_ bb_ S0_ u_ S1_) := by
  have hF_ : ai_fr (sx_W vw_159) S0_ S0_ := ai_fr_rf
  have hC_ : cdf bb_ S0_ S0_ := cdf_rf
  have cL_ : 0 ≤ S0_.1 8 0 2 ∧ S0_.1 8 0 2 ≤ 2356 := hI_.1 8 0 2 rfl
  refine sm_T_go 1 (c1 := (1, [some (.inr (.inr (some (8, 0)))), some (.inl a1_), none], [.inr (.inr (some (8, 0)))], S0_)) rfl ?_
  refine sm_T_gr rfl rfl ((hF_.2.1 8 0 0 rfl).trans hb_) ?_
  refine sm_T_go 3 (c1 := (9, [some (.inr (.inr (some (8, 0)))), some (.inl a1_), none], [.inl 1, .inl a1_, .inr (.inr (some (24, (0 + bb_))))], S0_)) rfl ?_
  refine sm_T_iast (n := 162) rfl rfl (by omega) (by omega) ?_
  have hIx1_ : gi (sm_aI S0_ 24 (0 + bb_) a1_.toNat 1) := gi_aI hI_ (show 0 ≤ 1 ∧ 1 ≤ 1 from ⟨by omega, by omega⟩)
  have hFx2_ : ai_fr (sx_W vw_159) S0_ (sm_aI S0_ 24 (0 + bb_) a1_.toNat 1) := ai_fr_tr hF_ (ai_fr_aI rfl)
  have hCx3_ : cdf bb_ S0_ (sm_aI S0_ 24 (0 + bb_) a1_.toNat 1) := cdf_aI hC_ (Or.inr (by rw [show cof 24 = 0 from rfl] <;> omega))
  refine sm_T_go 2 (c1 := (12, [some (.inr (.inr (some (8, 0)))), some (.inl a1_), some (.inl 0)], [], sm_aI S0_ 24 (0 + bb_) a1_.toNat 1)) rfl ?_
  refine (vl_159 a1_ bb_ S0_ hb_ h1_ _) 0 (sm_aI S0_ 24 (0 + bb_) a1_.toNat 1) hIx1_ hFx2_ ⟨?_, ?_, ?_, ?_, trivial⟩ (Nat.lt_succ_self _)
  · omega
  · intro p_
    rw [if_neg (by omega), if_neg (by omega), rd_ne (by decide), rd_ne (by decide)]
    exact ⟨rfl, rfl⟩
  · (intro c_; rw [rd_eq])
  · exact hCx3_
end
/-! 99.zkeb -/
section
/-! Router.joinPoints -/
def vw_167 : sx_Wl := ([], [23], [])
def vq_167 (a1_ : Int) (a2_ : Int) (bb_ : Nat) (S0_ : sm_S) (u_ : Option sm_V) (S1_ : sm_S) : Prop := u_ = none ∧ gi S1_ ∧ ai_fr (sx_W vw_167) S0_ S1_ ∧ (cdf bb_ S0_ S1_ ∧ (∃ s9_, ∀ j_, S1_.2.2.1 23 (0 + bb_) j_ = if j_ = (sm_mn a1_ a2_).toNat then s9_ else S0_.2.2.1 23 (0 + bb_) j_))
set_option maxHeartbeats 400000 in
theorem vc_167 {sc_ : Nat × (Nat → Int)} (a1_ : Int) (a2_ : Int) (bb_ : Nat) (S0_ : sm_S) (hI_ : gi S0_) (hb_ : S0_.2.1 8 0 0 = some bb_) (h1_ : 0 ≤ a1_ ∧ a1_ ≤ 4711) (h2_ : 0 ≤ a2_ ∧ a2_ ≤ 4711) : sm_T (mt_P sc_) 0 167 (0, [some (.inr (.inr (some (8, 0)))), some (.inl a1_), some (.inl a2_), none, none, none], [], S0_) (fun ro9_ => ∃ u_ S1_, ro9_ = (.inl u_, S1_, 0) ∧ vq_167 a1_ a2_ bb_ S0_ u_ S1_) := by
  have hF_ : ai_fr (sx_W vw_167) S0_ S0_ := ai_fr_rf
  have hC_ : cdf bb_ S0_ S0_ := cdf_rf
  refine sm_T_go 2 (c1 := (2, [some (.inr (.inr (some (8, 0)))), some (.inl a1_), some (.inl a2_), none, none, none], [.inl a2_, .inl a1_], S0_)) rfl ?_
  refine sm_T_nt (u := some (.inl (sm_mn a1_ a2_))) (S1 := S0_) rfl rfl rfl ?_
  have bx1_ := sm_mn_d a1_ a2_
  refine sm_T_go 3 (c1 := (8, [some (.inr (.inr (some (8, 0)))), some (.inl a1_), some (.inl a2_), some (.inl (sm_mn a1_ a2_)), none, none], [.inl a2_, .inl a1_], S0_)) rfl ?_
  refine sm_T_nt (u := some (.inl (sm_mx a1_ a2_))) (S1 := S0_) rfl rfl rfl ?_
  have bx2_ := sm_mx_d a1_ a2_
  refine sm_T_go 1 (c1 := (12, [some (.inr (.inr (some (8, 0)))), some (.inl a1_), some (.inl a2_), some (.inl (sm_mn a1_ a2_)), none, none], [.inl (sm_mn a1_ a2_), .inl (sm_mx a1_ a2_)], S0_)) rfl ?_
  refine sm_T_bin (w := (sm_mx a1_ a2_) - (sm_mn a1_ a2_)) rfl (bi_sub (by omega) (by omega) (by omega)) ?_ -- pc_ 12
  have bx3_ : 0 ≤ S0_.1 8 0 2 ∧ S0_.1 8 0 2 ≤ 2356 := hI_.1 8 0 2 rfl
  refine sm_T_go 4 (c1 := (21, [some (.inr (.inr (some (8, 0)))), some (.inl a1_), some (.inl a2_), some (.inl (sm_mn a1_ a2_)), some (.inl ((sm_mx a1_ a2_) - (sm_mn a1_ a2_))), none], [.inl (S0_.1 8 0 2), .inl ((sm_mx a1_ a2_) - (sm_mn a1_ a2_))], S0_)) rfl ?_
  refine sm_T_br (a := 1) (z := 7) rfl (fun cx4_ => ?_) (fun cx4_ => ?_)
  · have cx4_ : (sm_mx a1_ a2_) - (sm_mn a1_ a2_) ≠ (S0_.1 8 0 2) := of_decide_eq_true cx4_
    refine sm_T_go 2 (c1 := (31, [some (.inr (.inr (some (8, 0)))), some (.inl a1_), some (.inl a2_), some (.inl (sm_mn a1_ a2_)), some (.inl ((sm_mx a1_ a2_) - (sm_mn a1_ a2_))), none], [.inl 1, .inl ((sm_mx a1_ a2_) - (sm_mn a1_ a2_))], S0_)) rfl ?_
    refine sm_T_br (a := 1) (z := 7) rfl (fun cx5_ => ?_) (fun cx5_ => ?_)
    · have cx5_ : (sm_mx a1_ a2_) - (sm_mn a1_ a2_) ≠ 1 := of_decide_eq_true cx5_
      refine sm_T_go 3 (c1 := (42, [some (.inr (.inr (some (8, 0)))), some (.inl a1_), some (.inl a2_), some (.inl (sm_mn a1_ a2_)), some (.inl ((sm_mx a1_ a2_) - (sm_mn a1_ a2_))), some (.inl 2)], [.inr (.inr (some (8, 0)))], S0_)) rfl ?_
      refine sm_T_gr rfl rfl ((hF_.2.1 8 0 0 rfl).trans hb_) ?_
      refine sm_T_go 3 (c1 := (50, [some (.inr (.inr (some (8, 0)))), some (.inl a1_), some (.inl a2_), some (.inl (sm_mn a1_ a2_)), some (.inl ((sm_mx a1_ a2_) - (sm_mn a1_ a2_))), some (.inl 2)], [.inl (sm_mn a1_ a2_), .inr (.inr (some (23, (0 + bb_)))), .inl (sm_mn a1_ a2_), .inr (.inr (some (23, (0 + bb_))))], S0_)) rfl ?_
      refine sm_T_iald (n := 4712) rfl rfl (by omega) (by omega) ?_
      have bx6_ : 0 ≤ S0_.2.2.1 23 (0 + bb_) (sm_mn a1_ a2_).toNat ∧ S0_.2.2.1 23 (0 + bb_) (sm_mn a1_ a2_).toNat ≤ 7 := hI_.2 23 (0 + bb_) _
      refine sm_T_go 1 (c1 := (53, [some (.inr (.inr (some (8, 0)))), some (.inl a1_), some (.inl a2_), some (.inl (sm_mn a1_ a2_)), some (.inl ((sm_mx a1_ a2_) - (sm_mn a1_ a2_))), some (.inl 2)], [.inl 2, .inl (S0_.2.2.1 23 (0 + bb_) (sm_mn a1_ a2_).toNat), .inl (sm_mn a1_ a2_), .inr (.inr (some (23, (0 + bb_))))], S0_)) rfl ?_
      refine sm_T_bin (w := (i_or (S0_.2.2.1 23 (0 + bb_) (sm_mn a1_ a2_).toNat) 2)) rfl rfl ?_ -- pc_ 53
      have bx7_ := i_orp (x_ := (S0_.2.2.1 23 (0 + bb_) (sm_mn a1_ a2_).toNat)) (y_ := 2) (k_ := 3) (by decide) (by omega) (by omega)
      refine sm_T_iast (n := 4712) rfl rfl (by omega) (by omega) ?_
      have hIx8_ : gi (sm_aI S0_ 23 (0 + bb_) (sm_mn a1_ a2_).toNat (i_or (S0_.2.2.1 23 (0 + bb_) (sm_mn a1_ a2_).toNat) 2)) := gi_aI hI_ (show 0 ≤ (i_or (S0_.2.2.1 23 (0 + bb_) (sm_mn a1_ a2_).toNat) 2) ∧ (i_or (S0_.2.2.1 23 (0 + bb_) (sm_mn a1_ a2_).toNat) 2) ≤ 7 from ⟨by omega, by omega⟩)
      have hFx9_ : ai_fr (sx_W vw_167) S0_ (sm_aI S0_ 23 (0 + bb_) (sm_mn a1_ a2_).toNat (i_or (S0_.2.2.1 23 (0 + bb_) (sm_mn a1_ a2_).toNat) 2)) := ai_fr_tr hF_ (ai_fr_aI rfl)
      have hCx10_ : cdf bb_ S0_ (sm_aI S0_ 23 (0 + bb_) (sm_mn a1_ a2_).toNat (i_or (S0_.2.2.1 23 (0 + bb_) (sm_mn a1_ a2_).toNat) 2)) := cdf_aI hC_ (Or.inr (by rw [show cof 23 = 0 from rfl] <;> omega))
      refine sm_T_rv rfl ⟨_, _, rfl, rfl, hIx8_, hFx9_, ?_⟩
      refine ⟨hCx10_, ?_⟩
      exact ⟨_, fun j_ => rd_eq⟩
    · have cx5_ : ¬ ((sm_mx a1_ a2_) - (sm_mn a1_ a2_) ≠ 1) := of_decide_eq_false cx5_
      refine sm_T_go 4 (c1 := (42, [some (.inr (.inr (some (8, 0)))), some (.inl a1_), some (.inl a2_), some (.inl (sm_mn a1_ a2_)), some (.inl ((sm_mx a1_ a2_) - (sm_mn a1_ a2_))), some (.inl 1)], [.inr (.inr (some (8, 0)))], S0_)) rfl ?_
      refine sm_T_gr rfl rfl ((hF_.2.1 8 0 0 rfl).trans hb_) ?_
      refine sm_T_go 3 (c1 := (50, [some (.inr (.inr (some (8, 0)))), some (.inl a1_), some (.inl a2_), some (.inl (sm_mn a1_ a2_)), some (.inl ((sm_mx a1_ a2_) - (sm_mn a1_ a2_))), some (.inl 1)], [.inl (sm_mn a1_ a2_), .inr (.inr (some (23, (0 + bb_)))), .inl (sm_mn a1_ a2_), .inr (.inr (some (23, (0 + bb_))))], S0_)) rfl ?_
      refine sm_T_iald (n := 4712) rfl rfl (by omega) (by omega) ?_
      have bx11_ : 0 ≤ S0_.2.2.1 23 (0 + bb_) (sm_mn a1_ a2_).toNat ∧ S0_.2.2.1 23 (0 + bb_) (sm_mn a1_ a2_).toNat ≤ 7 := hI_.2 23 (0 + bb_) _
      refine sm_T_go 1 (c1 := (53, [some (.inr (.inr (some (8, 0)))), some (.inl a1_), some (.inl a2_), some (.inl (sm_mn a1_ a2_)), some (.inl ((sm_mx a1_ a2_) - (sm_mn a1_ a2_))), some (.inl 1)], [.inl 1, .inl (S0_.2.2.1 23 (0 + bb_) (sm_mn a1_ a2_).toNat), .inl (sm_mn a1_ a2_), .inr (.inr (some (23, (0 + bb_))))], S0_)) rfl ?_
      refine sm_T_bin (w := (i_or (S0_.2.2.1 23 (0 + bb_) (sm_mn a1_ a2_).toNat) 1)) rfl rfl ?_ -- pc_ 53
      have bx12_ := i_orp (x_ := (S0_.2.2.1 23 (0 + bb_) (sm_mn a1_ a2_).toNat)) (y_ := 1) (k_ := 3) (by decide) (by omega) (by omega)
      refine sm_T_iast (n := 4712) rfl rfl (by omega) (by omega) ?_
      have hIx13_ : gi (sm_aI S0_ 23 (0 + bb_) (sm_mn a1_ a2_).toNat (i_or (S0_.2.2.1 23 (0 + bb_) (sm_mn a1_ a2_).toNat) 1)) := gi_aI hI_ (show 0 ≤ (i_or (S0_.2.2.1 23 (0 + bb_) (sm_mn a1_ a2_).toNat) 1) ∧ (i_or (S0_.2.2.1 23 (0 + bb_) (sm_mn a1_ a2_).toNat) 1) ≤ 7 from ⟨by omega, by omega⟩)
      have hFx14_ : ai_fr (sx_W vw_167) S0_ (sm_aI S0_ 23 (0 + bb_) (sm_mn a1_ a2_).toNat (i_or (S0_.2.2.1 23 (0 + bb_) (sm_mn a1_ a2_).toNat) 1)) := ai_fr_tr hF_ (ai_fr_aI rfl)
      have hCx15_ : cdf bb_ S0_ (sm_aI S0_ 23 (0 + bb_) (sm_mn a1_ a2_).toNat (i_or (S0_.2.2.1 23 (0 + bb_) (sm_mn a1_ a2_).toNat) 1)) := cdf_aI hC_ (Or.inr (by rw [show cof 23 = 0 from rfl] <;> omega))
      refine sm_T_rv rfl ⟨_, _, rfl, rfl, hIx13_, hFx14_, ?_⟩
      refine ⟨hCx15_, ?_⟩
      exact ⟨_, fun j_ => rd_eq⟩
  · have cx4_ : ¬ ((sm_mx a1_ a2_) - (sm_mn a1_ a2_) ≠ (S0_.1 8 0 2)) := of_decide_eq_false cx4_
    refine sm_T_go 4 (c1 := (42, [some (.inr (.inr (some (8, 0)))), some (.inl a1_), some (.inl a2_), some (.inl (sm_mn a1_ a2_)), some (.inl ((sm_mx a1_ a2_) - (sm_mn a1_ a2_))), some (.inl 4)], [.inr (.inr (some (8, 0)))], S0_)) rfl ?_
    refine sm_T_gr rfl rfl ((hF_.2.1 8 0 0 rfl).trans hb_) ?_
    refine sm_T_go 3 (c1 := (50, [some (.inr (.inr (some (8, 0)))), some (.inl a1_), some (.inl a2_), some (.inl (sm_mn a1_ a2_)), some (.inl ((sm_mx a1_ a2_) - (sm_mn a1_ a2_))), some (.inl 4)], [.inl (sm_mn a1_ a2_), .inr (.inr (some (23, (0 + bb_)))), .inl (sm_mn a1_ a2_), .inr (.inr (some (23, (0 + bb_))))], S0_)) rfl ?_
    refine sm_T_iald (n := 4712) rfl rfl (by omega) (by omega) ?_
    have bx16_ : 0 ≤ S0_.2.2.1 23 (0 + bb_) (sm_mn a1_ a2_).toNat ∧ S0_.2.2.1 23 (0 + bb_) (sm_mn a1_ a2_).toNat ≤ 7 := hI_.2 23 (0 + bb_) _
    refine sm_T_go 1 (c1 := (53, [some (.inr (.inr (some (8, 0)))), some (.inl a1_), some (.inl a2_), some (.inl (sm_mn a1_ a2_)), some (.inl ((sm_mx a1_ a2_) - (sm_mn a1_ a2_))), some (.inl 4)], [.inl 4, .inl (S0_.2.2.1 23 (0 + bb_) (sm_mn a1_ a2_).toNat), .inl (sm_mn a1_ a2_), .inr (.inr (some (23, (0 + bb_))))], S0_)) rfl ?_
    refine sm_T_bin (w := (i_or (S0_.2.2.1 23 (0 + bb_) (sm_mn a1_ a2_).toNat) 4)) rfl rfl ?_ -- pc_ 53
    have bx17_ := i_orp (x_ := (S0_.2.2.1 23 (0 + bb_) (sm_mn a1_ a2_).toNat)) (y_ := 4) (k_ := 3) (by decide) (by omega) (by omega)
    refine sm_T_iast (n := 4712) rfl rfl (by omega) (by omega) ?_
    have hIx18_ : gi (sm_aI S0_ 23 (0 + bb_) (sm_mn a1_ a2_).toNat (i_or (S0_.2.2.1 23 (0 + bb_) (sm_mn a1_ a2_).toNat) 4)) := gi_aI hI_ (show 0 ≤ (i_or (S0_.2.2.1 23 (0 + bb_) (sm_mn a1_ a2_).toNat) 4) ∧ (i_or (S0_.2.2.1 23 (0 + bb_) (sm_mn a1_ a2_).toNat) 4) ≤ 7 from ⟨by omega, by omega⟩)
    have hFx19_ : ai_fr (sx_W vw_167) S0_ (sm_aI S0_ 23 (0 + bb_) (sm_mn a1_ a2_).toNat (i_or (S0_.2.2.1 23 (0 + bb_) (sm_mn a1_ a2_).toNat) 4)) := ai_fr_tr hF_ (ai_fr_aI rfl)
    have hCx20_ : cdf bb_ S0_ (sm_aI S0_ 23 (0 + bb_) (sm_mn a1_ a2_).toNat (i_or (S0_.2.2.1 23 (0 + bb_) (sm_mn a1_ a2_).toNat) 4)) := cdf_aI hC_ (Or.inr (by rw [show cof 23 = 0 from rfl] <;> omega))
    refine sm_T_rv rfl ⟨_, _, rfl, rfl, hIx18_, hFx19_, ?_⟩
    refine ⟨hCx20_, ?_⟩
    exact ⟨_, fun j_ => rd_eq⟩
end
/-! 99.zkec -/
section
/-! Router.nearestPin -/
def vw_158 : sx_Wl := ([], [], [])
def vq_158 (a1_ : Int) (a2_ : Int) (bb_ : Nat) (S0_ : sm_S) (u_ : Option sm_V) (S1_ : sm_S) : Prop := S0_ = S1_ ∧ ∃ v_ : Int, u_ = some (.inl v_) ∧ ((v_ = -1 ∧ ∀ j_ : Nat, (j_ : Int) < S0_.2.2.1 20 (0 + bb_) a1_.toNat → (S0_.2.2.1 22 (0 + bb_) (ppk bb_ S0_ a1_.toNat j_).toNat = a1_ ∨ (a2_ ≠ -1 ∧ S0_.2.2.1 86 0 (ppk bb_ S0_ a1_.toNat j_).toNat ≠ a2_))) ∨ ((0 ≤ v_ ∧ v_ < S0_.1 8 0 2) ∧ S0_.2.2.1 22 (0 + bb_) (v_).toNat ≠ a1_ ∧ (a2_ = -1 ∨ S0_.2.2.1 86 0 (v_).toNat = a2_)))
set_option maxHeartbeats 2000000 in
theorem vl_158 {sc_ : Nat × (Nat → Int)} (a1_ : Int) (a2_ : Int) (bb_ : Nat) (S0_ : sm_S) (hb_ : S0_.2.1 8 0 0 = some bb_) (h1_ : 0 ≤ a1_ ∧ a1_ ≤ 161) (hn_ : bpn bb_ S0_) (hp_ : rpt bb_ S0_) : ∀ nn_ : Nat, (∀ (ls_ : Int) (k_ : Int) (S_ : sm_S), gi S_ → ai_fr (sx_W vw_158) S0_ S_ → ((0 ≤ k_ ∧ k_ ≤ 652 ∧ -1 ≤ ls_ ∧ ls_ ≤ 4711) ∧ (ls_ = -1 ∨ ((0 ≤ ls_ ∧ ls_ < S0_.1 8 0 2) ∧ S0_.2.2.1 22 (0 + bb_) (ls_).toNat ≠ a1_ ∧ (a2_ = -1 ∨ S0_.2.2.1 86 0 (ls_).toNat = a2_))) ∧ (ls_ = -1 → ∀ j_ : Nat, (j_ : Int) < k_ → (S0_.2.2.1 22 (0 + bb_) (ppk bb_ S0_ a1_.toNat j_).toNat = a1_ ∨ (a2_ ≠ -1 ∧ S0_.2.2.1 86 0 (ppk bb_ S0_ a1_.toNat j_).toNat ≠ a2_))) ∧ (S_ = S0_) ∧ True) → ((1000 - k_).toNat) < nn_ → sm_T (mt_P sc_) 2 158 (5, [some (.inr (.inr (some (8, 0)))), some (.inl a1_), some (.inl a2_), some (.inl ls_), some (.inl k_), none, none], [], S_) (fun ro9_ => ∃ u_ S1_, ro9_ = (.inl u_, S1_, 0) ∧ vq_158 a1_ a2_ bb_ S0_ u_ S1_)) := by
  intro nn_
  induction nn_ with
  | zero => exact fun _ _ _ _ _ _ h_ => absurd h_ (Nat.not_lt_zero _)
  | succ nn_ ih_ =>
    rintro ls_ k_ S_ hI_ hF_ ⟨h0_, hv_, hw_, hS_, -⟩ hm_
    refine sm_T_go 2 (c1 := (8, [some (.inr (.inr (some (8, 0)))), some (.inl a1_), some (.inl a2_), some (.inl ls_), some (.inl k_), none, none], [.inr (.inr (some (8, 0))), .inl k_], S_)) rfl ?_
    refine sm_T_gr rfl rfl ((hF_.2.1 8 0 0 rfl).trans hb_) ?_
    refine sm_T_go 2 (c1 := (15, [some (.inr (.inr (some (8, 0)))), some (.inl a1_), some (.inl a2_), some (.inl ls_), some (.inl k_), none, none], [.inl a1_, .inr (.inr (some (20, (0 + bb_)))), .inl k_], S_)) rfl ?_
    refine sm_T_iald (n := 162) rfl rfl (by omega) (by omega) ?_
    have bx1_ : 0 ≤ S_.2.2.1 20 (0 + bb_) a1_.toNat ∧ S_.2.2.1 20 (0 + bb_) a1_.toNat ≤ 652 := hI_.2 20 (0 + bb_) _
    refine sm_T_br (a := 3) (z := 84) rfl (fun cx2_ => ?_) (fun cx2_ => ?_)
    · have cx2_ : (S_.2.2.1 20 (0 + bb_) a1_.toNat) ≤ k_ := of_decide_eq_true cx2_
      refine sm_T_go 1 (c1 := (101, [some (.inr (.inr (some (8, 0)))), some (.inl a1_), some (.inl a2_), some (.inl ls_), some (.inl k_), none, none], [.inl ls_], S_)) rfl ?_
      refine sm_T_ri rfl ⟨_, _, rfl, (by first | rfl | exact hS_.symm), _, rfl, ?_⟩
      rcases hv_ with u9_ | u9_
      · left
        refine ⟨u9_, fun j_ hj_ => hw_ u9_ j_ ?_⟩
        rw [hS_] at *
        omega
      · right; exact u9_
    · have cx2_ : ¬ ((S_.2.2.1 20 (0 + bb_) a1_.toNat) ≤ k_) := of_decide_eq_false cx2_
      refine sm_T_go 1 (c1 := (20, [some (.inr (.inr (some (8, 0)))), some (.inl a1_), some (.inl a2_), some (.inl ls_), some (.inl k_), none, none], [.inr (.inr (some (8, 0)))], S_)) rfl ?_
      refine sm_T_gr rfl rfl ((hF_.2.1 8 0 0 rfl).trans hb_) ?_
      refine sm_T_go 1 (c1 := (24, [some (.inr (.inr (some (8, 0)))), some (.inl a1_), some (.inl a2_), some (.inl ls_), some (.inl k_), none, none], [.inr (.inr (some (8, 0))), .inr (.inr (some (0, bb_)))], S_)) rfl ?_
      refine sm_T_gr rfl rfl ((hF_.2.1 8 0 0 rfl).trans hb_) ?_
      refine sm_T_go 2 (c1 := (30, [some (.inr (.inr (some (8, 0)))), some (.inl a1_), some (.inl a2_), some (.inl ls_), some (.inl k_), none, none], [.inl k_, .inl a1_, .inr (.inr (some (0, bb_))), .inr (.inr (some (0, bb_)))], S_)) rfl ?_
      refine sm_T_cal (d1 := 0) (Q1 := vq_14 a1_ k_ bb_ S_) rfl rfl (by decide) (vc_14 a1_ k_ bb_ S_ hI_ (by omega) (by omega) (by (rw [hS_]; exact hn_))) (fun u_ Sx3_ px6_ => ?_)
      obtain ⟨rfl, vx8_, rfl, px6_⟩ := px6_
      have p9_ := px6_
      rw [hS_] at p9_
      refine sm_T_cal (d1 := 1) (Q1 := vq_19 vx8_ bb_ S_) rfl rfl (by decide) (vc_19 vx8_ bb_ S_ hI_ (by omega)) (fun u_ Sx9_ px12_ => ?_)
      obtain ⟨rfl, vx14_, rfl, px12_⟩ := px12_
      have q9_ := px12_
      have q8_ := q9_.2
      rw [hS_, p9_.2.1] at q8_
      have q7_ : vx14_ = ppk bb_ S0_ a1_.toNat k_.toNat := q8_
      have g9_ := hp_ a1_.toNat (by omega) k_.toNat (by rw [← hS_]; omega)
      rw [← q7_] at g9_
      refine sm_T_go 2 (c1 := (39, [some (.inr (.inr (some (8, 0)))), some (.inl a1_), some (.inl a2_), some (.inl ls_), some (.inl k_), some (.inl vx14_), none], [.inr (.inr (some (8, 0)))], S_)) rfl ?_
      refine sm_T_gr rfl rfl ((hF_.2.1 8 0 0 rfl).trans hb_) ?_
      refine sm_T_go 2 (c1 := (47, [some (.inr (.inr (some (8, 0)))), some (.inl a1_), some (.inl a2_), some (.inl ls_), some (.inl k_), some (.inl vx14_), none], [.inl vx14_, .inr (.inr (some (22, (0 + bb_))))], S_)) rfl ?_
      refine sm_T_iald (n := 4712) rfl rfl (by omega) (by omega) ?_
      have bx15_ : (-1) ≤ S_.2.2.1 22 (0 + bb_) vx14_.toNat ∧ S_.2.2.1 22 (0 + bb_) vx14_.toNat ≤ 161 := hI_.2 22 (0 + bb_) _
      refine sm_T_go 1 (c1 := (49, [some (.inr (.inr (some (8, 0)))), some (.inl a1_), some (.inl a2_), some (.inl ls_), some (.inl k_), some (.inl vx14_), none], [.inl a1_, .inl (S_.2.2.1 22 (0 + bb_) vx14_.toNat)], S_)) rfl ?_
      refine sm_T_br (a := 0) (z := 23) rfl (fun cx16_ => ?_) (fun cx16_ => ?_)
      · have cx16_ : (S_.2.2.1 22 (0 + bb_) vx14_.toNat) = a1_ := of_decide_eq_true cx16_
        refine sm_T_go 4 (c1 := (94, [some (.inr (.inr (some (8, 0)))), some (.inl a1_), some (.inl a2_), some (.inl ls_), some (.inl k_), some (.inl vx14_), some (.inl 0)], [], S_)) rfl ?_
        refine sm_T_inc (a := 4) (z := 1) (v := k_) (w := k_ + 1) rfl rfl (by omega) (by omega) (by omega) ?_ -- pc_ 94
        refine sm_T_go 1 (c1 := (5, [some (.inr (.inr (some (8, 0)))), some (.inl a1_), some (.inl a2_), some (.inl ls_), some (.inl (k_ + 1)), some (.inl vx14_), some (.inl 0)], [], S_)) rfl ?_
        refine sm_T_wk [some (.inr (.inr (some (8, 0)))), some (.inl a1_), some (.inl a2_), some (.inl ls_), some (.inl (k_ + 1)), none, none] (by exact ⟨rfl, rfl, rfl, rfl, rfl, trivial⟩) ?_
        refine ih_ ls_ (k_ + 1) S_ hI_ hF_ ⟨?_, ?_, ?_, ?_, trivial⟩ ?_
        · omega
        · rw [hS_] at *
          first | exact hv_ | (right; exact ⟨by omega, by omega, by omega⟩) | (rcases hv_ with u9_ | u9_; (exfalso; omega); (right; exact u9_))
        · rw [hS_] at *
          intro u9_ j_ hj_
          by_cases y9_ : (j_ : Int) = k_
          · rw [show j_ = k_.toNat by omega, ← q7_]; omega
          · first | exact hw_ u9_ j_ (by omega) | (exfalso; omega)
        · first | rfl | exact hS_
        · omega
      · have cx16_ : ¬ ((S_.2.2.1 22 (0 + bb_) vx14_.toNat) = a1_) := of_decide_eq_false cx16_
        refine sm_T_go 2 (c1 := (54, [some (.inr (.inr (some (8, 0)))), some (.inl a1_), some (.inl a2_), some (.inl ls_), some (.inl k_), some (.inl vx14_), none], [.inl (-1), .inl a2_], S_)) rfl ?_
        refine sm_T_br (a := 0) (z := 14) rfl (fun cx17_ => ?_) (fun cx17_ => ?_)
        · have cx17_ : a2_ = (-1) := of_decide_eq_true cx17_
          refine sm_T_go 7 (c1 := (82, [some (.inr (.inr (some (8, 0)))), some (.inl a1_), some (.inl a2_), some (.inl ls_), some (.inl k_), some (.inl vx14_), some (.inl 1)], [.inl (-1), .inl ls_], S_)) rfl ?_
          refine sm_T_br (a := 0) (z := 9) rfl (fun cx18_ => ?_) (fun cx18_ => ?_)
          · have cx18_ : ls_ = (-1) := of_decide_eq_true cx18_
            refine sm_T_go 2 (c1 := (94, [some (.inr (.inr (some (8, 0)))), some (.inl a1_), some (.inl a2_), some (.inl vx14_), some (.inl k_), some (.inl vx14_), some (.inl 1)], [], S_)) rfl ?_
            refine sm_T_inc (a := 4) (z := 1) (v := k_) (w := k_ + 1) rfl rfl (by omega) (by omega) (by omega) ?_ -- pc_ 94
            refine sm_T_go 1 (c1 := (5, [some (.inr (.inr (some (8, 0)))), some (.inl a1_), some (.inl a2_), some (.inl vx14_), some (.inl (k_ + 1)), some (.inl vx14_), some (.inl 1)], [], S_)) rfl ?_
            refine sm_T_wk [some (.inr (.inr (some (8, 0)))), some (.inl a1_), some (.inl a2_), some (.inl vx14_), some (.inl (k_ + 1)), none, none] (by exact ⟨rfl, rfl, rfl, rfl, rfl, trivial⟩) ?_
            refine ih_ vx14_ (k_ + 1) S_ hI_ hF_ ⟨?_, ?_, ?_, ?_, trivial⟩ ?_
            · omega
            · rw [hS_] at *
              first | exact hv_ | (right; exact ⟨by omega, by omega, by omega⟩) | (rcases hv_ with u9_ | u9_; (exfalso; omega); (right; exact u9_))
            · rw [hS_] at *
              intro u9_ j_ hj_
              by_cases y9_ : (j_ : Int) = k_
              · rw [show j_ = k_.toNat by omega, ← q7_]; omega
              · first | exact hw_ u9_ j_ (by omega) | (exfalso; omega)
            · first | rfl | exact hS_
            · omega
          · have cx18_ : ¬ (ls_ = (-1)) := of_decide_eq_false cx18_
            refine sm_T_go 2 (c1 := (88, [some (.inr (.inr (some (8, 0)))), some (.inl a1_), some (.inl a2_), some (.inl ls_), some (.inl k_), some (.inl vx14_), some (.inl 1)], [.inl ls_, .inl vx14_], S_)) rfl ?_
            refine sm_T_br (a := 3) (z := 6) rfl (fun cx19_ => ?_) (fun cx19_ => ?_)
            · have cx19_ : ls_ ≤ vx14_ := of_decide_eq_true cx19_
              refine sm_T_inc (a := 4) (z := 1) (v := k_) (w := k_ + 1) rfl rfl (by omega) (by omega) (by omega) ?_ -- pc_ 94
              refine sm_T_go 1 (c1 := (5, [some (.inr (.inr (some (8, 0)))), some (.inl a1_), some (.inl a2_), some (.inl ls_), some (.inl (k_ + 1)), some (.inl vx14_), some (.inl 1)], [], S_)) rfl ?_
              refine sm_T_wk [some (.inr (.inr (some (8, 0)))), some (.inl a1_), some (.inl a2_), some (.inl ls_), some (.inl (k_ + 1)), none, none] (by exact ⟨rfl, rfl, rfl, rfl, rfl, trivial⟩) ?_
              refine ih_ ls_ (k_ + 1) S_ hI_ hF_ ⟨?_, ?_, ?_, ?_, trivial⟩ ?_
              · omega
              · rw [hS_] at *
                first | exact hv_ | (right; exact ⟨by omega, by omega, by omega⟩) | (rcases hv_ with u9_ | u9_; (exfalso; omega); (right; exact u9_))
              · rw [hS_] at *
                intro u9_ j_ hj_
                by_cases y9_ : (j_ : Int) = k_
                · rw [show j_ = k_.toNat by omega, ← q7_]; omega
                · first | exact hw_ u9_ j_ (by omega) | (exfalso; omega)
              · first | rfl | exact hS_
              · omega
            · have cx19_ : ¬ (ls_ ≤ vx14_) := of_decide_eq_false cx19_
              refine sm_T_go 2 (c1 := (94, [some (.inr (.inr (some (8, 0)))), some (.inl a1_), some (.inl a2_), some (.inl vx14_), some (.inl k_), some (.inl vx14_), some (.inl 1)], [], S_)) rfl ?_
              refine sm_T_inc (a := 4) (z := 1) (v := k_) (w := k_ + 1) rfl rfl (by omega) (by omega) (by omega) ?_ -- pc_ 94
              refine sm_T_go 1 (c1 := (5, [some (.inr (.inr (some (8, 0)))), some (.inl a1_), some (.inl a2_), some (.inl vx14_), some (.inl (k_ + 1)), some (.inl vx14_), some (.inl 1)], [], S_)) rfl ?_
              refine sm_T_wk [some (.inr (.inr (some (8, 0)))), some (.inl a1_), some (.inl a2_), some (.inl vx14_), some (.inl (k_ + 1)), none, none] (by exact ⟨rfl, rfl, rfl, rfl, rfl, trivial⟩) ?_
              refine ih_ vx14_ (k_ + 1) S_ hI_ hF_ ⟨?_, ?_, ?_, ?_, trivial⟩ ?_
              · omega
              · rw [hS_] at *
                first | exact hv_ | (right; exact ⟨by omega, by omega, by omega⟩) | (rcases hv_ with u9_ | u9_; (exfalso; omega); (right; exact u9_))
              · rw [hS_] at *
                intro u9_ j_ hj_
                by_cases y9_ : (j_ : Int) = k_
                · rw [show j_ = k_.toNat by omega, ← q7_]; omega
                · first | exact hw_ u9_ j_ (by omega) | (exfalso; omega)
              · first | rfl | exact hS_
              · omega
        · have cx17_ : ¬ (a2_ = (-1)) := of_decide_eq_false cx17_
          refine sm_T_go 3 (c1 := (63, [some (.inr (.inr (some (8, 0)))), some (.inl a1_), some (.inl a2_), some (.inl ls_), some (.inl k_), some (.inl vx14_), none], [.inl vx14_, .inr (.inr (some (86, 0)))], S_)) rfl ?_
          refine sm_T_iald (n := 4712) rfl rfl (by omega) (by omega) ?_
          have bx20_ : (-1) ≤ S_.2.2.1 86 0 vx14_.toNat ∧ S_.2.2.1 86 0 vx14_.toNat ≤ 100000 := hI_.2 86 0 _
          refine sm_T_go 1 (c1 := (65, [some (.inr (.inr (some (8, 0)))), some (.inl a1_), some (.inl a2_), some (.inl ls_), some (.inl k_), some (.inl vx14_), none], [.inl a2_, .inl (S_.2.2.1 86 0 vx14_.toNat)], S_)) rfl ?_
          refine sm_T_br (a := 1) (z := 7) rfl (fun cx21_ => ?_) (fun cx21_ => ?_)
          · have cx21_ : (S_.2.2.1 86 0 vx14_.toNat) ≠ a2_ := of_decide_eq_true cx21_
            refine sm_T_go 4 (c1 := (94, [some (.inr (.inr (some (8, 0)))), some (.inl a1_), some (.inl a2_), some (.inl ls_), some (.inl k_), some (.inl vx14_), some (.inl 0)], [], S_)) rfl ?_
            refine sm_T_inc (a := 4) (z := 1) (v := k_) (w := k_ + 1) rfl rfl (by omega) (by omega) (by omega) ?_ -- pc_ 94
            refine sm_T_go 1 (c1 := (5, [some (.inr (.inr (some (8, 0)))), some (.inl a1_), some (.inl a2_), some (.inl ls_), some (.inl (k_ + 1)), some (.inl vx14_), some (.inl 0)], [], S_)) rfl ?_
            refine sm_T_wk [some (.inr (.inr (some (8, 0)))), some (.inl a1_), some (.inl a2_), some (.inl ls_), some (.inl (k_ + 1)), none, none] (by exact ⟨rfl, rfl, rfl, rfl, rfl, trivial⟩) ?_
            refine ih_ ls_ (k_ + 1) S_ hI_ hF_ ⟨?_, ?_, ?_, ?_, trivial⟩ ?_
            · omega
            · rw [hS_] at *
              first | exact hv_ | (right; exact ⟨by omega, by omega, by omega⟩) | (rcases hv_ with u9_ | u9_; (exfalso; omega); (right; exact u9_))
            · rw [hS_] at *
              intro u9_ j_ hj_
              by_cases y9_ : (j_ : Int) = k_
              · rw [show j_ = k_.toNat by omega, ← q7_]; omega
              · first | exact hw_ u9_ j_ (by omega) | (exfalso; omega)
            · first | rfl | exact hS_
            · omega
          · have cx21_ : ¬ ((S_.2.2.1 86 0 vx14_.toNat) ≠ a2_) := of_decide_eq_false cx21_
            refine sm_T_go 7 (c1 := (82, [some (.inr (.inr (some (8, 0)))), some (.inl a1_), some (.inl a2_), some (.inl ls_), some (.inl k_), some (.inl vx14_), some (.inl 1)], [.inl (-1), .inl ls_], S_)) rfl ?_
            refine sm_T_br (a := 0) (z := 9) rfl (fun cx22_ => ?_) (fun cx22_ => ?_)
            · have cx22_ : ls_ = (-1) := of_decide_eq_true cx22_
              refine sm_T_go 2 (c1 := (94, [some (.inr (.inr (some (8, 0)))), some (.inl a1_), some (.inl a2_), some (.inl vx14_), some (.inl k_), some (.inl vx14_), some (.inl 1)], [], S_)) rfl ?_
              refine sm_T_inc (a := 4) (z := 1) (v := k_) (w := k_ + 1) rfl rfl (by omega) (by omega) (by omega) ?_ -- pc_ 94
              refine sm_T_go 1 (c1 := (5, [some (.inr (.inr (some (8, 0)))), some (.inl a1_), some (.inl a2_), some (.inl vx14_), some (.inl (k_ + 1)), some (.inl vx14_), some (.inl 1)], [], S_)) rfl ?_
              refine sm_T_wk [some (.inr (.inr (some (8, 0)))), some (.inl a1_), some (.inl a2_), some (.inl vx14_), some (.inl (k_ + 1)), none, none] (by exact ⟨rfl, rfl, rfl, rfl, rfl, trivial⟩) ?_
              refine ih_ vx14_ (k_ + 1) S_ hI_ hF_ ⟨?_, ?_, ?_, ?_, trivial⟩ ?_
              · omega
              · rw [hS_] at *
                first | exact hv_ | (right; exact ⟨by omega, by omega, by omega⟩) | (rcases hv_ with u9_ | u9_; (exfalso; omega); (right; exact u9_))
              · rw [hS_] at *
                intro u9_ j_ hj_
                by_cases y9_ : (j_ : Int) = k_
                · rw [show j_ = k_.toNat by omega, ← q7_]; omega
                · first | exact hw_ u9_ j_ (by omega) | (exfalso; omega)
              · first | rfl | exact hS_
              · omega
            · have cx22_ : ¬ (ls_ = (-1)) := of_decide_eq_false cx22_
              refine sm_T_go 2 (c1 := (88, [some (.inr (.inr (some (8, 0)))), some (.inl a1_), some (.inl a2_), some (.inl ls_), some (.inl k_), some (.inl vx14_), some (.inl 1)], [.inl ls_, .inl vx14_], S_)) rfl ?_
              refine sm_T_br (a := 3) (z := 6) rfl (fun cx23_ => ?_) (fun cx23_ => ?_)
              · have cx23_ : ls_ ≤ vx14_ := of_decide_eq_true cx23_
                refine sm_T_inc (a := 4) (z := 1) (v := k_) (w := k_ + 1) rfl rfl (by omega) (by omega) (by omega) ?_ -- pc_ 94
                refine sm_T_go 1 (c1 := (5, [some (.inr (.inr (some (8, 0)))), some (.inl a1_), some (.inl a2_), some (.inl ls_), some (.inl (k_ + 1)), some (.inl vx14_), some (.inl 1)], [], S_)) rfl ?_
                refine sm_T_wk [some (.inr (.inr (some (8, 0)))), some (.inl a1_), some (.inl a2_), some (.inl ls_), some (.inl (k_ + 1)), none, none] (by exact ⟨rfl, rfl, rfl, rfl, rfl, trivial⟩) ?_
                refine ih_ ls_ (k_ + 1) S_ hI_ hF_ ⟨?_, ?_, ?_, ?_, trivial⟩ ?_
                · omega
                · rw [hS_] at *
                  first | exact hv_ | (right; exact ⟨by omega, by omega, by omega⟩) | (rcases hv_ with u9_ | u9_; (exfalso; omega); (right; exact u9_))
                · rw [hS_] at *
                  intro u9_ j_ hj_
                  by_cases y9_ : (j_ : Int) = k_
                  · rw [show j_ = k_.toNat by omega, ← q7_]; omega
                  · first | exact hw_ u9_ j_ (by omega) | (exfalso; omega)
                · first | rfl | exact hS_
                · omega
              · have cx23_ : ¬ (ls_ ≤ vx14_) := of_decide_eq_false cx23_
                refine sm_T_go 2 (c1 := (94, [some (.inr (.inr (some (8, 0)))), some (.inl a1_), some (.inl a2_), some (.inl vx14_), some (.inl k_), some (.inl vx14_), some (.inl 1)], [], S_)) rfl ?_
                refine sm_T_inc (a := 4) (z := 1) (v := k_) (w := k_ + 1) rfl rfl (by omega) (by omega) (by omega) ?_ -- pc_ 94
                refine sm_T_go 1 (c1 := (5, [some (.inr (.inr (some (8, 0)))), some (.inl a1_), some (.inl a2_), some (.inl vx14_), some (.inl (k_ + 1)), some (.inl vx14_), some (.inl 1)], [], S_)) rfl ?_
                refine sm_T_wk [some (.inr (.inr (some (8, 0)))), some (.inl a1_), some (.inl a2_), some (.inl vx14_), some (.inl (k_ + 1)), none, none] (by exact ⟨rfl, rfl, rfl, rfl, rfl, trivial⟩) ?_
                refine ih_ vx14_ (k_ + 1) S_ hI_ hF_ ⟨?_, ?_, ?_, ?_, trivial⟩ ?_
                · omega
                · rw [hS_] at *
                  first | exact hv_ | (right; exact ⟨by omega, by omega, by omega⟩) | (rcases hv_ with u9_ | u9_; (exfalso; omega); (right; exact u9_))
                · rw [hS_] at *
                  intro u9_ j_ hj_
                  by_cases y9_ : (j_ : Int) = k_
                  · rw [show j_ = k_.toNat by omega, ← q7_]; omega
                  · first | exact hw_ u9_ j_ (by omega) | (exfalso; omega)
                · first | rfl | exact hS_
                · omega
set_option maxHeartbeats 2000000 in
theorem vc_158 {sc_ : Nat × (Nat → Int)} (a1_ : Int) (a2_ : Int) (bb_ : Nat) (S0_ : sm_S) (hI_ : gi S0_) (hb_ : S0_.2.1 8 0 0 = some bb_) (h1_ : 0 ≤ a1_ ∧ a1_ ≤ 161) (hn_ : bpn bb_ S0_) (hp_ : rpt bb_ S0_) : sm_T (mt_P sc_) 2 158 (0, [some (.inr (.inr (some (8, 0)))), some (.inl a1_), some (.inl a2_), none, none, none, none], [], S0_) (fun ro9_ => ∃ u_ S1_, ro9_ = (.inl u_, S1_, 0) ∧ vq_158 a1_ a2_ bb_ S0_ u_ S1_) := by
  have hF_ : ai_fr (sx_W vw_158) S0_ S0_ := ai_fr_rf
  refine sm_T_go 4 (c1 := (5, [some (.inr (.inr (some (8, 0)))), some (.inl a1_), some (.inl a2_), some (.inl (-1)), some (.inl 0), none, none], [], S0_)) rfl ?_
  refine (vl_158 a1_ a2_ bb_ S0_ hb_ h1_ hn_ hp_ _) (-1) 0 S0_ hI_ hF_ ⟨?_, ?_, ?_, ?_, trivial⟩ (Nat.lt_succ_self _)
  · omega
  · (left; rfl)
  · (intro _ j_ hj_; exfalso; omega)
  · first | rfl | exact hS_
end
/-! 99.zkfa -/
section
/-! wires: distances; written by wip/p55/gen/vg -/

/-! a_ net's tree; its_ distances -/
def trt (bb_ : Nat) (t_ : Int) (S_ : sm_S) : Prop := S_.1 8 0 11 = (cne (S_.2.2.1 22 (0 + bb_)) t_ (2 * S_.1 8 0 2).toNat : Int) ∧ (∀ i_ : Nat, (i_ : Int) < S_.1 8 0 11 → (0 ≤ S_.2.2.1 90 0 i_ ∧ S_.2.2.1 90 0 i_ < 2 * S_.1 8 0 2) ∧ S_.2.2.1 22 (0 + bb_) (S_.2.2.1 90 0 i_).toNat = t_) ∧ ∀ p_ : Nat, (p_ : Int) < 2 * S_.1 8 0 2 → S_.2.2.1 22 (0 + bb_) p_ = t_ → ∃ i_ : Nat, (i_ : Int) < S_.1 8 0 11 ∧ S_.2.2.1 90 0 i_ = (p_ : Int)
theorem rpt_fr {w_ : sx_Wl} {bb_ : Nat} {S_ S'_ : sm_S} (h_ : rpt bb_ S_) (g_ : ai_fr (sx_W w_) S_ S'_) (h0_ : (sx_W w_).1 0 0 = false := by rfl) (h1_ : (sx_W w_).1 8 2 = false := by rfl) (a1_ : (sx_W w_).2.1 14 = false := by rfl) (a2_ : (sx_W w_).2.1 15 = false := by rfl) (a3_ : (sx_W w_).2.1 18 = false := by rfl) (a4_ : (sx_W w_).2.1 19 = false := by rfl) (a5_ : (sx_W w_).2.1 20 = false := by rfl) : rpt bb_ S'_ := by
  intro c_ hc_ k_ hk_
  have e_ : ppk bb_ S'_ c_ k_ = ppk bb_ S_ c_ k_ := by
    unfold ppk ppt ppx ppy
    rw [fr_arr g_ a1_, fr_arr g_ a2_, fr_arr g_ a3_, fr_arr g_ a4_, g_.1 0 bb_ 0 h0_]
  rw [fr_arr g_ a5_] at hk_
  rw [e_, g_.1 8 0 2 h1_]
  exact h_ c_ hc_ k_ hk_
theorem rsp_0 {bb_ : Nat} {t_ : Int} {S_ : sm_S} (L0_ : 0 ≤ S_.1 8 0 2) (hd_ : ∀ p_ : Nat, (p_ : Int) < 2 * S_.1 8 0 2 → S_.2.2.1 86 0 p_ = -1 ∨ S_.2.2.1 86 0 p_ = 0) (hz_ : ∀ p_ : Nat, (p_ : Int) < 2 * S_.1 8 0 2 → (S_.2.2.1 86 0 p_ = 0 ↔ S_.2.2.1 22 (0 + bb_) p_ = t_)) (hn_ : S_.1 8 0 6 = (cne (S_.2.2.1 22 (0 + bb_)) t_ (2 * S_.1 8 0 2).toNat : Int)) (hf_ : S_.1 8 0 8 = 0) (hc_ : ∀ i_ : Nat, (i_ : Int) < S_.1 8 0 6 → (0 ≤ S_.2.2.1 87 0 i_ ∧ S_.2.2.1 87 0 i_ < 2 * S_.1 8 0 2) ∧ S_.2.2.1 22 (0 + bb_) (S_.2.2.1 87 0 i_).toNat = t_) : rsp bb_ t_ S_ := by
  refine ⟨hz_, fun p_ hp_ h0_ => ?_, ?_, fun i_ hi_ => ?_, fun i_ hi_ => ?_, fun p_ hp_ => ?_⟩
  · rcases hd_ p_ hp_ with z_ | z_ <;> (exfalso; omega)
  · have u_ := cne_cp (f := S_.2.2.1 86 0) (g := S_.2.2.1 22 (0 + bb_)) (c := -1) (d := t_) (n := (2 * S_.1 8 0 2).toNat) (fun k_ hk_ => by
      rw [← hz_ k_ (by omega)]
      rcases hd_ k_ (by omega) with z_ | z_ <;> omega)
    omega
  · have a_ := hc_ i_ hi_
    refine ⟨a_.1, ?_⟩
    have b_ := (hz_ (S_.2.2.1 87 0 i_).toNat (by omega)).mpr a_.2
    omega
  · exfalso; omega
  · rcases hd_ p_ hp_ with z_ | z_ <;> omega
/-! java/util/Arrays.rangeCheck -/
def vw_6 : sx_Wl := ([], [], [])
def vq_6 (a0_ : Int) (a1_ : Int) (a2_ : Int) (S0_ : sm_S) (u_ : Option sm_V) (S1_ : sm_S) : Prop := u_ = none ∧ gi S1_ ∧ ai_fr (sx_W vw_6) S0_ S1_ ∧ (S1_ = S0_)
set_option maxHeartbeats 400000 in
theorem vc_6 {sc_ : Nat × (Nat → Int)} (a0_ : Int) (a1_ : Int) (a2_ : Int) (S0_ : sm_S) (hI_ : gi S0_) (h0_ : 0 ≤ a1_ ∧ a1_ ≤ a2_ ∧ a2_ ≤ a0_) : sm_T (mt_P sc_) 0 6 (0, [some (.inl a0_), some (.inl a1_), some (.inl a2_)], [], S0_) (fun ro9_ => ∃ u_ S1_, ro9_ = (.inl u_, S1_, 0) ∧ vq_6 a0_ a1_ a2_ S0_ u_ S1_) := by
  have hF_ : ai_fr (sx_W vw_6) S0_ S0_ := ai_fr_rf
  refine sm_T_go 2 (c1 := (2, [some (.inl a0_), some (.inl a1_), some (.inl a2_)], [.inl a2_, .inl a1_], S0_)) rfl ?_
  refine sm_T_br (a := 5) (z := 44) rfl (fun cx1_ => ?_) (fun cx1_ => ?_)
  · have cx1_ : a1_ ≤ a2_ := of_decide_eq_true cx1_
    refine sm_T_go 1 (c1 := (47, [some (.inl a0_), some (.inl a1_), some (.inl a2_)], [.inl a1_], S0_)) rfl ?_
    refine sm_T_b0 (a := 3) (z := 12) rfl (fun cx2_ => ?_) (fun cx2_ => ?_)
    · have cx2_ : 0 ≤ a1_ := of_decide_eq_true cx2_
      refine sm_T_go 2 (c1 := (61, [some (.inl a0_), some (.inl a1_), some (.inl a2_)], [.inl a0_, .inl a2_], S0_)) rfl ?_
      refine sm_T_br (a := 5) (z := 12) rfl (fun cx3_ => ?_) (fun cx3_ => ?_)
      · have cx3_ : a2_ ≤ a0_ := of_decide_eq_true cx3_
        refine sm_T_rv rfl ⟨_, _, rfl, rfl, hI_, hF_, ?_⟩
        rfl
      · have cx3_ : ¬ (a2_ ≤ a0_) := of_decide_eq_false cx3_
        exfalso; omega
    · have cx2_ : ¬ (0 ≤ a1_) := of_decide_eq_false cx2_
      exfalso; omega
  · have cx1_ : ¬ (a1_ ≤ a2_) := of_decide_eq_false cx1_
    exfalso; omega
end
/-! 99.zkfb -/
section
/-! java/util/Arrays.fill -/
def vw_3d6 : sx_Wl := ([], [86], [])
def vq_3d6 (fr_ : Int) (to_ : Int) (v0_ : Int) (S0_ : sm_S) (u_ : Option sm_V) (S1_ : sm_S) : Prop := u_ = none ∧ gi S1_ ∧ ai_fr (sx_W vw_3d6) S0_ S1_ ∧ (∀ j_ : Nat, fr_ ≤ (j_ : Int) → (j_ : Int) < to_ → S1_.2.2.1 86 0 j_ = v0_)
set_option maxHeartbeats 400000 in
theorem vl_3d6 {sc_ : Nat × (Nat → Int)} (fr_ : Int) (to_ : Int) (v0_ : Int) (S0_ : sm_S) (hv_ : (-1) ≤ v0_ ∧ v0_ ≤ 100000) (ht_ : 0 ≤ fr_ ∧ fr_ ≤ to_ ∧ to_ ≤ 4712) : ∀ nn_ : Nat, (∀ (k_ : Int) (S_ : sm_S), gi S_ → ai_fr (sx_W vw_3d6) S0_ S_ → ((fr_ ≤ k_ ∧ k_ ≤ to_) ∧ (∀ j_ : Nat, fr_ ≤ (j_ : Int) → (j_ : Int) < k_ → S_.2.2.1 86 0 j_ = v0_) ∧ True) → ((4717 - k_).toNat) < nn_ → sm_T (mt_P sc_) 1 3 (10, [some (.inr (.inr (some (86, 0)))), some (.inl fr_), some (.inl to_), some (.inl v0_), some (.inl k_)], [], S_) (fun ro9_ => ∃ u_ S1_, ro9_ = (.inl u_, S1_, 0) ∧ vq_3d6 fr_ to_ v0_ S0_ u_ S1_)) := by
  intro nn_
  induction nn_ with
  | zero => exact fun _ _ _ _ _ h_ => absurd h_ (Nat.not_lt_zero _)
  | succ nn_ ih_ =>
    rintro k_ S_ hI_ hF_ ⟨h0_, h1_, -⟩ hm_
    refine sm_T_go 2 (c1 := (13, [some (.inr (.inr (some (86, 0)))), some (.inl fr_), some (.inl to_), some (.inl v0_), some (.inl k_)], [.inl to_, .inl k_], S_)) rfl ?_
    refine sm_T_br (a := 3) (z := 14) rfl (fun cx1_ => ?_) (fun cx1_ => ?_)
    · have cx1_ : to_ ≤ k_ := of_decide_eq_true cx1_
      refine sm_T_rv rfl ⟨_, _, rfl, rfl, hI_, hF_, ?_⟩
      exact fun j_ u_ w_ => h1_ j_ u_ (by omega)
    · have cx1_ : ¬ (to_ ≤ k_) := of_decide_eq_false cx1_
      refine sm_T_go 3 (c1 := (20, [some (.inr (.inr (some (86, 0)))), some (.inl fr_), some (.inl to_), some (.inl v0_), some (.inl k_)], [.inl v0_, .inl k_, .inr (.inr (some (86, 0)))], S_)) rfl ?_
      refine sm_T_iast (n := 4712) rfl rfl (by omega) (by omega) ?_
      have hIx2_ : gi (sm_aI S_ 86 0 k_.toNat v0_) := gi_aI hI_ (show (-1) ≤ v0_ ∧ v0_ ≤ 100000 from ⟨by omega, by omega⟩)
      have hFx3_ : ai_fr (sx_W vw_3d6) S0_ (sm_aI S_ 86 0 k_.toNat v0_) := ai_fr_tr hF_ (ai_fr_aI rfl)
      refine sm_T_inc (a := 4) (z := 1) (v := k_) (w := k_ + 1) rfl rfl (by omega) (by omega) (by omega) ?_ -- pc_ 21
      refine sm_T_go 1 (c1 := (10, [some (.inr (.inr (some (86, 0)))), some (.inl fr_), some (.inl to_), some (.inl v0_), some (.inl (k_ + 1))], [], sm_aI S_ 86 0 k_.toNat v0_)) rfl ?_
      refine ih_ (k_ + 1) (sm_aI S_ 86 0 k_.toNat v0_) hIx2_ hFx3_ ⟨?_, ?_, trivial⟩ ?_
      · omega
      · intro j_ u_ w_
        rw [rd_eq]
        by_cases z_ : j_ = k_.toNat
        · rw [if_pos z_]
        · rw [if_neg z_]; exact h1_ j_ u_ (by omega)
      · omega
set_option maxHeartbeats 400000 in
theorem vc_3d6 {sc_ : Nat × (Nat → Int)} (fr_ : Int) (to_ : Int) (v0_ : Int) (S0_ : sm_S) (hI_ : gi S0_) (hv_ : (-1) ≤ v0_ ∧ v0_ ≤ 100000) (ht_ : 0 ≤ fr_ ∧ fr_ ≤ to_ ∧ to_ ≤ 4712) : sm_T (mt_P sc_) 1 3 (0, [some (.inr (.inr (some (86, 0)))), some (.inl fr_), some (.inl to_), some (.inl v0_), none], [], S0_) (fun ro9_ => ∃ u_ S1_, ro9_ = (.inl u_, S1_, 0) ∧ vq_3d6 fr_ to_ v0_ S0_ u_ S1_) := by
  have hF_ : ai_fr (sx_W vw_3d6) S0_ S0_ := ai_fr_rf
  refine sm_T_go 4 (c1 := (4, [some (.inr (.inr (some (86, 0)))), some (.inl fr_), some (.inl to_), some (.inl v0_), none], [.inl to_, .inl fr_, .inl 4712], S0_)) rfl ?_
  refine sm_T_cal (d1 := 0) (Q1 := vq_6 4712 fr_ to_ S0_) rfl rfl (by decide) (vc_6 4712 fr_ to_ S0_ hI_ (by omega)) (fun u_ Sx1_ px4_ => ?_)
  obtain ⟨rfl, hIx2_, hFx3_, px4_⟩ := px4_
  have hFx5_ : ai_fr (sx_W vw_3d6) S0_ Sx1_ := ai_fr_tr hF_ (fr_le hFx3_ rfl)
  refine sm_T_go 2 (c1 := (10, [some (.inr (.inr (some (86, 0)))), some (.inl fr_), some (.inl to_), some (.inl v0_), some (.inl fr_)], [], Sx1_)) rfl ?_
  refine (vl_3d6 fr_ to_ v0_ S0_ hv_ ht_ _) fr_ Sx1_ hIx2_ hFx5_ ⟨?_, ?_, trivial⟩ (Nat.lt_succ_self _)
  · omega
  · (intro j_ u_ w_; exfalso; omega)
end
/-! 99.zkfc -/
section
/-! Router.spread -/
def vw_161 : sx_Wl := ([(8, 6), (8, 8)], [86, 87, 88], [])
def vq_161 (a1_ : Int) (a2_ : Int) (bb_ : Nat) (S0_ : sm_S) (u_ : Option sm_V) (S1_ : sm_S) : Prop := ∃ v_ : Int, u_ = some (.inl v_) ∧ gi S1_ ∧ ai_fr (sx_W vw_161) S0_ S1_ ∧ (v_ = -1 ∨ ((0 ≤ v_ ∧ v_ < 2 * S1_.1 8 0 2) ∧ rsp bb_ a1_ S1_ ∧ 0 < S1_.2.2.1 86 0 v_.toNat ∧ S1_.2.2.1 22 (0 + bb_) v_.toNat ≠ a1_))
set_option maxHeartbeats 3000000 in
set_option maxRecDepth 20000 in
theorem vl_161 {sc_ : Nat × (Nat → Int)} (a1_ : Int) (a2_ : Int) (bb_ : Nat) (S0_ : sm_S) (hb_ : S0_.2.1 8 0 0 = some bb_) (hg_ : rgw S0_) (h1_ : 0 ≤ a1_ ∧ a1_ ≤ 161) (hn_ : bpn bb_ S0_) (hp_ : rpt bb_ S0_) (ht_ : trt bb_ a1_ S0_) : ∀ nn_ : Nat, (∀ (k_ : Int) (S_ : sm_S), gi S_ → ai_fr (sx_W vw_161) S0_ S_ → ((0 ≤ k_ ∧ k_ ≤ S0_.1 8 0 11) ∧ (∀ p_ : Nat, (p_ : Int) < 2 * S0_.1 8 0 2 → S_.2.2.1 86 0 p_ = -1 ∨ S_.2.2.1 86 0 p_ = 0) ∧ (∀ p_ : Nat, (p_ : Int) < 2 * S0_.1 8 0 2 → (S_.2.2.1 86 0 p_ = 0 ↔ ∃ i_ : Nat, (i_ : Int) < k_ ∧ S0_.2.2.1 90 0 i_ = (p_ : Int))) ∧ (∀ i_ : Nat, (i_ : Int) < S0_.1 8 0 11 → S_.2.2.1 87 0 i_ = S0_.2.2.1 90 0 i_) ∧ True) → ((20000 - k_).toNat) < nn_ → sm_T (mt_P sc_) 3 161 (34, [some (.inr (.inr (some (8, 0)))), some (.inl a1_), some (.inl a2_), some (.inl k_), none, none, none, none], [], S_) (fun ro9_ => ∃ u_ S1_, ro9_ = (.inl u_, S1_, 0) ∧ vq_161 a1_ a2_ bb_ S0_ u_ S1_)) ∧ (∀ (nh_ : Int) (fh_ : Int) (gd_ : Int) (S_ : sm_S), gi S_ → ai_fr (sx_W vw_161) S0_ S_ → ((0 ≤ nh_ ∧ nh_ ≤ S_.1 8 0 6 ∧ 0 ≤ fh_ ∧ fh_ ≤ S_.1 8 0 8 ∧ 0 ≤ gd_ ∧ gd_ ≤ 4712) ∧ (rsp bb_ a1_ S_) ∧ True) → ((10000 - gd_).toNat) < nn_ → sm_T (mt_P sc_) 3 161 (81, [some (.inr (.inr (some (8, 0)))), some (.inl a1_), some (.inl a2_), some (.inl nh_), some (.inl fh_), some (.inl gd_), none, none], [], S_) (fun ro9_ => ∃ u_ S1_, ro9_ = (.inl u_, S1_, 0) ∧ vq_161 a1_ a2_ bb_ S0_ u_ S1_)) := by
  intro nn_
  induction nn_ with
  | zero => exact ⟨fun _ _ _ _ _ h_ => absurd h_ (Nat.not_lt_zero _), fun _ _ _ _ _ _ _ h_ => absurd h_ (Nat.not_lt_zero _)⟩
  | succ nn_ ih_ =>
    refine ⟨?_, ?_⟩
    · rintro k_ S_ hI_ hF_ ⟨h0_, hd_, hz_, hc_, -⟩ hm_
      have e2_ : S_.1 8 0 2 = S0_.1 8 0 2 := hF_.1 8 0 2 rfl
      have eb_ : S_.1 8 0 11 = S0_.1 8 0 11 := hF_.1 8 0 11 rfl
      have e90_ : S_.2.2.1 90 0 = S0_.2.2.1 90 0 := fr_arr hF_ rfl
      have e22_ : S_.2.2.1 22 (0 + bb_) = S0_.2.2.1 22 (0 + bb_) := fr_arr hF_ rfl
      have cL_ : 0 ≤ S_.1 8 0 2 ∧ S_.1 8 0 2 ≤ 2356 := hI_.1 8 0 2 rfl
      have ct : 0 ≤ S_.1 8 0 11 ∧ S_.1 8 0 11 ≤ 4712 := hI_.1 8 0 11 rfl
      have bx1_ : 0 ≤ S_.1 8 0 11 ∧ S_.1 8 0 11 ≤ 4712 := hI_.1 8 0 11 rfl
      refine sm_T_go 3 (c1 := (39, [some (.inr (.inr (some (8, 0)))), some (.inl a1_), some (.inl a2_), some (.inl k_), none, none, none, none], [.inl (S_.1 8 0 11), .inl k_], S_)) rfl ?_
      refine sm_T_br (a := 3) (z := 21) rfl (fun cx2_ => ?_) (fun cx2_ => ?_)
      · have cx2_ : (S_.1 8 0 11) ≤ k_ := of_decide_eq_true cx2_
        have hIx3_ : gi (sm_pI S_ 8 0 6 (S_.1 8 0 11)) := gi_pI hI_ (show 0 ≤ (S_.1 8 0 11) ∧ (S_.1 8 0 11) ≤ 4712 from ⟨by omega, by omega⟩)
        have hFx4_ : ai_fr (sx_W vw_161) S0_ (sm_pI S_ 8 0 6 (S_.1 8 0 11)) := ai_fr_tr hF_ (ai_fr_pI rfl)
        have hIx5_ : gi (sm_pI (sm_pI S_ 8 0 6 (S_.1 8 0 11)) 8 0 8 0) := gi_pI hIx3_ (show 0 ≤ 0 ∧ 0 ≤ 4712 from ⟨by omega, by omega⟩)
        have hFx6_ : ai_fr (sx_W vw_161) S0_ (sm_pI (sm_pI S_ 8 0 6 (S_.1 8 0 11)) 8 0 8 0) := ai_fr_tr hFx4_ (ai_fr_pI rfl)
        refine sm_T_go 13 (c1 := (81, [some (.inr (.inr (some (8, 0)))), some (.inl a1_), some (.inl a2_), some (.inl 0), some (.inl 0), some (.inl 0), none, none], [], sm_pI (sm_pI S_ 8 0 6 (S_.1 8 0 11)) 8 0 8 0)) rfl ?_
        refine ih_.2 0 0 0 (sm_pI (sm_pI S_ 8 0 6 (S_.1 8 0 11)) 8 0 8 0) hIx5_ hFx6_ ⟨?_, ?_, trivial⟩ ?_
        · (simp only [rf_eq, rf_nk, ne_eq, Nat.reduceEqDiff, not_false_eq_true]; omega)
        · refine rsp_0 (show 0 ≤ S_.1 8 0 2 from cL_.1) (fun p_ hp9_ => hd_ p_ (by rw [← e2_]; exact hp9_)) (fun p_ hp9_ => ?_) ?_ rfl (fun i_ hi_ => ?_)
          · have y_ := hz_ p_ (by rw [← e2_]; exact hp9_)
            have x_ : S_.2.2.1 22 (0 + bb_) p_ = S0_.2.2.1 22 (0 + bb_) p_ := by rw [e22_]
            show S_.2.2.1 86 0 p_ = 0 ↔ S_.2.2.1 22 (0 + bb_) p_ = a1_
            rw [y_, x_]
            constructor
            · rintro ⟨i_, hi_, e_⟩; have w_ := (ht_.2.1 i_ (by omega)).2; rw [e_] at w_; exact w_
            · intro w_; obtain ⟨i_, hi_, e_⟩ := ht_.2.2 p_ (by rw [← e2_]; exact hp9_) w_; exact ⟨i_, by omega, e_⟩
          · show S_.1 8 0 11 = (cne (S_.2.2.1 22 (0 + bb_)) a1_ (2 * S_.1 8 0 2).toNat : Int)
            rw [eb_, e22_, e2_]; exact ht_.1
          · have hi9_ : (i_ : Int) < S_.1 8 0 11 := hi_
            have w_ := ht_.2.1 i_ (by omega)
            have x_ : S_.2.2.1 87 0 i_ = S0_.2.2.1 90 0 i_ := hc_ i_ (by omega)
            show (0 ≤ S_.2.2.1 87 0 i_ ∧ S_.2.2.1 87 0 i_ < 2 * S_.1 8 0 2) ∧ S_.2.2.1 22 (0 + bb_) (S_.2.2.1 87 0 i_).toNat = a1_
            rw [x_, e2_, e22_]; exact w_
        · omega
      · have cx2_ : ¬ ((S_.1 8 0 11) ≤ k_) := of_decide_eq_false cx2_
        have t9_ := ht_.2.1 k_.toNat (by omega)
        rw [← e90_] at t9_
        refine sm_T_go 5 (c1 := (51, [some (.inr (.inr (some (8, 0)))), some (.inl a1_), some (.inl a2_), some (.inl k_), none, none, none, none], [.inl k_, .inr (.inr (some (90, 0))), .inr (.inr (some (86, 0)))], S_)) rfl ?_
        refine sm_T_iald (n := 4712) rfl rfl (by omega) (by omega) ?_
        have bx7_ : 0 ≤ S_.2.2.1 90 0 k_.toNat ∧ S_.2.2.1 90 0 k_.toNat ≤ 4711 := hI_.2 90 0 _
        refine sm_T_go 1 (c1 := (53, [some (.inr (.inr (some (8, 0)))), some (.inl a1_), some (.inl a2_), some (.inl k_), none, none, none, none], [.inl 0, .inl (S_.2.2.1 90 0 k_.toNat), .inr (.inr (some (86, 0)))], S_)) rfl ?_
        refine sm_T_iast (n := 4712) rfl rfl (by omega) (by omega) ?_
        have hIx8_ : gi (sm_aI S_ 86 0 (S_.2.2.1 90 0 k_.toNat).toNat 0) := gi_aI hI_ (show (-1) ≤ 0 ∧ 0 ≤ 100000 from ⟨by omega, by omega⟩)
        have hFx9_ : ai_fr (sx_W vw_161) S0_ (sm_aI S_ 86 0 (S_.2.2.1 90 0 k_.toNat).toNat 0) := ai_fr_tr hF_ (ai_fr_aI rfl)
        refine sm_T_inc (a := 3) (z := 1) (v := k_) (w := k_ + 1) rfl rfl (by omega) (by omega) (by omega) ?_ -- pc_ 54
        refine sm_T_go 1 (c1 := (34, [some (.inr (.inr (some (8, 0)))), some (.inl a1_), some (.inl a2_), some (.inl (k_ + 1)), none, none, none, none], [], sm_aI S_ 86 0 (S_.2.2.1 90 0 k_.toNat).toNat 0)) rfl ?_
        refine ih_.1 (k_ + 1) (sm_aI S_ 86 0 (S_.2.2.1 90 0 k_.toNat).toNat 0) hIx8_ hFx9_ ⟨?_, ?_, ?_, ?_, trivial⟩ ?_
        · omega
        · intro p_ hp9_
          rw [rd_eq]
          split
          · right; rfl
          · exact hd_ p_ hp9_
        · intro p_ hp9_
          rw [rd_eq, e90_] at *
          by_cases y_ : p_ = (S0_.2.2.1 90 0 k_.toNat).toNat
          · rw [if_pos y_]
            exact ⟨fun _ => ⟨k_.toNat, by omega, by omega⟩, fun _ => rfl⟩
          · rw [if_neg y_, hz_ p_ hp9_]
            constructor
            · rintro ⟨i_, hi_, e_⟩; exact ⟨i_, by omega, e_⟩
            · rintro ⟨i_, hi_, e_⟩
              refine ⟨i_, ?_, e_⟩
              by_cases x_ : (i_ : Int) = k_
              · exfalso; rw [show i_ = k_.toNat by omega] at e_; omega
              · omega
        · intro i_ hi_
          rw [rd_ne (by decide)]
          exact hc_ i_ hi_
        · omega
    · rintro nh_ fh_ gd_ S_ hI_ hF_ ⟨h0_, hr_, -⟩ hm_
      have e2_ : S_.1 8 0 2 = S0_.1 8 0 2 := hF_.1 8 0 2 rfl
      have eb_ : S_.1 8 0 11 = S0_.1 8 0 11 := hF_.1 8 0 11 rfl
      have e90_ : S_.2.2.1 90 0 = S0_.2.2.1 90 0 := fr_arr hF_ rfl
      have e22_ : S_.2.2.1 22 (0 + bb_) = S0_.2.2.1 22 (0 + bb_) := fr_arr hF_ rfl
      have cL_ : 0 ≤ S_.1 8 0 2 ∧ S_.1 8 0 2 ≤ 2356 := hI_.1 8 0 2 rfl
      have ct : 0 ≤ S_.1 8 0 11 ∧ S_.1 8 0 11 ≤ 4712 := hI_.1 8 0 11 rfl
      have c6_ : 0 ≤ S_.1 8 0 6 ∧ S_.1 8 0 6 ≤ 4712 := hI_.1 8 0 6 rfl
      have c8_ : 0 ≤ S_.1 8 0 8 ∧ S_.1 8 0 8 ≤ 4712 := hI_.1 8 0 8 rfl
      have bx1_ : 0 ≤ S_.1 8 0 2 ∧ S_.1 8 0 2 ≤ 2356 := hI_.1 8 0 2 rfl
      refine sm_T_go 4 (c1 := (88, [some (.inr (.inr (some (8, 0)))), some (.inl a1_), some (.inl a2_), some (.inl nh_), some (.inl fh_), some (.inl gd_), none, none], [.inl (S_.1 8 0 2), .inl 2, .inl gd_], S_)) rfl ?_
      refine sm_T_bin (w := 2 * (S_.1 8 0 2)) rfl (bi_mul (by omega) (by omega) (by omega)) ?_ -- pc_ 88
      refine sm_T_br (a := 3) (z := 158) rfl (fun cx2_ => ?_) (fun cx2_ => ?_)
      · have cx2_ : 2 * (S_.1 8 0 2) ≤ gd_ := of_decide_eq_true cx2_
        refine sm_T_go 1 (c1 := (248, [some (.inr (.inr (some (8, 0)))), some (.inl a1_), some (.inl a2_), some (.inl nh_), some (.inl fh_), some (.inl gd_), none, none], [.inl (-1)], S_)) rfl ?_
        refine sm_T_ri rfl ⟨_, _, rfl, _, rfl, hI_, hF_, ?_⟩
        (left; rfl)
      · have cx2_ : ¬ (2 * (S_.1 8 0 2) ≤ gd_) := of_decide_eq_false cx2_
        have bx3_ : 0 ≤ S_.1 8 0 6 ∧ S_.1 8 0 6 ≤ 4712 := hI_.1 8 0 6 rfl
        refine sm_T_go 3 (c1 := (97, [some (.inr (.inr (some (8, 0)))), some (.inl a1_), some (.inl a2_), some (.inl nh_), some (.inl fh_), some (.inl gd_), none, none], [.inl (S_.1 8 0 6), .inl nh_], S_)) rfl ?_
        refine sm_T_br (a := 3) (z := 42) rfl (fun cx4_ => ?_) (fun cx4_ => ?_)
        · have cx4_ : (S_.1 8 0 6) ≤ nh_ := of_decide_eq_true cx4_
          have bx5_ : 0 ≤ S_.1 8 0 8 ∧ S_.1 8 0 8 ≤ 4712 := hI_.1 8 0 8 rfl
          refine sm_T_go 7 (c1 := (153, [some (.inr (.inr (some (8, 0)))), some (.inl a1_), some (.inl a2_), some (.inl nh_), some (.inl fh_), some (.inl gd_), some (.inl 0), none], [.inl (S_.1 8 0 8), .inl fh_], S_)) rfl ?_
          refine sm_T_br (a := 1) (z := 5) rfl (fun cx6_ => ?_) (fun cx6_ => ?_)
          · have cx6_ : fh_ ≠ (S_.1 8 0 8) := of_decide_eq_true cx6_
            have d2_ := hr_.2.2.2.2.1 fh_.toNat (by omega)
            refine sm_T_go 5 (c1 := (178, [some (.inr (.inr (some (8, 0)))), some (.inl a1_), some (.inl a2_), some (.inl nh_), some (.inl fh_), some (.inl gd_), some (.inl 0), none], [.inl fh_, .inr (.inr (some (88, 0)))], S_)) rfl ?_
            refine sm_T_iald (n := 4712) rfl rfl (by omega) (by omega) ?_
            have bx7_ : 0 ≤ S_.2.2.1 88 0 fh_.toNat ∧ S_.2.2.1 88 0 fh_.toNat ≤ 4711 := hI_.2 88 0 _
            refine sm_T_go 3 (c1 := (192, [some (.inr (.inr (some (8, 0)))), some (.inl a1_), some (.inl a2_), some (.inl nh_), some (.inl fh_), some (.inl gd_), some (.inl 0), some (.inl (S_.2.2.1 88 0 fh_.toNat))], [], S_)) rfl ?_
            refine sm_T_inc (a := 4) (z := 1) (v := fh_) (w := fh_ + 1) rfl rfl (by omega) (by omega) (by omega) ?_ -- pc_ 192
            refine sm_T_go 3 (c1 := (201, [some (.inr (.inr (some (8, 0)))), some (.inl a1_), some (.inl a2_), some (.inl nh_), some (.inl (fh_ + 1)), some (.inl gd_), some (.inl 0), some (.inl (S_.2.2.1 88 0 fh_.toNat))], [.inl (S_.2.2.1 88 0 fh_.toNat), .inr (.inr (some (85, 0)))], S_)) rfl ?_
            refine sm_T_iald (n := 4712) rfl rfl (by omega) (by omega) ?_
            have bx8_ : (-1) ≤ S_.2.2.1 85 0 (S_.2.2.1 88 0 fh_.toNat).toNat ∧ S_.2.2.1 85 0 (S_.2.2.1 88 0 fh_.toNat).toNat ≤ 161 := hI_.2 85 0 _
            refine sm_T_go 1 (c1 := (203, [some (.inr (.inr (some (8, 0)))), some (.inl a1_), some (.inl a2_), some (.inl nh_), some (.inl (fh_ + 1)), some (.inl gd_), some (.inl 0), some (.inl (S_.2.2.1 88 0 fh_.toNat))], [.inl a1_, .inl (S_.2.2.1 85 0 (S_.2.2.1 88 0 fh_.toNat).toNat)], S_)) rfl ?_
            refine sm_T_br (a := 1) (z := 30) rfl (fun cx9_ => ?_) (fun cx9_ => ?_)
            · have cx9_ : (S_.2.2.1 85 0 (S_.2.2.1 88 0 fh_.toNat).toNat) ≠ a1_ := of_decide_eq_true cx9_
              refine sm_T_go 4 (c1 := (238, [some (.inr (.inr (some (8, 0)))), some (.inl a1_), some (.inl a2_), some (.inl nh_), some (.inl (fh_ + 1)), some (.inl gd_), some (.inl 0), some (.inl (S_.2.2.1 88 0 fh_.toNat))], [.inl a2_, .inl a1_, .inl (S_.2.2.1 88 0 fh_.toNat), .inr (.inr (some (8, 0)))], S_)) rfl ?_
              refine sm_T_cal (d1 := 1) (Q1 := vq_162 (S_.2.2.1 88 0 fh_.toNat) a1_ a2_ bb_ S_) rfl rfl (by decide) (vc_162 (S_.2.2.1 88 0 fh_.toNat) a1_ a2_ bb_ S_ hI_ (by exact (hF_.2.1 8 0 0 rfl).trans hb_) (by exact rgw_fr hg_ hF_) (by exact hr_) (by omega) (by omega) (by omega)) (fun u_ Sx10_ px13_ => ?_)
              obtain ⟨rfl, hIx11_, hFx12_, px13_⟩ := px13_
              have hFx14_ : ai_fr (sx_W vw_161) S0_ Sx10_ := ai_fr_tr hF_ (fr_le hFx12_ rfl)
              have ex15_ : Sx10_.1 8 0 2 = S_.1 8 0 2 := hFx12_.1 8 0 2 rfl
              have s9_ := px13_.1
              have s8_ := px13_.2.2
              refine sm_T_inc (a := 5) (z := 1) (v := gd_) (w := gd_ + 1) rfl rfl (by omega) (by omega) (by omega) ?_ -- pc_ 241
              refine sm_T_go 1 (c1 := (81, [some (.inr (.inr (some (8, 0)))), some (.inl a1_), some (.inl a2_), some (.inl nh_), some (.inl (fh_ + 1)), some (.inl (gd_ + 1)), some (.inl 0), some (.inl (S_.2.2.1 88 0 fh_.toNat))], [], Sx10_)) rfl ?_
              refine sm_T_wk [some (.inr (.inr (some (8, 0)))), some (.inl a1_), some (.inl a2_), some (.inl nh_), some (.inl (fh_ + 1)), some (.inl (gd_ + 1)), none, none] (by exact ⟨rfl, rfl, rfl, rfl, rfl, rfl, trivial⟩) ?_
              refine ih_.2 nh_ (fh_ + 1) (gd_ + 1) Sx10_ hIx11_ hFx14_ ⟨?_, ?_, trivial⟩ ?_
              · omega
              · exact s9_
              · omega
            · have cx9_ : ¬ ((S_.2.2.1 85 0 (S_.2.2.1 88 0 fh_.toNat).toNat) ≠ a1_) := of_decide_eq_false cx9_
              refine sm_T_go 1 (c1 := (207, [some (.inr (.inr (some (8, 0)))), some (.inl a1_), some (.inl a2_), some (.inl nh_), some (.inl (fh_ + 1)), some (.inl gd_), some (.inl 0), some (.inl (S_.2.2.1 88 0 fh_.toNat))], [.inr (.inr (some (8, 0)))], S_)) rfl ?_
              refine sm_T_gr rfl rfl ((hF_.2.1 8 0 0 rfl).trans hb_) ?_
              refine sm_T_go 2 (c1 := (215, [some (.inr (.inr (some (8, 0)))), some (.inl a1_), some (.inl a2_), some (.inl nh_), some (.inl (fh_ + 1)), some (.inl gd_), some (.inl 0), some (.inl (S_.2.2.1 88 0 fh_.toNat))], [.inl (S_.2.2.1 88 0 fh_.toNat), .inr (.inr (some (22, (0 + bb_))))], S_)) rfl ?_
              refine sm_T_iald (n := 4712) rfl rfl (by omega) (by omega) ?_
              have bx16_ : (-1) ≤ S_.2.2.1 22 (0 + bb_) (S_.2.2.1 88 0 fh_.toNat).toNat ∧ S_.2.2.1 22 (0 + bb_) (S_.2.2.1 88 0 fh_.toNat).toNat ≤ 161 := hI_.2 22 (0 + bb_) _
              refine sm_T_go 1 (c1 := (217, [some (.inr (.inr (some (8, 0)))), some (.inl a1_), some (.inl a2_), some (.inl nh_), some (.inl (fh_ + 1)), some (.inl gd_), some (.inl 0), some (.inl (S_.2.2.1 88 0 fh_.toNat))], [.inl a1_, .inl (S_.2.2.1 22 (0 + bb_) (S_.2.2.1 88 0 fh_.toNat).toNat)], S_)) rfl ?_
              refine sm_T_br (a := 0) (z := 16) rfl (fun cx17_ => ?_) (fun cx17_ => ?_)
              · have cx17_ : (S_.2.2.1 22 (0 + bb_) (S_.2.2.1 88 0 fh_.toNat).toNat) = a1_ := of_decide_eq_true cx17_
                refine sm_T_go 4 (c1 := (238, [some (.inr (.inr (some (8, 0)))), some (.inl a1_), some (.inl a2_), some (.inl nh_), some (.inl (fh_ + 1)), some (.inl gd_), some (.inl 0), some (.inl (S_.2.2.1 88 0 fh_.toNat))], [.inl a2_, .inl a1_, .inl (S_.2.2.1 88 0 fh_.toNat), .inr (.inr (some (8, 0)))], S_)) rfl ?_
                refine sm_T_cal (d1 := 1) (Q1 := vq_162 (S_.2.2.1 88 0 fh_.toNat) a1_ a2_ bb_ S_) rfl rfl (by decide) (vc_162 (S_.2.2.1 88 0 fh_.toNat) a1_ a2_ bb_ S_ hI_ (by exact (hF_.2.1 8 0 0 rfl).trans hb_) (by exact rgw_fr hg_ hF_) (by exact hr_) (by omega) (by omega) (by omega)) (fun u_ Sx18_ px21_ => ?_)
                obtain ⟨rfl, hIx19_, hFx20_, px21_⟩ := px21_
                have hFx22_ : ai_fr (sx_W vw_161) S0_ Sx18_ := ai_fr_tr hF_ (fr_le hFx20_ rfl)
                have ex23_ : Sx18_.1 8 0 2 = S_.1 8 0 2 := hFx20_.1 8 0 2 rfl
                have s9_ := px21_.1
                have s8_ := px21_.2.2
                refine sm_T_inc (a := 5) (z := 1) (v := gd_) (w := gd_ + 1) rfl rfl (by omega) (by omega) (by omega) ?_ -- pc_ 241
                refine sm_T_go 1 (c1 := (81, [some (.inr (.inr (some (8, 0)))), some (.inl a1_), some (.inl a2_), some (.inl nh_), some (.inl (fh_ + 1)), some (.inl (gd_ + 1)), some (.inl 0), some (.inl (S_.2.2.1 88 0 fh_.toNat))], [], Sx18_)) rfl ?_
                refine sm_T_wk [some (.inr (.inr (some (8, 0)))), some (.inl a1_), some (.inl a2_), some (.inl nh_), some (.inl (fh_ + 1)), some (.inl (gd_ + 1)), none, none] (by exact ⟨rfl, rfl, rfl, rfl, rfl, rfl, trivial⟩) ?_
                refine ih_.2 nh_ (fh_ + 1) (gd_ + 1) Sx18_ hIx19_ hFx22_ ⟨?_, ?_, trivial⟩ ?_
                · omega
                · exact s9_
                · omega
              · have cx17_ : ¬ ((S_.2.2.1 22 (0 + bb_) (S_.2.2.1 88 0 fh_.toNat).toNat) = a1_) := of_decide_eq_false cx17_
                refine sm_T_go 5 (c1 := (228, [some (.inr (.inr (some (8, 0)))), some (.inl a1_), some (.inl a2_), some (.inl nh_), some (.inl (fh_ + 1)), some (.inl gd_), some (.inl 0), some (.inl (S_.2.2.1 88 0 fh_.toNat))], [.inl (S_.2.2.1 88 0 fh_.toNat), .inr (.inr (some (86, 0))), .inl a1_, .inr (.inr (some (8, 0)))], S_)) rfl ?_
                refine sm_T_iald (n := 4712) rfl rfl (by omega) (by omega) ?_
                have bx24_ : (-1) ≤ S_.2.2.1 86 0 (S_.2.2.1 88 0 fh_.toNat).toNat ∧ S_.2.2.1 86 0 (S_.2.2.1 88 0 fh_.toNat).toNat ≤ 100000 := hI_.2 86 0 _
                refine sm_T_cal (d1 := 2) (Q1 := vq_158 a1_ (S_.2.2.1 86 0 (S_.2.2.1 88 0 fh_.toNat).toNat) bb_ S_) rfl rfl (by decide) (vc_158 a1_ (S_.2.2.1 86 0 (S_.2.2.1 88 0 fh_.toNat).toNat) bb_ S_ hI_ (by exact (hF_.2.1 8 0 0 rfl).trans hb_) (by omega) (by exact bpn_fr hn_ hF_ rfl rfl rfl rfl) (by exact rpt_fr hp_ hF_)) (fun u_ Sx25_ px28_ => ?_)
                obtain ⟨rfl, vx30_, rfl, px28_⟩ := px28_
                have n9_ := px28_
                have k9_ : S_.2.2.1 86 0 (vx30_).toNat = 0 → S_.2.2.1 22 (0 + bb_) (vx30_).toNat ≠ a1_ → 0 ≤ vx30_ → vx30_ < 2 * S_.1 8 0 2 → False := fun y_ w_ z1_ z2_ => w_ ((hr_.1 _ (by omega)).mp y_)
                refine sm_T_ri rfl ⟨_, _, rfl, _, rfl, hI_, hF_, ?_⟩
                rcases n9_ with u9_ | u9_
                · left; exact u9_.1
                · right
                  obtain ⟨v1_, v2_, v3_⟩ := u9_
                  rcases v3_ with v3_ | v3_
                  · exfalso; omega
                  · refine ⟨by omega, hr_, ?_, v2_⟩
                    exact Decidable.byContradiction fun q9_ => k9_ (by omega) v2_ (by omega) (by omega)
          · have cx6_ : ¬ (fh_ ≠ (S_.1 8 0 8)) := of_decide_eq_false cx6_
            refine sm_T_go 1 (c1 := (157, [some (.inr (.inr (some (8, 0)))), some (.inl a1_), some (.inl a2_), some (.inl nh_), some (.inl fh_), some (.inl gd_), some (.inl 0), none], [.inl (-1)], S_)) rfl ?_
            refine sm_T_ri rfl ⟨_, _, rfl, _, rfl, hI_, hF_, ?_⟩
            (left; rfl)
        · have cx4_ : ¬ ((S_.1 8 0 6) ≤ nh_) := of_decide_eq_false cx4_
          have d1_ := hr_.2.2.2.1 nh_.toNat (by omega)
          have bx31_ : 0 ≤ S_.1 8 0 8 ∧ S_.1 8 0 8 ≤ 4712 := hI_.1 8 0 8 rfl
          refine sm_T_go 3 (c1 := (106, [some (.inr (.inr (some (8, 0)))), some (.inl a1_), some (.inl a2_), some (.inl nh_), some (.inl fh_), some (.inl gd_), none, none], [.inl (S_.1 8 0 8), .inl fh_], S_)) rfl ?_
          refine sm_T_br (a := 0) (z := 29) rfl (fun cx32_ => ?_) (fun cx32_ => ?_)
          · have cx32_ : fh_ = (S_.1 8 0 8) := of_decide_eq_true cx32_
            refine sm_T_go 10 (c1 := (168, [some (.inr (.inr (some (8, 0)))), some (.inl a1_), some (.inl a2_), some (.inl nh_), some (.inl fh_), some (.inl gd_), some (.inl 1), none], [.inl nh_, .inr (.inr (some (87, 0)))], S_)) rfl ?_
            refine sm_T_iald (n := 4712) rfl rfl (by omega) (by omega) ?_
            have bx33_ : 0 ≤ S_.2.2.1 87 0 nh_.toNat ∧ S_.2.2.1 87 0 nh_.toNat ≤ 4711 := hI_.2 87 0 _
            refine sm_T_go 4 (c1 := (186, [some (.inr (.inr (some (8, 0)))), some (.inl a1_), some (.inl a2_), some (.inl nh_), some (.inl fh_), some (.inl gd_), some (.inl 1), some (.inl (S_.2.2.1 87 0 nh_.toNat))], [], S_)) rfl ?_
            refine sm_T_inc (a := 3) (z := 1) (v := nh_) (w := nh_ + 1) rfl rfl (by omega) (by omega) (by omega) ?_ -- pc_ 186
            refine sm_T_go 4 (c1 := (201, [some (.inr (.inr (some (8, 0)))), some (.inl a1_), some (.inl a2_), some (.inl (nh_ + 1)), some (.inl fh_), some (.inl gd_), some (.inl 1), some (.inl (S_.2.2.1 87 0 nh_.toNat))], [.inl (S_.2.2.1 87 0 nh_.toNat), .inr (.inr (some (85, 0)))], S_)) rfl ?_
            refine sm_T_iald (n := 4712) rfl rfl (by omega) (by omega) ?_
            have bx34_ : (-1) ≤ S_.2.2.1 85 0 (S_.2.2.1 87 0 nh_.toNat).toNat ∧ S_.2.2.1 85 0 (S_.2.2.1 87 0 nh_.toNat).toNat ≤ 161 := hI_.2 85 0 _
            refine sm_T_go 1 (c1 := (203, [some (.inr (.inr (some (8, 0)))), some (.inl a1_), some (.inl a2_), some (.inl (nh_ + 1)), some (.inl fh_), some (.inl gd_), some (.inl 1), some (.inl (S_.2.2.1 87 0 nh_.toNat))], [.inl a1_, .inl (S_.2.2.1 85 0 (S_.2.2.1 87 0 nh_.toNat).toNat)], S_)) rfl ?_
            refine sm_T_br (a := 1) (z := 30) rfl (fun cx35_ => ?_) (fun cx35_ => ?_)
            · have cx35_ : (S_.2.2.1 85 0 (S_.2.2.1 87 0 nh_.toNat).toNat) ≠ a1_ := of_decide_eq_true cx35_
              refine sm_T_go 4 (c1 := (238, [some (.inr (.inr (some (8, 0)))), some (.inl a1_), some (.inl a2_), some (.inl (nh_ + 1)), some (.inl fh_), some (.inl gd_), some (.inl 1), some (.inl (S_.2.2.1 87 0 nh_.toNat))], [.inl a2_, .inl a1_, .inl (S_.2.2.1 87 0 nh_.toNat), .inr (.inr (some (8, 0)))], S_)) rfl ?_
              refine sm_T_cal (d1 := 1) (Q1 := vq_162 (S_.2.2.1 87 0 nh_.toNat) a1_ a2_ bb_ S_) rfl rfl (by decide) (vc_162 (S_.2.2.1 87 0 nh_.toNat) a1_ a2_ bb_ S_ hI_ (by exact (hF_.2.1 8 0 0 rfl).trans hb_) (by exact rgw_fr hg_ hF_) (by exact hr_) (by omega) (by omega) (by omega)) (fun u_ Sx36_ px39_ => ?_)
              obtain ⟨rfl, hIx37_, hFx38_, px39_⟩ := px39_
              have hFx40_ : ai_fr (sx_W vw_161) S0_ Sx36_ := ai_fr_tr hF_ (fr_le hFx38_ rfl)
              have ex41_ : Sx36_.1 8 0 2 = S_.1 8 0 2 := hFx38_.1 8 0 2 rfl
              have s9_ := px39_.1
              have s8_ := px39_.2.2
              refine sm_T_inc (a := 5) (z := 1) (v := gd_) (w := gd_ + 1) rfl rfl (by omega) (by omega) (by omega) ?_ -- pc_ 241
              refine sm_T_go 1 (c1 := (81, [some (.inr (.inr (some (8, 0)))), some (.inl a1_), some (.inl a2_), some (.inl (nh_ + 1)), some (.inl fh_), some (.inl (gd_ + 1)), some (.inl 1), some (.inl (S_.2.2.1 87 0 nh_.toNat))], [], Sx36_)) rfl ?_
              refine sm_T_wk [some (.inr (.inr (some (8, 0)))), some (.inl a1_), some (.inl a2_), some (.inl (nh_ + 1)), some (.inl fh_), some (.inl (gd_ + 1)), none, none] (by exact ⟨rfl, rfl, rfl, rfl, rfl, rfl, trivial⟩) ?_
              refine ih_.2 (nh_ + 1) fh_ (gd_ + 1) Sx36_ hIx37_ hFx40_ ⟨?_, ?_, trivial⟩ ?_
              · omega
              · exact s9_
              · omega
            · have cx35_ : ¬ ((S_.2.2.1 85 0 (S_.2.2.1 87 0 nh_.toNat).toNat) ≠ a1_) := of_decide_eq_false cx35_
              refine sm_T_go 1 (c1 := (207, [some (.inr (.inr (some (8, 0)))), some (.inl a1_), some (.inl a2_), some (.inl (nh_ + 1)), some (.inl fh_), some (.inl gd_), some (.inl 1), some (.inl (S_.2.2.1 87 0 nh_.toNat))], [.inr (.inr (some (8, 0)))], S_)) rfl ?_
              refine sm_T_gr rfl rfl ((hF_.2.1 8 0 0 rfl).trans hb_) ?_
              refine sm_T_go 2 (c1 := (215, [some (.inr (.inr (some (8, 0)))), some (.inl a1_), some (.inl a2_), some (.inl (nh_ + 1)), some (.inl fh_), some (.inl gd_), some (.inl 1), some (.inl (S_.2.2.1 87 0 nh_.toNat))], [.inl (S_.2.2.1 87 0 nh_.toNat), .inr (.inr (some (22, (0 + bb_))))], S_)) rfl ?_
              refine sm_T_iald (n := 4712) rfl rfl (by omega) (by omega) ?_
              have bx42_ : (-1) ≤ S_.2.2.1 22 (0 + bb_) (S_.2.2.1 87 0 nh_.toNat).toNat ∧ S_.2.2.1 22 (0 + bb_) (S_.2.2.1 87 0 nh_.toNat).toNat ≤ 161 := hI_.2 22 (0 + bb_) _
              refine sm_T_go 1 (c1 := (217, [some (.inr (.inr (some (8, 0)))), some (.inl a1_), some (.inl a2_), some (.inl (nh_ + 1)), some (.inl fh_), some (.inl gd_), some (.inl 1), some (.inl (S_.2.2.1 87 0 nh_.toNat))], [.inl a1_, .inl (S_.2.2.1 22 (0 + bb_) (S_.2.2.1 87 0 nh_.toNat).toNat)], S_)) rfl ?_
              refine sm_T_br (a := 0) (z := 16) rfl (fun cx43_ => ?_) (fun cx43_ => ?_)
              · have cx43_ : (S_.2.2.1 22 (0 + bb_) (S_.2.2.1 87 0 nh_.toNat).toNat) = a1_ := of_decide_eq_true cx43_
                refine sm_T_go 4 (c1 := (238, [some (.inr (.inr (some (8, 0)))), some (.inl a1_), some (.inl a2_), some (.inl (nh_ + 1)), some (.inl fh_), some (.inl gd_), some (.inl 1), some (.inl (S_.2.2.1 87 0 nh_.toNat))], [.inl a2_, .inl a1_, .inl (S_.2.2.1 87 0 nh_.toNat), .inr (.inr (some (8, 0)))], S_)) rfl ?_
                refine sm_T_cal (d1 := 1) (Q1 := vq_162 (S_.2.2.1 87 0 nh_.toNat) a1_ a2_ bb_ S_) rfl rfl (by decide) (vc_162 (S_.2.2.1 87 0 nh_.toNat) a1_ a2_ bb_ S_ hI_ (by exact (hF_.2.1 8 0 0 rfl).trans hb_) (by exact rgw_fr hg_ hF_) (by exact hr_) (by omega) (by omega) (by omega)) (fun u_ Sx44_ px47_ => ?_)
                obtain ⟨rfl, hIx45_, hFx46_, px47_⟩ := px47_
                have hFx48_ : ai_fr (sx_W vw_161) S0_ Sx44_ := ai_fr_tr hF_ (fr_le hFx46_ rfl)
                have ex49_ : Sx44_.1 8 0 2 = S_.1 8 0 2 := hFx46_.1 8 0 2 rfl
                have s9_ := px47_.1
                have s8_ := px47_.2.2
                refine sm_T_inc (a := 5) (z := 1) (v := gd_) (w := gd_ + 1) rfl rfl (by omega) (by omega) (by omega) ?_ -- pc_ 241
                refine sm_T_go 1 (c1 := (81, [some (.inr (.inr (some (8, 0)))), some (.inl a1_), some (.inl a2_), some (.inl (nh_ + 1)), some (.inl fh_), some (.inl (gd_ + 1)), some (.inl 1), some (.inl (S_.2.2.1 87 0 nh_.toNat))], [], Sx44_)) rfl ?_
                refine sm_T_wk [some (.inr (.inr (some (8, 0)))), some (.inl a1_), some (.inl a2_), some (.inl (nh_ + 1)), some (.inl fh_), some (.inl (gd_ + 1)), none, none] (by exact ⟨rfl, rfl, rfl, rfl, rfl, rfl, trivial⟩) ?_
                refine ih_.2 (nh_ + 1) fh_ (gd_ + 1) Sx44_ hIx45_ hFx48_ ⟨?_, ?_, trivial⟩ ?_
                · omega
                · exact s9_
                · omega
              · have cx43_ : ¬ ((S_.2.2.1 22 (0 + bb_) (S_.2.2.1 87 0 nh_.toNat).toNat) = a1_) := of_decide_eq_false cx43_
                refine sm_T_go 5 (c1 := (228, [some (.inr (.inr (some (8, 0)))), some (.inl a1_), some (.inl a2_), some (.inl (nh_ + 1)), some (.inl fh_), some (.inl gd_), some (.inl 1), some (.inl (S_.2.2.1 87 0 nh_.toNat))], [.inl (S_.2.2.1 87 0 nh_.toNat), .inr (.inr (some (86, 0))), .inl a1_, .inr (.inr (some (8, 0)))], S_)) rfl ?_
                refine sm_T_iald (n := 4712) rfl rfl (by omega) (by omega) ?_
                have bx50_ : (-1) ≤ S_.2.2.1 86 0 (S_.2.2.1 87 0 nh_.toNat).toNat ∧ S_.2.2.1 86 0 (S_.2.2.1 87 0 nh_.toNat).toNat ≤ 100000 := hI_.2 86 0 _
                refine sm_T_cal (d1 := 2) (Q1 := vq_158 a1_ (S_.2.2.1 86 0 (S_.2.2.1 87 0 nh_.toNat).toNat) bb_ S_) rfl rfl (by decide) (vc_158 a1_ (S_.2.2.1 86 0 (S_.2.2.1 87 0 nh_.toNat).toNat) bb_ S_ hI_ (by exact (hF_.2.1 8 0 0 rfl).trans hb_) (by omega) (by exact bpn_fr hn_ hF_ rfl rfl rfl rfl) (by exact rpt_fr hp_ hF_)) (fun u_ Sx51_ px54_ => ?_)
                obtain ⟨rfl, vx56_, rfl, px54_⟩ := px54_
                have n9_ := px54_
                have k9_ : S_.2.2.1 86 0 (vx56_).toNat = 0 → S_.2.2.1 22 (0 + bb_) (vx56_).toNat ≠ a1_ → 0 ≤ vx56_ → vx56_ < 2 * S_.1 8 0 2 → False := fun y_ w_ z1_ z2_ => w_ ((hr_.1 _ (by omega)).mp y_)
                refine sm_T_ri rfl ⟨_, _, rfl, _, rfl, hI_, hF_, ?_⟩
                rcases n9_ with u9_ | u9_
                · left; exact u9_.1
                · right
                  obtain ⟨v1_, v2_, v3_⟩ := u9_
                  rcases v3_ with v3_ | v3_
                  · exfalso; omega
                  · refine ⟨by omega, hr_, ?_, v2_⟩
                    exact Decidable.byContradiction fun q9_ => k9_ (by omega) v2_ (by omega) (by omega)
          · have cx32_ : ¬ (fh_ = (S_.1 8 0 8)) := of_decide_eq_false cx32_
            have d2_ := hr_.2.2.2.2.1 fh_.toNat (by omega)
            refine sm_T_go 5 (c1 := (118, [some (.inr (.inr (some (8, 0)))), some (.inl a1_), some (.inl a2_), some (.inl nh_), some (.inl fh_), some (.inl gd_), none, none], [.inl nh_, .inr (.inr (some (87, 0))), .inr (.inr (some (86, 0)))], S_)) rfl ?_
            refine sm_T_iald (n := 4712) rfl rfl (by omega) (by omega) ?_
            have bx57_ : 0 ≤ S_.2.2.1 87 0 nh_.toNat ∧ S_.2.2.1 87 0 nh_.toNat ≤ 4711 := hI_.2 87 0 _
            refine sm_T_iald (n := 4712) rfl rfl (by omega) (by omega) ?_
            have bx58_ : (-1) ≤ S_.2.2.1 86 0 (S_.2.2.1 87 0 nh_.toNat).toNat ∧ S_.2.2.1 86 0 (S_.2.2.1 87 0 nh_.toNat).toNat ≤ 100000 := hI_.2 86 0 _
            refine sm_T_go 5 (c1 := (130, [some (.inr (.inr (some (8, 0)))), some (.inl a1_), some (.inl a2_), some (.inl nh_), some (.inl fh_), some (.inl gd_), none, none], [.inl fh_, .inr (.inr (some (88, 0))), .inr (.inr (some (86, 0))), .inl (S_.2.2.1 86 0 (S_.2.2.1 87 0 nh_.toNat).toNat)], S_)) rfl ?_
            refine sm_T_iald (n := 4712) rfl rfl (by omega) (by omega) ?_
            have bx59_ : 0 ≤ S_.2.2.1 88 0 fh_.toNat ∧ S_.2.2.1 88 0 fh_.toNat ≤ 4711 := hI_.2 88 0 _
            refine sm_T_iald (n := 4712) rfl rfl (by omega) (by omega) ?_
            have bx60_ : (-1) ≤ S_.2.2.1 86 0 (S_.2.2.1 88 0 fh_.toNat).toNat ∧ S_.2.2.1 86 0 (S_.2.2.1 88 0 fh_.toNat).toNat ≤ 100000 := hI_.2 86 0 _
            refine sm_T_br (a := 4) (z := 7) rfl (fun cx61_ => ?_) (fun cx61_ => ?_)
            · have cx61_ : (S_.2.2.1 86 0 (S_.2.2.1 88 0 fh_.toNat).toNat) < (S_.2.2.1 86 0 (S_.2.2.1 87 0 nh_.toNat).toNat) := of_decide_eq_true cx61_
              refine sm_T_go 7 (c1 := (153, [some (.inr (.inr (some (8, 0)))), some (.inl a1_), some (.inl a2_), some (.inl nh_), some (.inl fh_), some (.inl gd_), some (.inl 0), none], [.inl (S_.1 8 0 8), .inl fh_], S_)) rfl ?_
              refine sm_T_br (a := 1) (z := 5) rfl (fun cx62_ => ?_) (fun cx62_ => ?_)
              · have cx62_ : fh_ ≠ (S_.1 8 0 8) := of_decide_eq_true cx62_
                have d2_ := hr_.2.2.2.2.1 fh_.toNat (by omega)
                refine sm_T_go 5 (c1 := (178, [some (.inr (.inr (some (8, 0)))), some (.inl a1_), some (.inl a2_), some (.inl nh_), some (.inl fh_), some (.inl gd_), some (.inl 0), none], [.inl fh_, .inr (.inr (some (88, 0)))], S_)) rfl ?_
                refine sm_T_iald (n := 4712) rfl rfl (by omega) (by omega) ?_
                refine sm_T_go 3 (c1 := (192, [some (.inr (.inr (some (8, 0)))), some (.inl a1_), some (.inl a2_), some (.inl nh_), some (.inl fh_), some (.inl gd_), some (.inl 0), some (.inl (S_.2.2.1 88 0 fh_.toNat))], [], S_)) rfl ?_
                refine sm_T_inc (a := 4) (z := 1) (v := fh_) (w := fh_ + 1) rfl rfl (by omega) (by omega) (by omega) ?_ -- pc_ 192
                refine sm_T_go 3 (c1 := (201, [some (.inr (.inr (some (8, 0)))), some (.inl a1_), some (.inl a2_), some (.inl nh_), some (.inl (fh_ + 1)), some (.inl gd_), some (.inl 0), some (.inl (S_.2.2.1 88 0 fh_.toNat))], [.inl (S_.2.2.1 88 0 fh_.toNat), .inr (.inr (some (85, 0)))], S_)) rfl ?_
                refine sm_T_iald (n := 4712) rfl rfl (by omega) (by omega) ?_
                have bx63_ : (-1) ≤ S_.2.2.1 85 0 (S_.2.2.1 88 0 fh_.toNat).toNat ∧ S_.2.2.1 85 0 (S_.2.2.1 88 0 fh_.toNat).toNat ≤ 161 := hI_.2 85 0 _
                refine sm_T_go 1 (c1 := (203, [some (.inr (.inr (some (8, 0)))), some (.inl a1_), some (.inl a2_), some (.inl nh_), some (.inl (fh_ + 1)), some (.inl gd_), some (.inl 0), some (.inl (S_.2.2.1 88 0 fh_.toNat))], [.inl a1_, .inl (S_.2.2.1 85 0 (S_.2.2.1 88 0 fh_.toNat).toNat)], S_)) rfl ?_
                refine sm_T_br (a := 1) (z := 30) rfl (fun cx64_ => ?_) (fun cx64_ => ?_)
                · have cx64_ : (S_.2.2.1 85 0 (S_.2.2.1 88 0 fh_.toNat).toNat) ≠ a1_ := of_decide_eq_true cx64_
                  refine sm_T_go 4 (c1 := (238, [some (.inr (.inr (some (8, 0)))), some (.inl a1_), some (.inl a2_), some (.inl nh_), some (.inl (fh_ + 1)), some (.inl gd_), some (.inl 0), some (.inl (S_.2.2.1 88 0 fh_.toNat))], [.inl a2_, .inl a1_, .inl (S_.2.2.1 88 0 fh_.toNat), .inr (.inr (some (8, 0)))], S_)) rfl ?_
                  refine sm_T_cal (d1 := 1) (Q1 := vq_162 (S_.2.2.1 88 0 fh_.toNat) a1_ a2_ bb_ S_) rfl rfl (by decide) (vc_162 (S_.2.2.1 88 0 fh_.toNat) a1_ a2_ bb_ S_ hI_ (by exact (hF_.2.1 8 0 0 rfl).trans hb_) (by exact rgw_fr hg_ hF_) (by exact hr_) (by omega) (by omega) (by omega)) (fun u_ Sx65_ px68_ => ?_)
                  obtain ⟨rfl, hIx66_, hFx67_, px68_⟩ := px68_
                  have hFx69_ : ai_fr (sx_W vw_161) S0_ Sx65_ := ai_fr_tr hF_ (fr_le hFx67_ rfl)
                  have ex70_ : Sx65_.1 8 0 2 = S_.1 8 0 2 := hFx67_.1 8 0 2 rfl
                  have s9_ := px68_.1
                  have s8_ := px68_.2.2
                  refine sm_T_inc (a := 5) (z := 1) (v := gd_) (w := gd_ + 1) rfl rfl (by omega) (by omega) (by omega) ?_ -- pc_ 241
                  refine sm_T_go 1 (c1 := (81, [some (.inr (.inr (some (8, 0)))), some (.inl a1_), some (.inl a2_), some (.inl nh_), some (.inl (fh_ + 1)), some (.inl (gd_ + 1)), some (.inl 0), some (.inl (S_.2.2.1 88 0 fh_.toNat))], [], Sx65_)) rfl ?_
                  refine sm_T_wk [some (.inr (.inr (some (8, 0)))), some (.inl a1_), some (.inl a2_), some (.inl nh_), some (.inl (fh_ + 1)), some (.inl (gd_ + 1)), none, none] (by exact ⟨rfl, rfl, rfl, rfl, rfl, rfl, trivial⟩) ?_
                  refine ih_.2 nh_ (fh_ + 1) (gd_ + 1) Sx65_ hIx66_ hFx69_ ⟨?_, ?_, trivial⟩ ?_
                  · omega
                  · exact s9_
                  · omega
                · have cx64_ : ¬ ((S_.2.2.1 85 0 (S_.2.2.1 88 0 fh_.toNat).toNat) ≠ a1_) := of_decide_eq_false cx64_
                  refine sm_T_go 1 (c1 := (207, [some (.inr (.inr (some (8, 0)))), some (.inl a1_), some (.inl a2_), some (.inl nh_), some (.inl (fh_ + 1)), some (.inl gd_), some (.inl 0), some (.inl (S_.2.2.1 88 0 fh_.toNat))], [.inr (.inr (some (8, 0)))], S_)) rfl ?_
                  refine sm_T_gr rfl rfl ((hF_.2.1 8 0 0 rfl).trans hb_) ?_
                  refine sm_T_go 2 (c1 := (215, [some (.inr (.inr (some (8, 0)))), some (.inl a1_), some (.inl a2_), some (.inl nh_), some (.inl (fh_ + 1)), some (.inl gd_), some (.inl 0), some (.inl (S_.2.2.1 88 0 fh_.toNat))], [.inl (S_.2.2.1 88 0 fh_.toNat), .inr (.inr (some (22, (0 + bb_))))], S_)) rfl ?_
                  refine sm_T_iald (n := 4712) rfl rfl (by omega) (by omega) ?_
                  have bx71_ : (-1) ≤ S_.2.2.1 22 (0 + bb_) (S_.2.2.1 88 0 fh_.toNat).toNat ∧ S_.2.2.1 22 (0 + bb_) (S_.2.2.1 88 0 fh_.toNat).toNat ≤ 161 := hI_.2 22 (0 + bb_) _
                  refine sm_T_go 1 (c1 := (217, [some (.inr (.inr (some (8, 0)))), some (.inl a1_), some (.inl a2_), some (.inl nh_), some (.inl (fh_ + 1)), some (.inl gd_), some (.inl 0), some (.inl (S_.2.2.1 88 0 fh_.toNat))], [.inl a1_, .inl (S_.2.2.1 22 (0 + bb_) (S_.2.2.1 88 0 fh_.toNat).toNat)], S_)) rfl ?_
                  refine sm_T_br (a := 0) (z := 16) rfl (fun cx72_ => ?_) (fun cx72_ => ?_)
                  · have cx72_ : (S_.2.2.1 22 (0 + bb_) (S_.2.2.1 88 0 fh_.toNat).toNat) = a1_ := of_decide_eq_true cx72_
                    refine sm_T_go 4 (c1 := (238, [some (.inr (.inr (some (8, 0)))), some (.inl a1_), some (.inl a2_), some (.inl nh_), some (.inl (fh_ + 1)), some (.inl gd_), some (.inl 0), some (.inl (S_.2.2.1 88 0 fh_.toNat))], [.inl a2_, .inl a1_, .inl (S_.2.2.1 88 0 fh_.toNat), .inr (.inr (some (8, 0)))], S_)) rfl ?_
                    refine sm_T_cal (d1 := 1) (Q1 := vq_162 (S_.2.2.1 88 0 fh_.toNat) a1_ a2_ bb_ S_) rfl rfl (by decide) (vc_162 (S_.2.2.1 88 0 fh_.toNat) a1_ a2_ bb_ S_ hI_ (by exact (hF_.2.1 8 0 0 rfl).trans hb_) (by exact rgw_fr hg_ hF_) (by exact hr_) (by omega) (by omega) (by omega)) (fun u_ Sx73_ px76_ => ?_)
                    obtain ⟨rfl, hIx74_, hFx75_, px76_⟩ := px76_
                    have hFx77_ : ai_fr (sx_W vw_161) S0_ Sx73_ := ai_fr_tr hF_ (fr_le hFx75_ rfl)
                    have ex78_ : Sx73_.1 8 0 2 = S_.1 8 0 2 := hFx75_.1 8 0 2 rfl
                    have s9_ := px76_.1
                    have s8_ := px76_.2.2
                    refine sm_T_inc (a := 5) (z := 1) (v := gd_) (w := gd_ + 1) rfl rfl (by omega) (by omega) (by omega) ?_ -- pc_ 241
                    refine sm_T_go 1 (c1 := (81, [some (.inr (.inr (some (8, 0)))), some (.inl a1_), some (.inl a2_), some (.inl nh_), some (.inl (fh_ + 1)), some (.inl (gd_ + 1)), some (.inl 0), some (.inl (S_.2.2.1 88 0 fh_.toNat))], [], Sx73_)) rfl ?_
                    refine sm_T_wk [some (.inr (.inr (some (8, 0)))), some (.inl a1_), some (.inl a2_), some (.inl nh_), some (.inl (fh_ + 1)), some (.inl (gd_ + 1)), none, none] (by exact ⟨rfl, rfl, rfl, rfl, rfl, rfl, trivial⟩) ?_
                    refine ih_.2 nh_ (fh_ + 1) (gd_ + 1) Sx73_ hIx74_ hFx77_ ⟨?_, ?_, trivial⟩ ?_
                    · omega
                    · exact s9_
                    · omega
                  · have cx72_ : ¬ ((S_.2.2.1 22 (0 + bb_) (S_.2.2.1 88 0 fh_.toNat).toNat) = a1_) := of_decide_eq_false cx72_
                    refine sm_T_go 5 (c1 := (228, [some (.inr (.inr (some (8, 0)))), some (.inl a1_), some (.inl a2_), some (.inl nh_), some (.inl (fh_ + 1)), some (.inl gd_), some (.inl 0), some (.inl (S_.2.2.1 88 0 fh_.toNat))], [.inl (S_.2.2.1 88 0 fh_.toNat), .inr (.inr (some (86, 0))), .inl a1_, .inr (.inr (some (8, 0)))], S_)) rfl ?_
                    refine sm_T_iald (n := 4712) rfl rfl (by omega) (by omega) ?_
                    refine sm_T_cal (d1 := 2) (Q1 := vq_158 a1_ (S_.2.2.1 86 0 (S_.2.2.1 88 0 fh_.toNat).toNat) bb_ S_) rfl rfl (by decide) (vc_158 a1_ (S_.2.2.1 86 0 (S_.2.2.1 88 0 fh_.toNat).toNat) bb_ S_ hI_ (by exact (hF_.2.1 8 0 0 rfl).trans hb_) (by omega) (by exact bpn_fr hn_ hF_ rfl rfl rfl rfl) (by exact rpt_fr hp_ hF_)) (fun u_ Sx79_ px82_ => ?_)
                    obtain ⟨rfl, vx84_, rfl, px82_⟩ := px82_
                    have n9_ := px82_
                    have k9_ : S_.2.2.1 86 0 (vx84_).toNat = 0 → S_.2.2.1 22 (0 + bb_) (vx84_).toNat ≠ a1_ → 0 ≤ vx84_ → vx84_ < 2 * S_.1 8 0 2 → False := fun y_ w_ z1_ z2_ => w_ ((hr_.1 _ (by omega)).mp y_)
                    refine sm_T_ri rfl ⟨_, _, rfl, _, rfl, hI_, hF_, ?_⟩
                    rcases n9_ with u9_ | u9_
                    · left; exact u9_.1
                    · right
                      obtain ⟨v1_, v2_, v3_⟩ := u9_
                      rcases v3_ with v3_ | v3_
                      · exfalso; omega
                      · refine ⟨by omega, hr_, ?_, v2_⟩
                        exact Decidable.byContradiction fun q9_ => k9_ (by omega) v2_ (by omega) (by omega)
              · have cx62_ : ¬ (fh_ ≠ (S_.1 8 0 8)) := of_decide_eq_false cx62_
                refine sm_T_go 1 (c1 := (157, [some (.inr (.inr (some (8, 0)))), some (.inl a1_), some (.inl a2_), some (.inl nh_), some (.inl fh_), some (.inl gd_), some (.inl 0), none], [.inl (-1)], S_)) rfl ?_
                refine sm_T_ri rfl ⟨_, _, rfl, _, rfl, hI_, hF_, ?_⟩
                (left; rfl)
            · have cx61_ : ¬ ((S_.2.2.1 86 0 (S_.2.2.1 88 0 fh_.toNat).toNat) < (S_.2.2.1 86 0 (S_.2.2.1 87 0 nh_.toNat).toNat)) := of_decide_eq_false cx61_
              refine sm_T_go 10 (c1 := (168, [some (.inr (.inr (some (8, 0)))), some (.inl a1_), some (.inl a2_), some (.inl nh_), some (.inl fh_), some (.inl gd_), some (.inl 1), none], [.inl nh_, .inr (.inr (some (87, 0)))], S_)) rfl ?_
              refine sm_T_iald (n := 4712) rfl rfl (by omega) (by omega) ?_
              refine sm_T_go 4 (c1 := (186, [some (.inr (.inr (some (8, 0)))), some (.inl a1_), some (.inl a2_), some (.inl nh_), some (.inl fh_), some (.inl gd_), some (.inl 1), some (.inl (S_.2.2.1 87 0 nh_.toNat))], [], S_)) rfl ?_
              refine sm_T_inc (a := 3) (z := 1) (v := nh_) (w := nh_ + 1) rfl rfl (by omega) (by omega) (by omega) ?_ -- pc_ 186
              refine sm_T_go 4 (c1 := (201, [some (.inr (.inr (some (8, 0)))), some (.inl a1_), some (.inl a2_), some (.inl (nh_ + 1)), some (.inl fh_), some (.inl gd_), some (.inl 1), some (.inl (S_.2.2.1 87 0 nh_.toNat))], [.inl (S_.2.2.1 87 0 nh_.toNat), .inr (.inr (some (85, 0)))], S_)) rfl ?_
              refine sm_T_iald (n := 4712) rfl rfl (by omega) (by omega) ?_
              have bx85_ : (-1) ≤ S_.2.2.1 85 0 (S_.2.2.1 87 0 nh_.toNat).toNat ∧ S_.2.2.1 85 0 (S_.2.2.1 87 0 nh_.toNat).toNat ≤ 161 := hI_.2 85 0 _
              refine sm_T_go 1 (c1 := (203, [some (.inr (.inr (some (8, 0)))), some (.inl a1_), some (.inl a2_), some (.inl (nh_ + 1)), some (.inl fh_), some (.inl gd_), some (.inl 1), some (.inl (S_.2.2.1 87 0 nh_.toNat))], [.inl a1_, .inl (S_.2.2.1 85 0 (S_.2.2.1 87 0 nh_.toNat).toNat)], S_)) rfl ?_
              refine sm_T_br (a := 1) (z := 30) rfl (fun cx86_ => ?_) (fun cx86_ => ?_)
              · have cx86_ : (S_.2.2.1 85 0 (S_.2.2.1 87 0 nh_.toNat).toNat) ≠ a1_ := of_decide_eq_true cx86_
                refine sm_T_go 4 (c1 := (238, [some (.inr (.inr (some (8, 0)))), some (.inl a1_), some (.inl a2_), some (.inl (nh_ + 1)), some (.inl fh_), some (.inl gd_), some (.inl 1), some (.inl (S_.2.2.1 87 0 nh_.toNat))], [.inl a2_, .inl a1_, .inl (S_.2.2.1 87 0 nh_.toNat), .inr (.inr (some (8, 0)))], S_)) rfl ?_
                refine sm_T_cal (d1 := 1) (Q1 := vq_162 (S_.2.2.1 87 0 nh_.toNat) a1_ a2_ bb_ S_) rfl rfl (by decide) (vc_162 (S_.2.2.1 87 0 nh_.toNat) a1_ a2_ bb_ S_ hI_ (by exact (hF_.2.1 8 0 0 rfl).trans hb_) (by exact rgw_fr hg_ hF_) (by exact hr_) (by omega) (by omega) (by omega)) (fun u_ Sx87_ px90_ => ?_)
                obtain ⟨rfl, hIx88_, hFx89_, px90_⟩ := px90_
                have hFx91_ : ai_fr (sx_W vw_161) S0_ Sx87_ := ai_fr_tr hF_ (fr_le hFx89_ rfl)
                have ex92_ : Sx87_.1 8 0 2 = S_.1 8 0 2 := hFx89_.1 8 0 2 rfl
                have s9_ := px90_.1
                have s8_ := px90_.2.2
                refine sm_T_inc (a := 5) (z := 1) (v := gd_) (w := gd_ + 1) rfl rfl (by omega) (by omega) (by omega) ?_ -- pc_ 241
                refine sm_T_go 1 (c1 := (81, [some (.inr (.inr (some (8, 0)))), some (.inl a1_), some (.inl a2_), some (.inl (nh_ + 1)), some (.inl fh_), some (.inl (gd_ + 1)), some (.inl 1), some (.inl (S_.2.2.1 87 0 nh_.toNat))], [], Sx87_)) rfl ?_
                refine sm_T_wk [some (.inr (.inr (some (8, 0)))), some (.inl a1_), some (.inl a2_), some (.inl (nh_ + 1)), some (.inl fh_), some (.inl (gd_ + 1)), none, none] (by exact ⟨rfl, rfl, rfl, rfl, rfl, rfl, trivial⟩) ?_
                refine ih_.2 (nh_ + 1) fh_ (gd_ + 1) Sx87_ hIx88_ hFx91_ ⟨?_, ?_, trivial⟩ ?_
                · omega
                · exact s9_
                · omega
              · have cx86_ : ¬ ((S_.2.2.1 85 0 (S_.2.2.1 87 0 nh_.toNat).toNat) ≠ a1_) := of_decide_eq_false cx86_
                refine sm_T_go 1 (c1 := (207, [some (.inr (.inr (some (8, 0)))), some (.inl a1_), some (.inl a2_), some (.inl (nh_ + 1)), some (.inl fh_), some (.inl gd_), some (.inl 1), some (.inl (S_.2.2.1 87 0 nh_.toNat))], [.inr (.inr (some (8, 0)))], S_)) rfl ?_
                refine sm_T_gr rfl rfl ((hF_.2.1 8 0 0 rfl).trans hb_) ?_
                refine sm_T_go 2 (c1 := (215, [some (.inr (.inr (some (8, 0)))), some (.inl a1_), some (.inl a2_), some (.inl (nh_ + 1)), some (.inl fh_), some (.inl gd_), some (.inl 1), some (.inl (S_.2.2.1 87 0 nh_.toNat))], [.inl (S_.2.2.1 87 0 nh_.toNat), .inr (.inr (some (22, (0 + bb_))))], S_)) rfl ?_
                refine sm_T_iald (n := 4712) rfl rfl (by omega) (by omega) ?_
                have bx93_ : (-1) ≤ S_.2.2.1 22 (0 + bb_) (S_.2.2.1 87 0 nh_.toNat).toNat ∧ S_.2.2.1 22 (0 + bb_) (S_.2.2.1 87 0 nh_.toNat).toNat ≤ 161 := hI_.2 22 (0 + bb_) _
                refine sm_T_go 1 (c1 := (217, [some (.inr (.inr (some (8, 0)))), some (.inl a1_), some (.inl a2_), some (.inl (nh_ + 1)), some (.inl fh_), some (.inl gd_), some (.inl 1), some (.inl (S_.2.2.1 87 0 nh_.toNat))], [.inl a1_, .inl (S_.2.2.1 22 (0 + bb_) (S_.2.2.1 87 0 nh_.toNat).toNat)], S_)) rfl ?_
                refine sm_T_br (a := 0) (z := 16) rfl (fun cx94_ => ?_) (fun cx94_ => ?_)
                · have cx94_ : (S_.2.2.1 22 (0 + bb_) (S_.2.2.1 87 0 nh_.toNat).toNat) = a1_ := of_decide_eq_true cx94_
                  refine sm_T_go 4 (c1 := (238, [some (.inr (.inr (some (8, 0)))), some (.inl a1_), some (.inl a2_), some (.inl (nh_ + 1)), some (.inl fh_), some (.inl gd_), some (.inl 1), some (.inl (S_.2.2.1 87 0 nh_.toNat))], [.inl a2_, .inl a1_, .inl (S_.2.2.1 87 0 nh_.toNat), .inr (.inr (some (8, 0)))], S_)) rfl ?_
                  refine sm_T_cal (d1 := 1) (Q1 := vq_162 (S_.2.2.1 87 0 nh_.toNat) a1_ a2_ bb_ S_) rfl rfl (by decide) (vc_162 (S_.2.2.1 87 0 nh_.toNat) a1_ a2_ bb_ S_ hI_ (by exact (hF_.2.1 8 0 0 rfl).trans hb_) (by exact rgw_fr hg_ hF_) (by exact hr_) (by omega) (by omega) (by omega)) (fun u_ Sx95_ px98_ => ?_)
                  obtain ⟨rfl, hIx96_, hFx97_, px98_⟩ := px98_
                  have hFx99_ : ai_fr (sx_W vw_161) S0_ Sx95_ := ai_fr_tr hF_ (fr_le hFx97_ rfl)
                  have ex100_ : Sx95_.1 8 0 2 = S_.1 8 0 2 := hFx97_.1 8 0 2 rfl
                  have s9_ := px98_.1
                  have s8_ := px98_.2.2
                  refine sm_T_inc (a := 5) (z := 1) (v := gd_) (w := gd_ + 1) rfl rfl (by omega) (by omega) (by omega) ?_ -- pc_ 241
                  refine sm_T_go 1 (c1 := (81, [some (.inr (.inr (some (8, 0)))), some (.inl a1_), some (.inl a2_), some (.inl (nh_ + 1)), some (.inl fh_), some (.inl (gd_ + 1)), some (.inl 1), some (.inl (S_.2.2.1 87 0 nh_.toNat))], [], Sx95_)) rfl ?_
                  refine sm_T_wk [some (.inr (.inr (some (8, 0)))), some (.inl a1_), some (.inl a2_), some (.inl (nh_ + 1)), some (.inl fh_), some (.inl (gd_ + 1)), none, none] (by exact ⟨rfl, rfl, rfl, rfl, rfl, rfl, trivial⟩) ?_
                  refine ih_.2 (nh_ + 1) fh_ (gd_ + 1) Sx95_ hIx96_ hFx99_ ⟨?_, ?_, trivial⟩ ?_
                  · omega
                  · exact s9_
                  · omega
                · have cx94_ : ¬ ((S_.2.2.1 22 (0 + bb_) (S_.2.2.1 87 0 nh_.toNat).toNat) = a1_) := of_decide_eq_false cx94_
                  refine sm_T_go 5 (c1 := (228, [some (.inr (.inr (some (8, 0)))), some (.inl a1_), some (.inl a2_), some (.inl (nh_ + 1)), some (.inl fh_), some (.inl gd_), some (.inl 1), some (.inl (S_.2.2.1 87 0 nh_.toNat))], [.inl (S_.2.2.1 87 0 nh_.toNat), .inr (.inr (some (86, 0))), .inl a1_, .inr (.inr (some (8, 0)))], S_)) rfl ?_
                  refine sm_T_iald (n := 4712) rfl rfl (by omega) (by omega) ?_
                  refine sm_T_cal (d1 := 2) (Q1 := vq_158 a1_ (S_.2.2.1 86 0 (S_.2.2.1 87 0 nh_.toNat).toNat) bb_ S_) rfl rfl (by decide) (vc_158 a1_ (S_.2.2.1 86 0 (S_.2.2.1 87 0 nh_.toNat).toNat) bb_ S_ hI_ (by exact (hF_.2.1 8 0 0 rfl).trans hb_) (by omega) (by exact bpn_fr hn_ hF_ rfl rfl rfl rfl) (by exact rpt_fr hp_ hF_)) (fun u_ Sx101_ px104_ => ?_)
                  obtain ⟨rfl, vx106_, rfl, px104_⟩ := px104_
                  have n9_ := px104_
                  have k9_ : S_.2.2.1 86 0 (vx106_).toNat = 0 → S_.2.2.1 22 (0 + bb_) (vx106_).toNat ≠ a1_ → 0 ≤ vx106_ → vx106_ < 2 * S_.1 8 0 2 → False := fun y_ w_ z1_ z2_ => w_ ((hr_.1 _ (by omega)).mp y_)
                  refine sm_T_ri rfl ⟨_, _, rfl, _, rfl, hI_, hF_, ?_⟩
                  rcases n9_ with u9_ | u9_
                  · left; exact u9_.1
                  · right
                    obtain ⟨v1_, v2_, v3_⟩ := u9_
                    rcases v3_ with v3_ | v3_
                    · exfalso; omega
                    · refine ⟨by omega, hr_, ?_, v2_⟩
                      exact Decidable.byContradiction fun q9_ => k9_ (by omega) v2_ (by omega) (by omega)
set_option maxHeartbeats 3000000 in
set_option maxRecDepth 20000 in
theorem vc_161 {sc_ : Nat × (Nat → Int)} (a1_ : Int) (a2_ : Int) (bb_ : Nat) (S0_ : sm_S) (hI_ : gi S0_) (hb_ : S0_.2.1 8 0 0 = some bb_) (hg_ : rgw S0_) (h1_ : 0 ≤ a1_ ∧ a1_ ≤ 161) (hn_ : bpn bb_ S0_) (hp_ : rpt bb_ S0_) (ht_ : trt bb_ a1_ S0_) : sm_T (mt_P sc_) 3 161 (0, [some (.inr (.inr (some (8, 0)))), some (.inl a1_), some (.inl a2_), none, none, none, none, none], [], S0_) (fun ro9_ => ∃ u_ S1_, ro9_ = (.inl u_, S1_, 0) ∧ vq_161 a1_ a2_ bb_ S0_ u_ S1_) := by
  have hF_ : ai_fr (sx_W vw_161) S0_ S0_ := ai_fr_rf
  have cL_ : 0 ≤ S0_.1 8 0 2 ∧ S0_.1 8 0 2 ≤ 2356 := hI_.1 8 0 2 rfl
  have ct : 0 ≤ S0_.1 8 0 11 ∧ S0_.1 8 0 11 ≤ 4712 := hI_.1 8 0 11 rfl
  have bx1_ : 0 ≤ S0_.1 8 0 2 ∧ S0_.1 8 0 2 ≤ 2356 := hI_.1 8 0 2 rfl
  refine sm_T_go 6 (c1 := (10, [some (.inr (.inr (some (8, 0)))), some (.inl a1_), some (.inl a2_), none, none, none, none, none], [.inl (S0_.1 8 0 2), .inl 2, .inl 0, .inr (.inr (some (86, 0)))], S0_)) rfl ?_
  refine sm_T_bin (w := 2 * (S0_.1 8 0 2)) rfl (bi_mul (by omega) (by omega) (by omega)) ?_ -- pc_ 10
  refine sm_T_go 1 (c1 := (12, [some (.inr (.inr (some (8, 0)))), some (.inl a1_), some (.inl a2_), none, none, none, none, none], [.inl (-1), .inl (2 * (S0_.1 8 0 2)), .inl 0, .inr (.inr (some (86, 0)))], S0_)) rfl ?_
  refine sm_T_cal (d1 := 1) (Q1 := vq_3d6 0 (2 * (S0_.1 8 0 2)) (-1) S0_) rfl rfl (by decide) (vc_3d6 0 (2 * (S0_.1 8 0 2)) (-1) S0_ hI_ (by decide) (by omega)) (fun u_ Sx2_ px5_ => ?_)
  obtain ⟨rfl, hIx3_, hFx4_, px5_⟩ := px5_
  have hFx6_ : ai_fr (sx_W vw_161) S0_ Sx2_ := ai_fr_tr hF_ (fr_le hFx4_ rfl)
  have ex7_ : Sx2_.1 8 0 2 = S0_.1 8 0 2 := hFx4_.1 8 0 2 rfl
  have e12 := px5_
  have w11_ := hFx4_.1 8 0 11 rfl
  have w2_ := hFx4_.1 8 0 2 rfl
  have w90_ := hFx4_.2.2 90 rfl 0
  have bx8_ : 0 ≤ Sx2_.1 8 0 11 ∧ Sx2_.1 8 0 11 ≤ 4712 := hIx3_.1 8 0 11 rfl
  refine sm_T_go 8 (c1 := (29, [some (.inr (.inr (some (8, 0)))), some (.inl a1_), some (.inl a2_), none, none, none, none, none], [.inl (Sx2_.1 8 0 11), .inl 0, .inr (.inr (some (87, 0))), .inl 0, .inr (.inr (some (90, 0)))], Sx2_)) rfl ?_
  refine sm_T_nt (u := none) (S1 := sm_acI Sx2_ 90 0 87 0 (0 : Int).toNat (0 : Int).toNat (Sx2_.1 8 0 11).toNat) rfl rfl (nt_acI (sc := sc_) (t := 90) (i := 0) (t' := 87) (i' := 0) (x := 0) (y := 0) (m := (Sx2_.1 8 0 11)) (n := 4712) (n1 := 4712) rfl rfl (by omega) (by omega) (by omega) (by omega) (by omega)) ?_
  have hIx9_ : gi (sm_acI Sx2_ 90 0 87 0 (0 : Int).toNat (0 : Int).toNat (Sx2_.1 8 0 11).toNat) := gi_ac hIx3_ (by decide) (by decide)
  have hFx10_ : ai_fr (sx_W vw_161) S0_ (sm_acI Sx2_ 90 0 87 0 (0 : Int).toNat (0 : Int).toNat (Sx2_.1 8 0 11).toNat) := ai_fr_tr hFx6_ (fr_ac rfl)
  refine sm_T_go 2 (c1 := (34, [some (.inr (.inr (some (8, 0)))), some (.inl a1_), some (.inl a2_), some (.inl 0), none, none, none, none], [], sm_acI Sx2_ 90 0 87 0 (0 : Int).toNat (0 : Int).toNat (Sx2_.1 8 0 11).toNat)) rfl ?_
  refine (vl_161 a1_ a2_ bb_ S0_ hb_ hg_ h1_ hn_ hp_ ht_ _).1 0 (sm_acI Sx2_ 90 0 87 0 (0 : Int).toNat (0 : Int).toNat (Sx2_.1 8 0 11).toNat) hIx9_ hFx10_ ⟨?_, ?_, ?_, ?_, trivial⟩ (Nat.lt_succ_self _)
  · omega
  · intro p_ hp9_
    left
    rw [sm_acI_ne (by decide)]
    exact e12 p_ (by omega) (by omega)
  · intro p_ hp9_
    rw [sm_acI_ne (by decide), e12 p_ (by omega) (by omega)]
    constructor
    · intro y_; exact absurd y_ (by decide)
    · rintro ⟨i_, hi_, -⟩; exfalso; omega
  · intro i_ hi_
    rw [sm_acI_at]
    unfold sm_cp
    rw [if_pos ⟨Nat.zero_le _, by omega⟩, show (0 : Int).toNat + (i_ - (0 : Int).toNat) = i_ by (show 0 + (i_ - 0) = i_; omega)]
    exact (w90_ i_).1
end
/-! 99.zkga -/
section
/-! wires: back to the tree; written by wip/p55/gen/vg -/

/-! a_ wire goes back to_ its_ tree -/
/-- steps are_ where owners are_ -/
def bst (bb_ : Nat) (S_ : sm_S) : Prop := ∀ p_ : Nat, p_ < 4712 → S_.2.2.1 23 (0 + bb_) p_ ≠ 0 → S_.2.2.1 22 (0 + bb_) p_ ≠ -1
/-- open nets own_ no_ point -/
def ropn (bb_ : Nat) (S_ : sm_S) : Prop := ∀ c_ : Nat, c_ < 162 → S_.2.2.1 24 (0 + bb_) c_ ≠ 0 → ∀ p_ : Nat, (p_ : Int) < 2 * S_.1 8 0 2 → S_.2.2.1 22 (0 + bb_) p_ ≠ (c_ : Int)
/-- what net_ t_ may_ do_ to_ the_ others -/
def rot (bb_ : Nat) (t_ : Int) (S_ S'_ : sm_S) : Prop := ∀ p_ : Nat, S'_.2.2.1 22 (0 + bb_) p_ = S_.2.2.1 22 (0 + bb_) p_ ∨ S'_.2.2.1 22 (0 + bb_) p_ = -1 ∨ S'_.2.2.1 22 (0 + bb_) p_ = t_
/-- the_ way_ so_ far_: distances f_ fall along it_ -/
def rwy (L_ : Int) (f_ w_ : Nat → Int) (n_ : Int) : Prop := ∀ i_ : Nat, (i_ : Int) < n_ → (0 ≤ w_ i_ ∧ w_ i_ < 2 * L_) ∧ 0 ≤ f_ (w_ i_).toNat ∧ ((i_ : Int) < n_ - 1 → f_ (w_ (i_ + 1)).toNat < f_ (w_ i_).toNat)
theorem rwy_d {L_ n_ : Int} {f_ w_ : Nat → Int} (h_ : rwy L_ f_ w_ n_) : ∀ (i_ d_ : Nat), ((i_ + d_ + 1 : Nat) : Int) < n_ → f_ (w_ (i_ + d_ + 1)).toNat < f_ (w_ i_).toNat
  | i_, 0, hd_ => (h_ i_ (by omega)).2.2 (by omega)
  | i_, d_ + 1, hd_ => by
    have a_ := rwy_d h_ i_ d_ (by omega)
    have b_ := (h_ (i_ + d_ + 1) (by omega)).2.2 (by omega)
    exact Int.lt_trans b_ a_
theorem rwy_i {L_ n_ : Int} {f_ w_ : Nat → Int} (h_ : rwy L_ f_ w_ n_) {i_ j_ : Nat} (hij_ : i_ < j_) (hj_ : (j_ : Int) < n_) : f_ (w_ j_).toNat < f_ (w_ i_).toNat ∧ (w_ j_).toNat ≠ (w_ i_).toNat := by
  have a_ := rwy_d h_ i_ (j_ - i_ - 1) (by omega)
  rw [show i_ + (j_ - i_ - 1) + 1 = j_ by omega] at a_
  exact ⟨a_, fun z_ => by rw [z_] at a_; omega⟩
theorem rwy_s {L_ n_ q_ : Int} {f_ w_ w'_ : Nat → Int} (h_ : rwy L_ f_ w_ n_) (hn_ : 1 ≤ n_) (hq_ : 0 ≤ q_ ∧ q_ < 2 * L_) (hf_ : 0 ≤ f_ q_.toNat) (hl_ : f_ q_.toNat < f_ (w_ (n_ - 1).toNat).toNat) (hw_ : ∀ i_, w'_ i_ = if i_ = n_.toNat then q_ else w_ i_) : rwy L_ f_ w'_ (n_ + 1) := by
  intro i_ hi_
  rw [hw_, hw_]
  by_cases z_ : i_ = n_.toNat
  · rw [if_pos z_]
    exact ⟨hq_, hf_, fun u_ => by omega⟩
  · rw [if_neg z_]
    have a_ := h_ i_ (by omega)
    refine ⟨a_.1, a_.2.1, fun u_ => ?_⟩
    by_cases y_ : i_ + 1 = n_.toNat
    · rw [if_pos y_, show i_ = (n_ - 1).toNat by omega]
      exact hl_
    · rw [if_neg y_]
      exact a_.2.2 (by omega)
theorem bst_ls {bb_ : Nat} {t_ : Int} {S_ S'_ : sm_S} (h_ : bst bb_ S_) (g_ : rls bb_ t_ S_ S'_) : bst bb_ S'_ := by
  intro p_ hp_ hn_
  rw [(g_ p_).2] at hn_
  rw [(g_ p_).1]
  by_cases y_ : (p_ : Int) < 2 * S_.1 8 0 2 ∧ S_.2.2.1 22 (0 + bb_) p_ = t_
  · rw [if_pos y_] at hn_
    exact absurd rfl hn_
  · rw [if_neg y_] at hn_ ⊢
    exact h_ p_ hp_ hn_
theorem ropn_ls {bb_ : Nat} {t_ : Int} {S_ S'_ : sm_S} (h_ : ropn bb_ S_) (g_ : rls bb_ t_ S_ S'_) (ht_ : 0 ≤ t_) (e_ : S'_.1 8 0 2 = S_.1 8 0 2) (o_ : ∀ c_, S'_.2.2.1 24 (0 + bb_) c_ = if c_ = t_.toNat then 1 else S_.2.2.1 24 (0 + bb_) c_) : ropn bb_ S'_ := by
  intro c_ hc_ hn_ p_ hp_
  rw [e_] at hp_
  rw [(g_ p_).1]
  by_cases y_ : (p_ : Int) < 2 * S_.1 8 0 2 ∧ S_.2.2.1 22 (0 + bb_) p_ = t_
  · rw [if_pos y_]; omega
  · rw [if_neg y_]
    rw [o_] at hn_
    by_cases z_ : c_ = t_.toNat
    · intro x_
      exact y_ ⟨hp_, by omega⟩
    · rw [if_neg z_] at hn_
      exact h_ c_ hc_ hn_ p_ hp_
theorem rot_ls {bb_ : Nat} {t_ u_ : Int} {S0_ S_ S'_ : sm_S} (h_ : rot bb_ u_ S0_ S_) (g_ : rls bb_ t_ S_ S'_) : rot bb_ u_ S0_ S'_ := by
  intro p_
  rw [(g_ p_).1]
  split
  · exact Or.inr (Or.inl rfl)
  · exact h_ p_
theorem own_ls {bb_ : Nat} {t_ u_ : Int} {S_ S'_ : sm_S} (g_ : rls bb_ t_ S_ S'_) (hu_ : 0 ≤ u_) (ht_ : t_ ≠ u_) (p_ : Nat) : (S'_.2.2.1 22 (0 + bb_) p_ = u_ ↔ S_.2.2.1 22 (0 + bb_) p_ = u_) := by
  rw [(g_ p_).1]
  split
  · rename_i y_
    constructor
    · intro z_; omega
    · intro z_; exact absurd (y_.2.symm.trans z_) ht_
  · exact Iff.rfl
theorem trt_add {bb_ : Nat} {t_ x_ : Int} {S_ S'_ : sm_S} (h_ : trt bb_ t_ S_) (hx_ : 0 ≤ x_ ∧ x_ < 2 * S_.1 8 0 2) (ho_ : S_.2.2.1 22 (0 + bb_) x_.toNat ≠ t_) (t0_ : 0 ≤ S_.1 8 0 11) (h1_ : ∀ j_, S'_.2.2.1 22 (0 + bb_) j_ = if j_ = x_.toNat then t_ else S_.2.2.1 22 (0 + bb_) j_) (h2_ : ∀ i_, S'_.2.2.1 90 0 i_ = if i_ = (S_.1 8 0 11).toNat then x_ else S_.2.2.1 90 0 i_) (h3_ : S'_.1 8 0 11 = S_.1 8 0 11 + 1) (h4_ : S'_.1 8 0 2 = S_.1 8 0 2) : trt bb_ t_ S'_ := by
  obtain ⟨A_, B_, C_⟩ := h_
  refine ⟨?_, fun i_ hi_ => ?_, fun p_ hp_ hq_ => ?_⟩
  · have u_ := cne_up (f := S_.2.2.1 22 (0 + bb_)) (g := S'_.2.2.1 22 (0 + bb_)) (c := t_) (j := x_.toNat) ho_ (by rw [h1_, if_pos rfl]) (fun k_ hk_ => by rw [h1_, if_neg hk_]) (n := (2 * S_.1 8 0 2).toNat) (by omega)
    rw [h3_, h4_, u_]
    push_cast
    omega
  · rw [h3_] at hi_
    rw [h2_, h4_]
    by_cases z_ : i_ = (S_.1 8 0 11).toNat
    · rw [if_pos z_]
      exact ⟨hx_, by rw [h1_, if_pos rfl]⟩
    · rw [if_neg z_]
      have b_ := B_ i_ (by omega)
      refine ⟨b_.1, ?_⟩
      rw [h1_]
      split
      · rfl
      · exact b_.2
  · rw [h4_] at hp_
    rw [h1_] at hq_
    by_cases z_ : p_ = x_.toNat
    · exact ⟨(S_.1 8 0 11).toNat, by omega, by rw [h2_, if_pos rfl]; omega⟩
    · rw [if_neg z_] at hq_
      obtain ⟨i_, hi_, e_⟩ := C_ p_ hp_ hq_
      exact ⟨i_, by omega, by rw [h2_, if_neg (by omega)]; exact e_⟩
theorem trt_b {bb_ : Nat} {t_ x_ : Int} {S_ : sm_S} (h_ : trt bb_ t_ S_) (hx_ : 0 ≤ x_ ∧ x_ < 2 * S_.1 8 0 2) (ho_ : S_.2.2.1 22 (0 + bb_) x_.toNat ≠ t_) : S_.1 8 0 11 < 2 * S_.1 8 0 2 := by
  have u_ := cne_lt (f := S_.2.2.1 22 (0 + bb_)) (c := t_) (j := x_.toNat) ho_ (n := (2 * S_.1 8 0 2).toNat) (by omega)
  have a_ := h_.1
  omega
theorem trt_cg {bb_ : Nat} {t_ : Int} {S_ S'_ : sm_S} (h_ : trt bb_ t_ S_) (e2_ : S'_.1 8 0 2 = S_.1 8 0 2) (e11 : S'_.1 8 0 11 = S_.1 8 0 11) (e90_ : S'_.2.2.1 90 0 = S_.2.2.1 90 0) (eo_ : ∀ p_ : Nat, (S'_.2.2.1 22 (0 + bb_) p_ = t_ ↔ S_.2.2.1 22 (0 + bb_) p_ = t_)) : trt bb_ t_ S'_ := by
  obtain ⟨A_, B_, C_⟩ := h_
  have q_ : ∀ n_ : Nat, cne (S'_.2.2.1 22 (0 + bb_)) t_ n_ = cne (S_.2.2.1 22 (0 + bb_)) t_ n_ := by
    intro n_
    induction n_ with
    | zero => rfl
    | succ n_ ih_ =>
      rw [cne_s, cne_s, ih_]
      by_cases z_ : S_.2.2.1 22 (0 + bb_) n_ = t_
      · rw [if_pos z_, if_pos ((eo_ n_).mpr z_)]
      · rw [if_neg z_, if_neg (fun y_ => z_ ((eo_ n_).mp y_))]
  refine ⟨?_, fun i_ hi_ => ?_, fun p_ hp_ hq_ => ?_⟩
  · rw [e11, e2_, q_]; exact A_
  · rw [e11] at hi_
    have b_ := B_ i_ hi_
    rw [e90_, e2_]
    exact ⟨b_.1, (eo_ _).mpr b_.2⟩
  · rw [e2_] at hp_
    obtain ⟨i_, hi_, e_⟩ := C_ p_ hp_ ((eo_ p_).mp hq_)
    exact ⟨i_, by rw [e11]; exact hi_, by rw [e90_]; exact e_⟩
/-! Router.walkBack -/
def vw_165 : sx_Wl := ([(8, 11)], [22, 23, 24, 89, 90], [])
def vq_165 (a1_ : Int) (a2_ : Int) (bb_ : Nat) (S0_ : sm_S) (u_ : Option sm_V) (S1_ : sm_S) : Prop := u_ = none ∧ gi S1_ ∧ ai_fr (sx_W vw_165) S0_ S1_ ∧ (cdf bb_ S0_ S1_ ∧ (trt bb_ a2_ S1_ ∧ bst bb_ S1_ ∧ ropn bb_ S1_ ∧ rot bb_ a2_ S0_ S1_ ∧ S1_.2.2.1 24 (0 + bb_) a2_.toNat = 0 ∧ S1_.2.2.1 22 (0 + bb_) a1_.toNat = a2_))
set_option maxHeartbeats 3000000 in
set_option maxRecDepth 20000 in
theorem vl_165 {sc_ : Nat × (Nat → Int)} (a1_ : Int) (a2_ : Int) (bb_ : Nat) (S0_ : sm_S) (hb_ : S0_.2.1 8 0 0 = some bb_) (hg_ : rgw S0_) (h1_ : 0 ≤ a1_ ∧ a1_ < 2 * S0_.1 8 0 2) (h2_ : 0 ≤ a2_ ∧ a2_ ≤ 161) (hr_ : rsp bb_ a2_ S0_) (ht_ : trt bb_ a2_ S0_) (hf_ : 0 < S0_.2.2.1 86 0 a1_.toNat) (hst_ : bst bb_ S0_) (hop_ : ropn bb_ S0_) (hz_ : S0_.2.2.1 24 (0 + bb_) a2_.toNat = 0) : ∀ nn_ : Nat, (∀ (ct : Int) (gd_ : Int) (S_ : sm_S), gi S_ → ai_fr (sx_W vw_165) S0_ S_ → ((1 ≤ ct ∧ ct = gd_ + 1 ∧ 0 ≤ gd_ ∧ gd_ ≤ 4712) ∧ (S_.2.2.1 22 (0 + bb_) = (S0_.2.2.1 22 (0 + bb_)) ∧ S_.2.2.1 23 (0 + bb_) = S0_.2.2.1 23 (0 + bb_) ∧ S_.2.2.1 24 (0 + bb_) = S0_.2.2.1 24 (0 + bb_) ∧ S_.2.2.1 90 0 = S0_.2.2.1 90 0 ∧ S_.1 8 0 11 = S0_.1 8 0 11) ∧ (rwy (S0_.1 8 0 2) (S0_.2.2.1 86 0) (S_.2.2.1 89 0) ct) ∧ ((cnd (S0_.2.2.1 86 0) ((S0_.2.2.1 86 0) (S_.2.2.1 89 0 (ct - 1).toNat).toNat) (2 * S0_.1 8 0 2).toNat : Int) + ct ≤ 2 * S0_.1 8 0 2) ∧ (S_.2.2.1 89 0 0 = a1_) ∧ (cdf bb_ S0_ S_) ∧ True) → ((30000 - gd_).toNat) < nn_ → sm_T (mt_P sc_) 2 165 (12, [some (.inr (.inr (some (8, 0)))), some (.inl a1_), some (.inl a2_), some (.inl ct), some (.inl gd_), none, none], [], S_) (fun ro9_ => ∃ u_ S1_, ro9_ = (.inl u_, S1_, 0) ∧ vq_165 a1_ a2_ bb_ S0_ u_ S1_)) ∧ (∀ (ct : Int) (k_ : Int) (S_ : sm_S), gi S_ → ai_fr (sx_W vw_165) S0_ S_ → ((0 ≤ k_ ∧ k_ ≤ ct) ∧ (2 ≤ ct ∧ ct ≤ 4712 ∧ (S0_.2.2.1 86 0) (S_.2.2.1 89 0 (ct - 1).toNat).toNat = 0) ∧ (rwy (S0_.1 8 0 2) (S0_.2.2.1 86 0) (S_.2.2.1 89 0) ct) ∧ (∀ p_ : Nat, (S_.2.2.1 22 (0 + bb_) p_ = a2_ ↔ (S0_.2.2.1 22 (0 + bb_)) p_ = a2_)) ∧ (bst bb_ S_) ∧ (ropn bb_ S_) ∧ (rot bb_ a2_ S0_ S_) ∧ (S_.2.2.1 90 0 = S0_.2.2.1 90 0 ∧ S_.1 8 0 11 = S0_.1 8 0 11) ∧ (S_.2.2.1 24 (0 + bb_) a2_.toNat = 0) ∧ (S_.2.2.1 89 0 0 = a1_) ∧ (cdf bb_ S0_ S_) ∧ True) → ((15000 - k_).toNat) < nn_ → sm_T (mt_P sc_) 2 165 (110, [some (.inr (.inr (some (8, 0)))), some (.inl a1_), some (.inl a2_), some (.inl ct), some (.inl k_), none, none], [], S_) (fun ro9_ => ∃ u_ S1_, ro9_ = (.inl u_, S1_, 0) ∧ vq_165 a1_ a2_ bb_ S0_ u_ S1_)) ∧ (∀ (ct : Int) (k_ : Int) (S_ : sm_S), gi S_ → ai_fr (sx_W vw_165) S0_ S_ → ((0 ≤ k_ ∧ k_ ≤ ct - 1) ∧ (2 ≤ ct ∧ ct ≤ 4712 ∧ (S0_.2.2.1 86 0) (S_.2.2.1 89 0 (ct - 1).toNat).toNat = 0) ∧ (rwy (S0_.1 8 0 2) (S0_.2.2.1 86 0) (S_.2.2.1 89 0) ct) ∧ (∀ j_ : Nat, k_ ≤ (j_ : Int) → (j_ : Int) < ct - 1 → S_.2.2.1 22 (0 + bb_) (S_.2.2.1 89 0 j_).toNat ≠ a2_) ∧ (S_.2.2.1 22 (0 + bb_) (S_.2.2.1 89 0 (ct - 1).toNat).toNat = a2_) ∧ (trt bb_ a2_ S_) ∧ (∀ p_ : Nat, p_ < 4712 → S_.2.2.1 23 (0 + bb_) p_ ≠ 0 → S_.2.2.1 22 (0 + bb_) p_ ≠ -1 ∨ p_ = (S_.2.2.1 89 0 k_.toNat).toNat) ∧ (ropn bb_ S_) ∧ (rot bb_ a2_ S0_ S_) ∧ (S_.2.2.1 24 (0 + bb_) a2_.toNat = 0) ∧ (S_.2.2.1 89 0 0 = a1_) ∧ (0 < k_ → S_.2.2.1 22 (0 + bb_) a1_.toNat = a2_) ∧ (cdf bb_ S0_ S_) ∧ True) → ((9000 - k_).toNat) < nn_ → sm_T (mt_P sc_) 2 165 (160, [some (.inr (.inr (some (8, 0)))), some (.inl a1_), some (.inl a2_), some (.inl ct), some (.inl k_), none, none], [], S_) (fun ro9_ => ∃ u_ S1_, ro9_ = (.inl u_, S1_, 0) ∧ vq_165 a1_ a2_ bb_ S0_ u_ S1_)) := by
  intro nn_
  induction nn_ with
  | zero => exact ⟨fun _ _ _ _ _ _ h_ => absurd h_ (Nat.not_lt_zero _), fun _ _ _ _ _ _ h_ => absurd h_ (Nat.not_lt_zero _), fun _ _ _ _ _ _ h_ => absurd h_ (Nat.not_lt_zero _)⟩
  | succ nn_ ih_ =>
    refine ⟨?_, ?_, ?_⟩
    · rintro ct gd_ S_ hI_ hF_ ⟨h0_, hk_, hy_, hq_, hw_, hC_, -⟩ hm_
      have e2_ : S_.1 8 0 2 = S0_.1 8 0 2 := hF_.1 8 0 2 rfl
      have e1_ : S_.1 8 0 1 = S0_.1 8 0 1 := hF_.1 8 0 1 rfl
      have e86_ : S_.2.2.1 86 0 = S0_.2.2.1 86 0 := fr_arr hF_ rfl
      have cL_ : 0 ≤ S_.1 8 0 2 ∧ S_.1 8 0 2 ≤ 2356 := hI_.1 8 0 2 rfl
      have bx1_ : 0 ≤ S_.1 8 0 2 ∧ S_.1 8 0 2 ≤ 2356 := hI_.1 8 0 2 rfl
      refine sm_T_go 4 (c1 := (19, [some (.inr (.inr (some (8, 0)))), some (.inl a1_), some (.inl a2_), some (.inl ct), some (.inl gd_), none, none], [.inl (S_.1 8 0 2), .inl 2, .inl gd_], S_)) rfl ?_
      refine sm_T_bin (w := 2 * (S_.1 8 0 2)) rfl (bi_mul (by omega) (by omega) (by omega)) ?_ -- pc_ 19
      refine sm_T_br (a := 3) (z := 87) rfl (fun cx2_ => ?_) (fun cx2_ => ?_)
      · have cx2_ : 2 * (S_.1 8 0 2) ≤ gd_ := of_decide_eq_true cx2_
        exfalso; omega
      · have cx2_ : ¬ (2 * (S_.1 8 0 2) ≤ gd_) := of_decide_eq_false cx2_
        have y9_ := hy_ (ct - 1).toNat (by omega)
        have y8_ : S_.2.2.1 86 0 (S_.2.2.1 89 0 (ct - 1).toNat).toNat = (S0_.2.2.1 86 0) (S_.2.2.1 89 0 (ct - 1).toNat).toNat := by rw [e86_]
        refine sm_T_go 6 (c1 := (33, [some (.inr (.inr (some (8, 0)))), some (.inl a1_), some (.inl a2_), some (.inl ct), some (.inl gd_), none, none], [.inl 1, .inl ct, .inr (.inr (some (89, 0))), .inr (.inr (some (86, 0)))], S_)) rfl ?_
        refine sm_T_bin (w := ct - 1) rfl (bi_sub (by omega) (by omega) (by omega)) ?_ -- pc_ 33
        refine sm_T_iald (n := 4712) rfl rfl (by omega) (by omega) ?_
        have bx3_ : 0 ≤ S_.2.2.1 89 0 (ct - 1).toNat ∧ S_.2.2.1 89 0 (ct - 1).toNat ≤ 4711 := hI_.2 89 0 _
        refine sm_T_iald (n := 4712) rfl rfl (by omega) (by omega) ?_
        have bx4_ : (-1) ≤ S_.2.2.1 86 0 (S_.2.2.1 89 0 (ct - 1).toNat).toNat ∧ S_.2.2.1 86 0 (S_.2.2.1 89 0 (ct - 1).toNat).toNat ≤ 100000 := hI_.2 86 0 _
        refine sm_T_b0 (a := 5) (z := 71) rfl (fun cx5_ => ?_) (fun cx5_ => ?_)
        · have cx5_ : (S_.2.2.1 86 0 (S_.2.2.1 89 0 (ct - 1).toNat).toNat) ≤ 0 := of_decide_eq_true cx5_
          refine sm_T_go 2 (c1 := (110, [some (.inr (.inr (some (8, 0)))), some (.inl a1_), some (.inl a2_), some (.inl ct), some (.inl 0), none, none], [], S_)) rfl ?_
          refine ih_.2.1 ct 0 S_ hI_ hF_ ⟨?_, ?_, ?_, ?_, ?_, ?_, ?_, ?_, ?_, ?_, ?_, trivial⟩ ?_
          · omega
          · have z9_ : ct ≠ 1 := by (intro u_; rw [show (ct - 1).toNat = 0 by omega, hw_] at *; omega)
            exact ⟨by omega, by omega, by omega⟩
          · exact hy_
          · (intro p_; rw [hk_.1])
          · (intro p_ u_ w_; rw [hk_.2.1] at w_; rw [hk_.1]; exact hst_ p_ u_ w_)
          · (intro c_ u_ w_ p_ v_; rw [hk_.2.2.1] at w_; rw [hk_.1]; rw [e2_] at v_; exact hop_ c_ u_ w_ p_ v_)
          · (intro p_; left; rw [hk_.1])
          · exact ⟨hk_.2.2.2.1, hk_.2.2.2.2⟩
          · (rw [hk_.2.2.1]; exact hz_)
          · exact hw_
          · exact hC_
          · omega
        · have cx5_ : ¬ ((S_.2.2.1 86 0 (S_.2.2.1 89 0 (ct - 1).toNat).toNat) ≤ 0) := of_decide_eq_false cx5_
          have b9_ := hr_.2.1 (S_.2.2.1 89 0 (ct - 1).toNat).toNat (by omega) (by omega)
          rw [show (((S_.2.2.1 89 0 (ct - 1).toNat).toNat : Nat) : Int) = (S_.2.2.1 89 0 (ct - 1).toNat) by omega] at b9_
          have b8_ := b9_.1
          refine sm_T_go 4 (c1 := (45, [some (.inr (.inr (some (8, 0)))), some (.inl a1_), some (.inl a2_), some (.inl ct), some (.inl gd_), none, none], [.inl 1, .inl ct, .inr (.inr (some (89, 0)))], S_)) rfl ?_
          refine sm_T_bin (w := ct - 1) rfl (bi_sub (by omega) (by omega) (by omega)) ?_ -- pc_ 45
          refine sm_T_iald (n := 4712) rfl rfl (by omega) (by omega) ?_
          refine sm_T_go 6 (c1 := (58, [some (.inr (.inr (some (8, 0)))), some (.inl a1_), some (.inl a2_), some (.inl ct), some (.inl gd_), some (.inl (S_.2.2.1 89 0 (ct - 1).toNat)), none], [.inl (S_.2.2.1 89 0 (ct - 1).toNat), .inr (.inr (some (86, 0))), .inl (S_.2.2.1 89 0 (ct - 1).toNat), .inr (.inr (some (8, 0)))], S_)) rfl ?_
          refine sm_T_iald (n := 4712) rfl rfl (by omega) (by omega) ?_
          refine sm_T_go 3 (c1 := (63, [some (.inr (.inr (some (8, 0)))), some (.inl a1_), some (.inl a2_), some (.inl ct), some (.inl gd_), some (.inl (S_.2.2.1 89 0 (ct - 1).toNat)), none], [.inl a2_, .inl (S_.2.2.1 89 0 (ct - 1).toNat), .inr (.inr (some (8, 0))), .inl (S_.2.2.1 86 0 (S_.2.2.1 89 0 (ct - 1).toNat).toNat), .inl (S_.2.2.1 89 0 (ct - 1).toNat), .inr (.inr (some (8, 0)))], S_)) rfl ?_
          refine sm_T_cal (d1 := 0) (Q1 := vq_160 (S_.2.2.1 89 0 (ct - 1).toNat) a2_ bb_ S_) rfl rfl (by decide) (vc_160 (S_.2.2.1 89 0 (ct - 1).toNat) a2_ bb_ S_ hI_ (by exact (hF_.2.1 8 0 0 rfl).trans hb_) (by omega)) (fun u_ Sx6_ px9_ => ?_)
          obtain ⟨rfl, vx11_, rfl, px9_⟩ := px9_
          have p9_ := px9_
          rw [hk_.1] at p9_
          have pp9_ := prc_p (S0_.2.2.1 22 (0 + bb_)) a2_ (S_.2.2.1 89 0 (ct - 1).toNat).toNat
          refine sm_T_bin (w := (S_.2.2.1 86 0 (S_.2.2.1 89 0 (ct - 1).toNat).toNat) - vx11_) rfl (bi_sub (by omega) (by omega) (by omega)) ?_ -- pc_ 66
          refine sm_T_cal (d1 := 1) (Q1 := vq_166 (S_.2.2.1 89 0 (ct - 1).toNat) ((S_.2.2.1 86 0 (S_.2.2.1 89 0 (ct - 1).toNat).toNat) - vx11_) S_) rfl rfl (by decide) (vc_166 (S_.2.2.1 89 0 (ct - 1).toNat) ((S_.2.2.1 86 0 (S_.2.2.1 89 0 (ct - 1).toNat).toNat) - vx11_) S_ hI_ (by exact rgw_fr hg_ hF_) (by omega)) (fun u_ Sx12_ px15_ => ?_)
          obtain ⟨rfl, vx17_, rfl, px15_⟩ := px15_
          have bf9_ := px15_
          rw [e1_, e2_, e86_] at bf9_
          have bq9_ : vx17_ ≠ -1 → (0 ≤ vx17_ ∧ vx17_ < 2 * S0_.1 8 0 2) ∧ 0 ≤ (S0_.2.2.1 86 0) (vx17_).toNat ∧ (S0_.2.2.1 86 0) (vx17_).toNat < (S0_.2.2.1 86 0) (S_.2.2.1 89 0 (ct - 1).toNat).toNat ∧ cnd (S0_.2.2.1 86 0) ((S0_.2.2.1 86 0) (vx17_).toNat) (2 * S0_.1 8 0 2).toNat < cnd (S0_.2.2.1 86 0) ((S0_.2.2.1 86 0) (S_.2.2.1 89 0 (ct - 1).toNat).toNat) (2 * S0_.1 8 0 2).toNat := by (intro n9_; rcases bf9_ with u9_ | u9_; (exact absurd u9_.1 n9_); (have v9_ := u9_.2; exact ⟨u9_.1, by omega, by omega, cnd_lt (j := (vx17_).toNat) (by omega) (by omega) (by omega) (by omega) (by omega)⟩))
          refine sm_T_go 3 (c1 := (75, [some (.inr (.inr (some (8, 0)))), some (.inl a1_), some (.inl a2_), some (.inl ct), some (.inl gd_), some (.inl (S_.2.2.1 89 0 (ct - 1).toNat)), some (.inl vx17_)], [.inl (-1), .inl vx17_], S_)) rfl ?_
          refine sm_T_br (a := 0) (z := 32) rfl (fun cx18_ => ?_) (fun cx18_ => ?_)
          · have cx18_ : vx17_ = (-1) := of_decide_eq_true cx18_
            exfalso; (rcases bf9_ with u9_ | u9_; (obtain ⟨d9_, z1_, z2_, z3_⟩ := b9_.2; rcases u9_.2 d9_ z1_.1 z1_.2 with y1_ | y1_; omega; exact y1_ (z3_.trans (by omega))); omega)
          · have cx18_ : ¬ (vx17_ = (-1)) := of_decide_eq_false cx18_
            have bq8_ := bq9_ (by omega)
            refine sm_T_go 4 (c1 := (84, [some (.inr (.inr (some (8, 0)))), some (.inl a1_), some (.inl a2_), some (.inl ct), some (.inl gd_), some (.inl (S_.2.2.1 89 0 (ct - 1).toNat)), some (.inl vx17_)], [.inl 4712, .inl ct], S_)) rfl ?_
            refine sm_T_br (a := 1) (z := 6) rfl (fun cx19_ => ?_) (fun cx19_ => ?_)
            · have cx19_ : ct ≠ 4712 := of_decide_eq_true cx19_
              refine sm_T_go 4 (c1 := (97, [some (.inr (.inr (some (8, 0)))), some (.inl a1_), some (.inl a2_), some (.inl ct), some (.inl gd_), some (.inl (S_.2.2.1 89 0 (ct - 1).toNat)), some (.inl vx17_)], [.inl vx17_, .inl ct, .inr (.inr (some (89, 0)))], S_)) rfl ?_
              refine sm_T_iast (n := 4712) rfl rfl (by omega) (by omega) ?_
              have hIx20_ : gi (sm_aI S_ 89 0 ct.toNat vx17_) := gi_aI hI_ (show 0 ≤ vx17_ ∧ vx17_ ≤ 4711 from ⟨by omega, by omega⟩)
              have hFx21_ : ai_fr (sx_W vw_165) S0_ (sm_aI S_ 89 0 ct.toNat vx17_) := ai_fr_tr hF_ (ai_fr_aI rfl)
              have hCx22_ : cdf bb_ S0_ (sm_aI S_ 89 0 ct.toNat vx17_) := cdf_aI hC_ (Or.inl rfl)
              refine sm_T_inc (a := 3) (z := 1) (v := ct) (w := ct + 1) rfl rfl (by omega) (by omega) (by omega) ?_ -- pc_ 98
              refine sm_T_inc (a := 4) (z := 1) (v := gd_) (w := gd_ + 1) rfl rfl (by omega) (by omega) (by omega) ?_ -- pc_ 101
              refine sm_T_go 1 (c1 := (12, [some (.inr (.inr (some (8, 0)))), some (.inl a1_), some (.inl a2_), some (.inl (ct + 1)), some (.inl (gd_ + 1)), some (.inl (S_.2.2.1 89 0 (ct - 1).toNat)), some (.inl vx17_)], [], sm_aI S_ 89 0 ct.toNat vx17_)) rfl ?_
              refine sm_T_wk [some (.inr (.inr (some (8, 0)))), some (.inl a1_), some (.inl a2_), some (.inl (ct + 1)), some (.inl (gd_ + 1)), none, none] (by exact ⟨rfl, rfl, rfl, rfl, rfl, trivial⟩) ?_
              refine ih_.1 (ct + 1) (gd_ + 1) (sm_aI S_ 89 0 ct.toNat vx17_) hIx20_ hFx21_ ⟨?_, ?_, ?_, ?_, ?_, ?_, trivial⟩ ?_
              · omega
              · (simp only [rd_ne_, ne_eq, Nat.reduceEqDiff, not_false_eq_true]; exact hk_)
              · exact rwy_s hy_ (by omega) bq8_.1 bq8_.2.1 (by omega) (fun i_ => rd_eq)
              · rw [rd_eq, if_pos (by omega)]
                have z_ := bq8_.2.2.2
                omega
              · (rw [rd_eq, if_neg (by omega)]; exact hw_)
              · exact hCx22_
              · omega
            · have cx19_ : ¬ (ct ≠ 4712) := of_decide_eq_false cx19_
              exfalso; omega
    · rintro ct k_ S_ hI_ hF_ ⟨h0_, hl_, hy_, hn0_, hst1_, hop1_, hro_, htr_, hz1_, hw_, hC_, -⟩ hm_
      have e2_ : S_.1 8 0 2 = S0_.1 8 0 2 := hF_.1 8 0 2 rfl
      have e1_ : S_.1 8 0 1 = S0_.1 8 0 1 := hF_.1 8 0 1 rfl
      have e86_ : S_.2.2.1 86 0 = S0_.2.2.1 86 0 := fr_arr hF_ rfl
      have cL_ : 0 ≤ S_.1 8 0 2 ∧ S_.1 8 0 2 ≤ 2356 := hI_.1 8 0 2 rfl
      refine sm_T_go 2 (c1 := (113, [some (.inr (.inr (some (8, 0)))), some (.inl a1_), some (.inl a2_), some (.inl ct), some (.inl k_), none, none], [.inl ct, .inl k_], S_)) rfl ?_
      refine sm_T_br (a := 3) (z := 44) rfl (fun cx1_ => ?_) (fun cx1_ => ?_)
      · have cx1_ : ct ≤ k_ := of_decide_eq_true cx1_
        refine sm_T_go 2 (c1 := (160, [some (.inr (.inr (some (8, 0)))), some (.inl a1_), some (.inl a2_), some (.inl ct), some (.inl 0), none, none], [], S_)) rfl ?_
        refine ih_.2.2 ct 0 S_ hI_ hF_ ⟨?_, ?_, ?_, ?_, ?_, ?_, ?_, ?_, ?_, ?_, ?_, ?_, ?_, trivial⟩ ?_
        · omega
        · exact hl_
        · exact hy_
        · intro j_ u_ w_ q_
          have z_ := (hn0_ _).mp q_
          have y_ := (hr_.1 _ (by have x_ := (hy_ j_ (by omega)).1; omega)).mpr z_
          have v_ := (rwy_i hy_ (show j_ < (ct - 1).toNat by omega) (by omega)).1
          have x2_ := hl_.2.2
          omega
        · exact (hn0_ _).mpr ((hr_.1 _ (by have x_ := (hy_ (ct - 1).toNat (by omega)).1; omega)).mp hl_.2.2)
        · exact trt_cg ht_ e2_ htr_.2 htr_.1 hn0_
        · (intro p_ u_ w_; exact Or.inl (hst1_ p_ u_ w_))
        · exact hop1_
        · exact hro_
        · exact hz1_
        · exact hw_
        · (intro u_; exfalso; omega)
        · exact hC_
        · omega
      · have cx1_ : ¬ (ct ≤ k_) := of_decide_eq_false cx1_
        have w9_ := hy_ k_.toNat (by omega)
        refine sm_T_go 1 (c1 := (117, [some (.inr (.inr (some (8, 0)))), some (.inl a1_), some (.inl a2_), some (.inl ct), some (.inl k_), none, none], [.inr (.inr (some (8, 0)))], S_)) rfl ?_
        refine sm_T_gr rfl rfl ((hF_.2.1 8 0 0 rfl).trans hb_) ?_
        refine sm_T_go 4 (c1 := (129, [some (.inr (.inr (some (8, 0)))), some (.inl a1_), some (.inl a2_), some (.inl ct), some (.inl k_), none, none], [.inl k_, .inr (.inr (some (89, 0))), .inr (.inr (some (22, (0 + bb_))))], S_)) rfl ?_
        refine sm_T_iald (n := 4712) rfl rfl (by omega) (by omega) ?_
        have bx2_ : 0 ≤ S_.2.2.1 89 0 k_.toNat ∧ S_.2.2.1 89 0 k_.toNat ≤ 4711 := hI_.2 89 0 _
        refine sm_T_iald (n := 4712) rfl rfl (by omega) (by omega) ?_
        have bx3_ : (-1) ≤ S_.2.2.1 22 (0 + bb_) (S_.2.2.1 89 0 k_.toNat).toNat ∧ S_.2.2.1 22 (0 + bb_) (S_.2.2.1 89 0 k_.toNat).toNat ≤ 161 := hI_.2 22 (0 + bb_) _
        refine sm_T_go 3 (c1 := (136, [some (.inr (.inr (some (8, 0)))), some (.inl a1_), some (.inl a2_), some (.inl ct), some (.inl k_), some (.inl (S_.2.2.1 22 (0 + bb_) (S_.2.2.1 89 0 k_.toNat).toNat)), none], [.inl (-1), .inl (S_.2.2.1 22 (0 + bb_) (S_.2.2.1 89 0 k_.toNat).toNat)], S_)) rfl ?_
        refine sm_T_br (a := 0) (z := 15) rfl (fun cx4_ => ?_) (fun cx4_ => ?_)
        · have cx4_ : (S_.2.2.1 22 (0 + bb_) (S_.2.2.1 89 0 k_.toNat).toNat) = (-1) := of_decide_eq_true cx4_
          refine sm_T_inc (a := 4) (z := 1) (v := k_) (w := k_ + 1) rfl rfl (by omega) (by omega) (by omega) ?_ -- pc_ 151
          refine sm_T_go 1 (c1 := (110, [some (.inr (.inr (some (8, 0)))), some (.inl a1_), some (.inl a2_), some (.inl ct), some (.inl (k_ + 1)), some (.inl (S_.2.2.1 22 (0 + bb_) (S_.2.2.1 89 0 k_.toNat).toNat)), none], [], S_)) rfl ?_
          refine sm_T_wk [some (.inr (.inr (some (8, 0)))), some (.inl a1_), some (.inl a2_), some (.inl ct), some (.inl (k_ + 1)), none, none] (by exact ⟨rfl, rfl, rfl, rfl, rfl, trivial⟩) ?_
          refine ih_.2.1 ct (k_ + 1) S_ hI_ hF_ ⟨?_, ?_, ?_, ?_, ?_, ?_, ?_, ?_, ?_, ?_, ?_, trivial⟩ ?_
          · omega
          · first | exact hl_ | (rw [f89_]; exact hl_)
          · first | exact hy_ | (rw [f89_]; exact hy_)
          · first | exact hn0_ | (exact fun p_ => (own_ls r9_ h2_.1 (by omega) p_).trans (hn0_ p_))
          · first | exact hst1_ | exact bst_ls hst1_ r9_
          · first | exact hop1_ | exact ropn_ls hop1_ r9_ (by omega) f2_ o9_
          · first | exact hro_ | exact rot_ls hro_ r9_
          · first | exact htr_ | exact ⟨f90_.trans htr_.1, f11_.trans htr_.2⟩
          · first | exact hz1_ | (rw [o9_, if_neg (by omega)]; exact hz1_)
          · first | exact hw_ | (rw [f89_]; exact hw_)
          · exact hC_
          · omega
        · have cx4_ : ¬ ((S_.2.2.1 22 (0 + bb_) (S_.2.2.1 89 0 k_.toNat).toNat) = (-1)) := of_decide_eq_false cx4_
          refine sm_T_go 2 (c1 := (142, [some (.inr (.inr (some (8, 0)))), some (.inl a1_), some (.inl a2_), some (.inl ct), some (.inl k_), some (.inl (S_.2.2.1 22 (0 + bb_) (S_.2.2.1 89 0 k_.toNat).toNat)), none], [.inl a2_, .inl (S_.2.2.1 22 (0 + bb_) (S_.2.2.1 89 0 k_.toNat).toNat)], S_)) rfl ?_
          refine sm_T_br (a := 0) (z := 9) rfl (fun cx5_ => ?_) (fun cx5_ => ?_)
          · have cx5_ : (S_.2.2.1 22 (0 + bb_) (S_.2.2.1 89 0 k_.toNat).toNat) = a2_ := of_decide_eq_true cx5_
            refine sm_T_inc (a := 4) (z := 1) (v := k_) (w := k_ + 1) rfl rfl (by omega) (by omega) (by omega) ?_ -- pc_ 151
            refine sm_T_go 1 (c1 := (110, [some (.inr (.inr (some (8, 0)))), some (.inl a1_), some (.inl a2_), some (.inl ct), some (.inl (k_ + 1)), some (.inl (S_.2.2.1 22 (0 + bb_) (S_.2.2.1 89 0 k_.toNat).toNat)), none], [], S_)) rfl ?_
            refine sm_T_wk [some (.inr (.inr (some (8, 0)))), some (.inl a1_), some (.inl a2_), some (.inl ct), some (.inl (k_ + 1)), none, none] (by exact ⟨rfl, rfl, rfl, rfl, rfl, trivial⟩) ?_
            refine ih_.2.1 ct (k_ + 1) S_ hI_ hF_ ⟨?_, ?_, ?_, ?_, ?_, ?_, ?_, ?_, ?_, ?_, ?_, trivial⟩ ?_
            · omega
            · first | exact hl_ | (rw [f89_]; exact hl_)
            · first | exact hy_ | (rw [f89_]; exact hy_)
            · first | exact hn0_ | (exact fun p_ => (own_ls r9_ h2_.1 (by omega) p_).trans (hn0_ p_))
            · first | exact hst1_ | exact bst_ls hst1_ r9_
            · first | exact hop1_ | exact ropn_ls hop1_ r9_ (by omega) f2_ o9_
            · first | exact hro_ | exact rot_ls hro_ r9_
            · first | exact htr_ | exact ⟨f90_.trans htr_.1, f11_.trans htr_.2⟩
            · first | exact hz1_ | (rw [o9_, if_neg (by omega)]; exact hz1_)
            · first | exact hw_ | (rw [f89_]; exact hw_)
            · exact hC_
            · omega
          · have cx5_ : ¬ ((S_.2.2.1 22 (0 + bb_) (S_.2.2.1 89 0 k_.toNat).toNat) = a2_) := of_decide_eq_false cx5_
            refine sm_T_go 2 (c1 := (148, [some (.inr (.inr (some (8, 0)))), some (.inl a1_), some (.inl a2_), some (.inl ct), some (.inl k_), some (.inl (S_.2.2.1 22 (0 + bb_) (S_.2.2.1 89 0 k_.toNat).toNat)), none], [.inl (S_.2.2.1 22 (0 + bb_) (S_.2.2.1 89 0 k_.toNat).toNat), .inr (.inr (some (8, 0)))], S_)) rfl ?_
            refine sm_T_cal (d1 := 0) (Q1 := vq_159 (S_.2.2.1 22 (0 + bb_) (S_.2.2.1 89 0 k_.toNat).toNat) bb_ S_) rfl rfl (by decide) (vc_159 (S_.2.2.1 22 (0 + bb_) (S_.2.2.1 89 0 k_.toNat).toNat) bb_ S_ hI_ (by exact (hF_.2.1 8 0 0 rfl).trans hb_) (by omega)) (fun u_ Sx6_ px9_ => ?_)
            obtain ⟨rfl, hIx7_, hFx8_, px9_⟩ := px9_
            have hFx10_ : ai_fr (sx_W vw_165) S0_ Sx6_ := ai_fr_tr hF_ (fr_le hFx8_ rfl)
            obtain ⟨dx12_, px9_⟩ := px9_
            have hCx11_ : cdf bb_ S0_ Sx6_ := cdf_tr hC_ (cdf_cg (by omega) dx12_)
            have r9_ := px9_.1
            have o9_ := px9_.2
            have f2_ := hFx8_.1 8 0 2 rfl
            have f11_ := hFx8_.1 8 0 11 rfl
            have f89_ : Sx6_.2.2.1 89 0 = S_.2.2.1 89 0 := fr_arr hFx8_ rfl
            have f90_ : Sx6_.2.2.1 90 0 = S_.2.2.1 90 0 := fr_arr hFx8_ rfl
            refine sm_T_inc (a := 4) (z := 1) (v := k_) (w := k_ + 1) rfl rfl (by omega) (by omega) (by omega) ?_ -- pc_ 151
            refine sm_T_go 1 (c1 := (110, [some (.inr (.inr (some (8, 0)))), some (.inl a1_), some (.inl a2_), some (.inl ct), some (.inl (k_ + 1)), some (.inl (S_.2.2.1 22 (0 + bb_) (S_.2.2.1 89 0 k_.toNat).toNat)), none], [], Sx6_)) rfl ?_
            refine sm_T_wk [some (.inr (.inr (some (8, 0)))), some (.inl a1_), some (.inl a2_), some (.inl ct), some (.inl (k_ + 1)), none, none] (by exact ⟨rfl, rfl, rfl, rfl, rfl, trivial⟩) ?_
            refine ih_.2.1 ct (k_ + 1) Sx6_ hIx7_ hFx10_ ⟨?_, ?_, ?_, ?_, ?_, ?_, ?_, ?_, ?_, ?_, ?_, trivial⟩ ?_
            · omega
            · first | exact hl_ | (rw [f89_]; exact hl_)
            · first | exact hy_ | (rw [f89_]; exact hy_)
            · first | exact hn0_ | (exact fun p_ => (own_ls r9_ h2_.1 (by omega) p_).trans (hn0_ p_))
            · first | exact hst1_ | exact bst_ls hst1_ r9_
            · first | exact hop1_ | exact ropn_ls hop1_ r9_ (by omega) f2_ o9_
            · first | exact hro_ | exact rot_ls hro_ r9_
            · first | exact htr_ | exact ⟨f90_.trans htr_.1, f11_.trans htr_.2⟩
            · first | exact hz1_ | (rw [o9_, if_neg (by omega)]; exact hz1_)
            · first | exact hw_ | (rw [f89_]; exact hw_)
            · exact hCx11_
            · omega
    · rintro ct k_ S_ hI_ hF_ ⟨h0_, hl_, hy_, hn1_, hn2_, htt_, hst2_, hop1_, hro_, hz1_, hw_, hw1_, hC_, -⟩ hm_
      have e2_ : S_.1 8 0 2 = S0_.1 8 0 2 := hF_.1 8 0 2 rfl
      have e1_ : S_.1 8 0 1 = S0_.1 8 0 1 := hF_.1 8 0 1 rfl
      have e86_ : S_.2.2.1 86 0 = S0_.2.2.1 86 0 := fr_arr hF_ rfl
      have cL_ : 0 ≤ S_.1 8 0 2 ∧ S_.1 8 0 2 ≤ 2356 := hI_.1 8 0 2 rfl
      have ctz_ : 0 ≤ S_.1 8 0 11 ∧ S_.1 8 0 11 ≤ 4712 := hI_.1 8 0 11 rfl
      refine sm_T_go 3 (c1 := (164, [some (.inr (.inr (some (8, 0)))), some (.inl a1_), some (.inl a2_), some (.inl ct), some (.inl k_), none, none], [.inl 1, .inl ct, .inl k_], S_)) rfl ?_
      refine sm_T_bin (w := ct - 1) rfl (bi_sub (by omega) (by omega) (by omega)) ?_ -- pc_ 164
      refine sm_T_br (a := 3) (z := 71) rfl (fun cx1_ => ?_) (fun cx1_ => ?_)
      · have cx1_ : ct - 1 ≤ k_ := of_decide_eq_true cx1_
        refine sm_T_rv rfl ⟨_, _, rfl, rfl, hI_, hF_, ?_⟩
        refine ⟨hC_, ?_⟩
        refine ⟨htt_, fun p_ hp9_ hn9_ => ?_, hop1_, hro_, hz1_, hw1_ (by omega)⟩
        rcases hst2_ p_ hp9_ hn9_ with u9_ | u9_
        · exact u9_
        · rw [u9_, show k_.toNat = (ct - 1).toNat by omega, hn2_]; omega
      · have cx1_ : ¬ (ct - 1 ≤ k_) := of_decide_eq_false cx1_
        have w9_ := hy_ k_.toNat (by omega)
        have w8_ := hy_ (k_ + 1).toNat (by omega)
        have x9_ := hn1_ k_.toNat (by omega) (by omega)
        have tb9_ := trt_b htt_ (x_ := (S_.2.2.1 89 0 k_.toNat)) (by omega) x9_
        refine sm_T_go 1 (c1 := (169, [some (.inr (.inr (some (8, 0)))), some (.inl a1_), some (.inl a2_), some (.inl ct), some (.inl k_), none, none], [.inr (.inr (some (8, 0)))], S_)) rfl ?_
        refine sm_T_gr rfl rfl ((hF_.2.1 8 0 0 rfl).trans hb_) ?_
        refine sm_T_go 4 (c1 := (181, [some (.inr (.inr (some (8, 0)))), some (.inl a1_), some (.inl a2_), some (.inl ct), some (.inl k_), none, none], [.inl k_, .inr (.inr (some (89, 0))), .inr (.inr (some (22, (0 + bb_))))], S_)) rfl ?_
        refine sm_T_iald (n := 4712) rfl rfl (by omega) (by omega) ?_
        have bx2_ : 0 ≤ S_.2.2.1 89 0 k_.toNat ∧ S_.2.2.1 89 0 k_.toNat ≤ 4711 := hI_.2 89 0 _
        refine sm_T_go 1 (c1 := (183, [some (.inr (.inr (some (8, 0)))), some (.inl a1_), some (.inl a2_), some (.inl ct), some (.inl k_), none, none], [.inl a2_, .inl (S_.2.2.1 89 0 k_.toNat), .inr (.inr (some (22, (0 + bb_))))], S_)) rfl ?_
        refine sm_T_iast (n := 4712) rfl rfl (by omega) (by omega) ?_
        have hIx3_ : gi (sm_aI S_ 22 (0 + bb_) (S_.2.2.1 89 0 k_.toNat).toNat a2_) := gi_aI hI_ (show (-1) ≤ a2_ ∧ a2_ ≤ 161 from ⟨by omega, by omega⟩)
        have hFx4_ : ai_fr (sx_W vw_165) S0_ (sm_aI S_ 22 (0 + bb_) (S_.2.2.1 89 0 k_.toNat).toNat a2_) := ai_fr_tr hF_ (ai_fr_aI rfl)
        have hCx5_ : cdf bb_ S0_ (sm_aI S_ 22 (0 + bb_) (S_.2.2.1 89 0 k_.toNat).toNat a2_) := cdf_aI hC_ (Or.inr (by rw [show cof 22 = 0 from rfl] <;> omega))
        have bx6_ : 0 ≤ S_.1 8 0 11 ∧ S_.1 8 0 11 ≤ 4712 := hI_.1 8 0 11 rfl
        refine sm_T_go 7 (c1 := (198, [some (.inr (.inr (some (8, 0)))), some (.inl a1_), some (.inl a2_), some (.inl ct), some (.inl k_), none, none], [.inl k_, .inr (.inr (some (89, 0))), .inl (S_.1 8 0 11), .inr (.inr (some (90, 0)))], sm_aI S_ 22 (0 + bb_) (S_.2.2.1 89 0 k_.toNat).toNat a2_)) rfl ?_
        refine sm_T_iald (n := 4712) rfl rfl (by omega) (by omega) ?_
        refine sm_T_go 0 (c1 := (199, [some (.inr (.inr (some (8, 0)))), some (.inl a1_), some (.inl a2_), some (.inl ct), some (.inl k_), none, none], [.inl (S_.2.2.1 89 0 k_.toNat), .inl (S_.1 8 0 11), .inr (.inr (some (90, 0)))], sm_aI S_ 22 (0 + bb_) (S_.2.2.1 89 0 k_.toNat).toNat a2_)) rfl ?_
        refine sm_T_iast (n := 4712) rfl rfl (by omega) (by omega) ?_
        have hIx7_ : gi (sm_aI (sm_aI S_ 22 (0 + bb_) (S_.2.2.1 89 0 k_.toNat).toNat a2_) 90 0 (S_.1 8 0 11).toNat (S_.2.2.1 89 0 k_.toNat)) := gi_aI hIx3_ (show 0 ≤ (S_.2.2.1 89 0 k_.toNat) ∧ (S_.2.2.1 89 0 k_.toNat) ≤ 4711 from ⟨by omega, by omega⟩)
        have hFx8_ : ai_fr (sx_W vw_165) S0_ (sm_aI (sm_aI S_ 22 (0 + bb_) (S_.2.2.1 89 0 k_.toNat).toNat a2_) 90 0 (S_.1 8 0 11).toNat (S_.2.2.1 89 0 k_.toNat)) := ai_fr_tr hFx4_ (ai_fr_aI rfl)
        have hCx9_ : cdf bb_ S0_ (sm_aI (sm_aI S_ 22 (0 + bb_) (S_.2.2.1 89 0 k_.toNat).toNat a2_) 90 0 (S_.1 8 0 11).toNat (S_.2.2.1 89 0 k_.toNat)) := cdf_aI hCx5_ (Or.inl rfl)
        refine sm_T_go 4 (c1 := (206, [some (.inr (.inr (some (8, 0)))), some (.inl a1_), some (.inl a2_), some (.inl ct), some (.inl k_), none, none], [.inl 1, .inl (S_.1 8 0 11), .inr (.inr (some (8, 0)))], sm_aI (sm_aI S_ 22 (0 + bb_) (S_.2.2.1 89 0 k_.toNat).toNat a2_) 90 0 (S_.1 8 0 11).toNat (S_.2.2.1 89 0 k_.toNat))) rfl ?_
        refine sm_T_bin (w := (S_.1 8 0 11) + 1) rfl (bi_add (by omega) (by omega) (by omega)) ?_ -- pc_ 206
        have hIx10_ : gi (sm_pI (sm_aI (sm_aI S_ 22 (0 + bb_) (S_.2.2.1 89 0 k_.toNat).toNat a2_) 90 0 (S_.1 8 0 11).toNat (S_.2.2.1 89 0 k_.toNat)) 8 0 11 ((S_.1 8 0 11) + 1)) := gi_pI hIx7_ (show 0 ≤ (S_.1 8 0 11) + 1 ∧ (S_.1 8 0 11) + 1 ≤ 4712 from ⟨by omega, by omega⟩)
        have hFx11_ : ai_fr (sx_W vw_165) S0_ (sm_pI (sm_aI (sm_aI S_ 22 (0 + bb_) (S_.2.2.1 89 0 k_.toNat).toNat a2_) 90 0 (S_.1 8 0 11).toNat (S_.2.2.1 89 0 k_.toNat)) 8 0 11 ((S_.1 8 0 11) + 1)) := ai_fr_tr hFx8_ (ai_fr_pI rfl)
        have hCx12_ : cdf bb_ S0_ (sm_pI (sm_aI (sm_aI S_ 22 (0 + bb_) (S_.2.2.1 89 0 k_.toNat).toNat a2_) 90 0 (S_.1 8 0 11).toNat (S_.2.2.1 89 0 k_.toNat)) 8 0 11 ((S_.1 8 0 11) + 1)) := cdf_pI hCx9_ (Or.inl rfl)
        refine sm_T_go 5 (c1 := (217, [some (.inr (.inr (some (8, 0)))), some (.inl a1_), some (.inl a2_), some (.inl ct), some (.inl k_), none, none], [.inl k_, .inr (.inr (some (89, 0))), .inr (.inr (some (8, 0)))], sm_pI (sm_aI (sm_aI S_ 22 (0 + bb_) (S_.2.2.1 89 0 k_.toNat).toNat a2_) 90 0 (S_.1 8 0 11).toNat (S_.2.2.1 89 0 k_.toNat)) 8 0 11 ((S_.1 8 0 11) + 1))) rfl ?_
        refine sm_T_iald (n := 4712) rfl rfl (by omega) (by omega) ?_
        refine sm_T_go 4 (c1 := (225, [some (.inr (.inr (some (8, 0)))), some (.inl a1_), some (.inl a2_), some (.inl ct), some (.inl k_), none, none], [.inl 1, .inl k_, .inr (.inr (some (89, 0))), .inl (S_.2.2.1 89 0 k_.toNat), .inr (.inr (some (8, 0)))], sm_pI (sm_aI (sm_aI S_ 22 (0 + bb_) (S_.2.2.1 89 0 k_.toNat).toNat a2_) 90 0 (S_.1 8 0 11).toNat (S_.2.2.1 89 0 k_.toNat)) 8 0 11 ((S_.1 8 0 11) + 1))) rfl ?_
        refine sm_T_bin (w := k_ + 1) rfl (bi_add (by omega) (by omega) (by omega)) ?_ -- pc_ 225
        refine sm_T_iald (n := 4712) rfl rfl (by omega) (by omega) ?_
        have bx13_ : 0 ≤ S_.2.2.1 89 0 (k_ + 1).toNat ∧ S_.2.2.1 89 0 (k_ + 1).toNat ≤ 4711 := hI_.2 89 0 _
        refine sm_T_go 0 (c1 := (227, [some (.inr (.inr (some (8, 0)))), some (.inl a1_), some (.inl a2_), some (.inl ct), some (.inl k_), none, none], [.inl (S_.2.2.1 89 0 (k_ + 1).toNat), .inl (S_.2.2.1 89 0 k_.toNat), .inr (.inr (some (8, 0)))], sm_pI (sm_aI (sm_aI S_ 22 (0 + bb_) (S_.2.2.1 89 0 k_.toNat).toNat a2_) 90 0 (S_.1 8 0 11).toNat (S_.2.2.1 89 0 k_.toNat)) 8 0 11 ((S_.1 8 0 11) + 1))) rfl ?_
        refine sm_T_cal (d1 := 0) (Q1 := vq_167 (S_.2.2.1 89 0 k_.toNat) (S_.2.2.1 89 0 (k_ + 1).toNat) bb_ (sm_pI (sm_aI (sm_aI S_ 22 (0 + bb_) (S_.2.2.1 89 0 k_.toNat).toNat a2_) 90 0 (S_.1 8 0 11).toNat (S_.2.2.1 89 0 k_.toNat)) 8 0 11 ((S_.1 8 0 11) + 1))) rfl rfl (by decide) (vc_167 (S_.2.2.1 89 0 k_.toNat) (S_.2.2.1 89 0 (k_ + 1).toNat) bb_ (sm_pI (sm_aI (sm_aI S_ 22 (0 + bb_) (S_.2.2.1 89 0 k_.toNat).toNat a2_) 90 0 (S_.1 8 0 11).toNat (S_.2.2.1 89 0 k_.toNat)) 8 0 11 ((S_.1 8 0 11) + 1)) hIx10_ (by exact (hFx11_.2.1 8 0 0 rfl).trans hb_) (by omega) (by omega)) (fun u_ Sx14_ px17_ => ?_)
        obtain ⟨rfl, hIx15_, hFx16_, px17_⟩ := px17_
        have hFx18_ : ai_fr (sx_W vw_165) S0_ Sx14_ := ai_fr_tr hFx11_ (fr_le hFx16_ rfl)
        obtain ⟨dx20_, px17_⟩ := px17_
        have hCx19_ : cdf bb_ S0_ Sx14_ := cdf_tr hCx12_ (cdf_cg (by omega) dx20_)
        have j9_ := px17_
        have q22_ := fr_arr (t := 22) (i := 0 + bb_) hFx16_ rfl
        have q24_ := fr_arr (t := 24) (i := 0 + bb_) hFx16_ rfl
        have q89_ := fr_arr (t := 89) (i := 0) hFx16_ rfl
        have q90_ := fr_arr (t := 90) (i := 0) hFx16_ rfl
        have f2_ : Sx14_.1 8 0 2 = S_.1 8 0 2 := hFx16_.1 8 0 2 rfl
        have f11_ : Sx14_.1 8 0 11 = S_.1 8 0 11 + 1 := hFx16_.1 8 0 11 rfl
        have r22_ : ∀ j_, Sx14_.2.2.1 22 (0 + bb_) j_ = if j_ = (S_.2.2.1 89 0 k_.toNat).toNat then a2_ else S_.2.2.1 22 (0 + bb_) j_ := fun j_ => by rw [q22_, rd_fa, rd_ne (by decide), rd_eq]
        have r90_ : ∀ i_, Sx14_.2.2.1 90 0 i_ = if i_ = (S_.1 8 0 11).toNat then (S_.2.2.1 89 0 k_.toNat) else S_.2.2.1 90 0 i_ := fun i_ => by rw [q90_, rd_fa, rd_eq, rd_ne (by decide)]
        have r89_ : Sx14_.2.2.1 89 0 = S_.2.2.1 89 0 := by (rw [q89_, rd_fa, rd_ne_ (by decide), rd_ne_ (by decide)])
        have r24_ : Sx14_.2.2.1 24 (0 + bb_) = S_.2.2.1 24 (0 + bb_) := by (rw [q24_, rd_fa, rd_ne_ (by decide), rd_ne_ (by decide)])
        have r23_ : ∃ s9_, ∀ j_, Sx14_.2.2.1 23 (0 + bb_) j_ = if j_ = (sm_mn (S_.2.2.1 89 0 k_.toNat) (S_.2.2.1 89 0 (k_ + 1).toNat)).toNat then s9_ else S_.2.2.1 23 (0 + bb_) j_ := by (obtain ⟨s9_, q9_⟩ := j9_; exact ⟨s9_, fun j_ => by rw [q9_ j_, rd_fa, rd_ne (by decide), rd_ne (by decide)]⟩)
        refine sm_T_inc (a := 4) (z := 1) (v := k_) (w := k_ + 1) rfl rfl (by omega) (by omega) (by omega) ?_ -- pc_ 230
        refine sm_T_go 1 (c1 := (160, [some (.inr (.inr (some (8, 0)))), some (.inl a1_), some (.inl a2_), some (.inl ct), some (.inl (k_ + 1)), none, none], [], Sx14_)) rfl ?_
        refine ih_.2.2 ct (k_ + 1) Sx14_ hIx15_ hFx18_ ⟨?_, ?_, ?_, ?_, ?_, ?_, ?_, ?_, ?_, ?_, ?_, ?_, ?_, trivial⟩ ?_
        · omega
        · (rw [r89_]; exact hl_)
        · (rw [r89_]; exact hy_)
        · intro j_ u_ w_
          rw [r89_, r22_, if_neg (rwy_i hy_ (show k_.toNat < j_ by omega) (by omega)).2]
          exact hn1_ j_ (by omega) w_
        · rw [r89_, r22_]
          split
          · rfl
          · exact hn2_
        · exact trt_add htt_ (by omega) x9_ ctz_.1 r22_ r90_ f11_ f2_
        · intro p_ u_ w_
          obtain ⟨s9_, r23_⟩ := r23_
          rw [r23_] at w_
          rw [r22_, r89_]
          by_cases y_ : p_ = (S_.2.2.1 89 0 k_.toNat).toNat
          · left; rw [if_pos y_]; omega
          · rw [if_neg y_]
            by_cases z_ : p_ = (sm_mn (S_.2.2.1 89 0 k_.toNat) (S_.2.2.1 89 0 (k_ + 1).toNat)).toNat
            · right
              have mn := sm_mn_d (S_.2.2.1 89 0 k_.toNat) (S_.2.2.1 89 0 (k_ + 1).toNat)
              rcases mn.2.2 with v_ | v_
              · rw [v_] at z_; exact absurd z_ y_
              · rw [v_] at z_; exact z_
            · rw [if_neg z_] at w_
              rcases hst2_ p_ u_ w_ with v_ | v_
              · left; exact v_
              · exact absurd v_ y_
        · intro c_ u_ w_ p_ v_
          rw [r24_] at w_
          rw [f2_] at v_
          rw [r22_]
          split
          · intro y_
            rw [show c_ = a2_.toNat by omega] at w_
            exact w_ hz1_
          · exact hop1_ c_ u_ w_ p_ v_
        · intro p_
          rw [r22_]
          split
          · right; right; rfl
          · exact hro_ p_
        · (rw [r24_]; exact hz1_)
        · (rw [r89_]; exact hw_)
        · intro u_
          rw [r22_]
          split
          · rfl
          · by_cases y_ : k_ = 0
            · exfalso; rename_i z9_; apply z9_; rw [y_, show (0 : Int).toNat = 0 from rfl, hw_]
            · exact hw1_ (by omega)
        · exact hCx19_
        · omega
set_option maxHeartbeats 3000000 in
set_option maxRecDepth 20000 in
theorem vc_165 {sc_ : Nat × (Nat → Int)} (a1_ : Int) (a2_ : Int) (bb_ : Nat) (S0_ : sm_S) (hI_ : gi S0_) (hb_ : S0_.2.1 8 0 0 = some bb_) (hg_ : rgw S0_) (h1_ : 0 ≤ a1_ ∧ a1_ < 2 * S0_.1 8 0 2) (h2_ : 0 ≤ a2_ ∧ a2_ ≤ 161) (hr_ : rsp bb_ a2_ S0_) (ht_ : trt bb_ a2_ S0_) (hf_ : 0 < S0_.2.2.1 86 0 a1_.toNat) (hst_ : bst bb_ S0_) (hop_ : ropn bb_ S0_) (hz_ : S0_.2.2.1 24 (0 + bb_) a2_.toNat = 0) : sm_T (mt_P sc_) 2 165 (0, [some (.inr (.inr (some (8, 0)))), some (.inl a1_), some (.inl a2_), none, none, none, none], [], S0_) (fun ro9_ => ∃ u_ S1_, ro9_ = (.inl u_, S1_, 0) ∧ vq_165 a1_ a2_ bb_ S0_ u_ S1_) := by
  have hF_ : ai_fr (sx_W vw_165) S0_ S0_ := ai_fr_rf
  have hC_ : cdf bb_ S0_ S0_ := cdf_rf
  have cL_ : 0 ≤ S0_.1 8 0 2 ∧ S0_.1 8 0 2 ≤ 2356 := hI_.1 8 0 2 rfl
  refine sm_T_go 4 (c1 := (6, [some (.inr (.inr (some (8, 0)))), some (.inl a1_), some (.inl a2_), none, none, none, none], [.inl a1_, .inl 0, .inr (.inr (some (89, 0)))], S0_)) rfl ?_
  refine sm_T_iast (n := 4712) rfl rfl (by omega) (by omega) ?_
  have hIx1_ : gi (sm_aI S0_ 89 0 (0 : Int).toNat a1_) := gi_aI hI_ (show 0 ≤ a1_ ∧ a1_ ≤ 4711 from ⟨by omega, by omega⟩)
  have hFx2_ : ai_fr (sx_W vw_165) S0_ (sm_aI S0_ 89 0 (0 : Int).toNat a1_) := ai_fr_tr hF_ (ai_fr_aI rfl)
  have hCx3_ : cdf bb_ S0_ (sm_aI S0_ 89 0 (0 : Int).toNat a1_) := cdf_aI hC_ (Or.inl rfl)
  refine sm_T_go 4 (c1 := (12, [some (.inr (.inr (some (8, 0)))), some (.inl a1_), some (.inl a2_), some (.inl 1), some (.inl 0), none, none], [], sm_aI S0_ 89 0 (0 : Int).toNat a1_)) rfl ?_
  refine (vl_165 a1_ a2_ bb_ S0_ hb_ hg_ h1_ h2_ hr_ ht_ hf_ hst_ hop_ hz_ _).1 1 0 (sm_aI S0_ 89 0 (0 : Int).toNat a1_) hIx1_ hFx2_ ⟨?_, ?_, ?_, ?_, ?_, ?_, trivial⟩ (Nat.lt_succ_self _)
  · omega
  · exact ⟨rd_ne_ (by decide), rd_ne_ (by decide), rd_ne_ (by decide), rd_ne_ (by decide), rfl⟩
  · intro i_ hi_
    have z_ : i_ = 0 := by omega
    rw [z_, rd_eq, if_pos (by decide)]
    exact ⟨h1_, by omega, fun u_ => by omega⟩
  · have z_ := cnd_lt (f := (S0_.2.2.1 86 0)) (d := (S0_.2.2.1 86 0) a1_.toNat) (e := (S0_.2.2.1 86 0) a1_.toNat + 1) (j := a1_.toNat) (by omega) (by omega) (by omega) (by omega) (n := (2 * S0_.1 8 0 2).toNat) (by omega)
    have y_ := cnd_le (S0_.2.2.1 86 0) ((S0_.2.2.1 86 0) a1_.toNat + 1) (2 * S0_.1 8 0 2).toNat
    rw [rd_eq, if_pos (by decide)]
    omega
  · (rw [rd_eq, if_pos (by decide)])
  · exact hCx3_
end
/-! 99.zkha -/
section
/-! nets connected; written by wip/p55/gen/vg -/

/-! nets connected -/
theorem trt_1 {bb_ : Nat} {t_ x_ : Int} {S_ S'_ : sm_S} (hx_ : 0 ≤ x_ ∧ x_ < 2 * S'_.1 8 0 2) (ho_ : ∀ p_ : Nat, (p_ : Int) < 2 * S'_.1 8 0 2 → S_.2.2.1 22 (0 + bb_) p_ ≠ t_) (h1_ : ∀ j_, S'_.2.2.1 22 (0 + bb_) j_ = if j_ = x_.toNat then t_ else S_.2.2.1 22 (0 + bb_) j_) (h2_ : S'_.2.2.1 90 0 0 = x_) (h3_ : S'_.1 8 0 11 = 1) : trt bb_ t_ S'_ := by
  refine ⟨?_, fun i_ hi_ => ?_, fun p_ hp_ hq_ => ?_⟩
  · have u_ := cne_up (f := S_.2.2.1 22 (0 + bb_)) (g := S'_.2.2.1 22 (0 + bb_)) (c := t_) (j := x_.toNat) (ho_ _ (by omega)) (by rw [h1_, if_pos rfl]) (fun k_ hk_ => by rw [h1_, if_neg hk_]) (n := (2 * S'_.1 8 0 2).toNat) (by omega)
    rw [cne_0 (fun k_ hk_ => ho_ k_ (by omega))] at u_
    rw [h3_, u_]
    rfl
  · have z_ : i_ = 0 := by omega
    rw [z_, h2_]
    exact ⟨hx_, by rw [h1_, if_pos rfl]⟩
  · rw [h1_] at hq_
    by_cases z_ : p_ = x_.toNat
    · exact ⟨0, by omega, by rw [h2_]; omega⟩
    · rw [if_neg z_] at hq_
      exact absurd hq_ (ho_ p_ hp_)
theorem rot_tr {bb_ : Nat} {t_ : Int} {S_ S'_ S2_ : sm_S} (h_ : rot bb_ t_ S_ S'_) (g_ : rot bb_ t_ S'_ S2_) : rot bb_ t_ S_ S2_ := by
  intro p_
  rcases g_ p_ with a_ | a_ | a_
  · rw [a_]; exact h_ p_
  · exact Or.inr (Or.inl a_)
  · exact Or.inr (Or.inr a_)
theorem ropn_cg {bb_ : Nat} {S_ S'_ : sm_S} (h_ : ropn bb_ S_) (e_ : S'_.1 8 0 2 = S_.1 8 0 2) (a_ : S'_.2.2.1 22 (0 + bb_) = S_.2.2.1 22 (0 + bb_)) (b_ : S'_.2.2.1 24 (0 + bb_) = S_.2.2.1 24 (0 + bb_)) : ropn bb_ S'_ := by
  unfold ropn
  rw [e_, a_, b_]
  exact h_
theorem bst_cg {bb_ : Nat} {S_ S'_ : sm_S} (h_ : bst bb_ S_) (a_ : S'_.2.2.1 22 (0 + bb_) = S_.2.2.1 22 (0 + bb_)) (b_ : S'_.2.2.1 23 (0 + bb_) = S_.2.2.1 23 (0 + bb_)) : bst bb_ S'_ := by
  unfold bst
  rw [a_, b_]
  exact h_
/-! Router.connect -/
def vw_157 : sx_Wl := ([(8, 6), (8, 8), (8, 11)], [22, 23, 24, 86, 87, 88, 89, 90], [])
def vq_157 (a1_ : Int) (a2_ : Int) (bb_ : Nat) (S0_ : sm_S) (u_ : Option sm_V) (S1_ : sm_S) : Prop := ∃ v_ : Int, u_ = some (.inl v_) ∧ gi S1_ ∧ ai_fr (sx_W vw_157) S0_ S1_ ∧ (cdf bb_ S0_ S1_ ∧ ((0 ≤ v_ ∧ v_ ≤ 1) ∧ bst bb_ S1_ ∧ ropn bb_ S1_ ∧ rot bb_ a1_ S0_ S1_))
set_option maxHeartbeats 3000000 in
theorem vl_157 {sc_ : Nat × (Nat → Int)} (a1_ : Int) (a2_ : Int) (bb_ : Nat) (S0_ : sm_S) (hb_ : S0_.2.1 8 0 0 = some bb_) (hg_ : rgw S0_) (h1_ : 0 ≤ a1_ ∧ a1_ ≤ 161) (hn_ : bpn bb_ S0_) (hp_ : rpt bb_ S0_) (hst_ : bst bb_ S0_) (hop_ : ropn bb_ S0_) (hno_ : ∀ p_ : Nat, (p_ : Int) < 2 * S0_.1 8 0 2 → S0_.2.2.1 22 (0 + bb_) p_ ≠ a1_) (hk1_ : 1 ≤ S0_.2.2.1 20 (0 + bb_) a1_.toNat) : ∀ nn_ : Nat, (∀ (k_ : Int) (S_ : sm_S), gi S_ → ai_fr (sx_W vw_157) S0_ S_ → ((1 ≤ k_ ∧ k_ ≤ 652) ∧ (trt bb_ a1_ S_) ∧ (bst bb_ S_) ∧ (ropn bb_ S_) ∧ (rot bb_ a1_ S0_ S_) ∧ (S_.2.2.1 24 (0 + bb_) a1_.toNat = 0) ∧ (cdf bb_ S0_ S_) ∧ True) → ((1000 - k_).toNat) < nn_ → sm_T (mt_P sc_) 4 157 (42, [some (.inr (.inr (some (8, 0)))), some (.inl a1_), some (.inl a2_), none, some (.inl k_), none], [], S_) (fun ro9_ => ∃ u_ S1_, ro9_ = (.inl u_, S1_, 0) ∧ vq_157 a1_ a2_ bb_ S0_ u_ S1_)) := by
  intro nn_
  induction nn_ with
  | zero => exact fun _ _ _ _ _ h_ => absurd h_ (Nat.not_lt_zero _)
  | succ nn_ ih_ =>
    rintro k_ S_ hI_ hF_ ⟨h0_, htt_, hst1_, hop1_, hro_, hz1_, hC_, -⟩ hm_
    have e2_ : S_.1 8 0 2 = S0_.1 8 0 2 := hF_.1 8 0 2 rfl
    have cL_ : 0 ≤ S_.1 8 0 2 ∧ S_.1 8 0 2 ≤ 2356 := hI_.1 8 0 2 rfl
    have k20_ : S_.2.2.1 20 (0 + bb_) = S0_.2.2.1 20 (0 + bb_) := fr_arr hF_ rfl
    refine sm_T_go 2 (c1 := (45, [some (.inr (.inr (some (8, 0)))), some (.inl a1_), some (.inl a2_), none, some (.inl k_), none], [.inr (.inr (some (8, 0))), .inl k_], S_)) rfl ?_
    refine sm_T_gr rfl rfl ((hF_.2.1 8 0 0 rfl).trans hb_) ?_
    refine sm_T_go 2 (c1 := (52, [some (.inr (.inr (some (8, 0)))), some (.inl a1_), some (.inl a2_), none, some (.inl k_), none], [.inl a1_, .inr (.inr (some (20, (0 + bb_)))), .inl k_], S_)) rfl ?_
    refine sm_T_iald (n := 162) rfl rfl (by omega) (by omega) ?_
    have bx1_ : 0 ≤ S_.2.2.1 20 (0 + bb_) a1_.toNat ∧ S_.2.2.1 20 (0 + bb_) a1_.toNat ≤ 652 := hI_.2 20 (0 + bb_) _
    refine sm_T_br (a := 3) (z := 47) rfl (fun cx2_ => ?_) (fun cx2_ => ?_)
    · have cx2_ : (S_.2.2.1 20 (0 + bb_) a1_.toNat) ≤ k_ := of_decide_eq_true cx2_
      refine sm_T_go 1 (c1 := (101, [some (.inr (.inr (some (8, 0)))), some (.inl a1_), some (.inl a2_), none, some (.inl k_), none], [.inl 1], S_)) rfl ?_
      refine sm_T_rz rfl (by omega) ⟨_, _, rfl, _, rfl, hI_, hF_, ?_⟩
      refine ⟨hC_, ?_⟩
      exact ⟨by omega, hst1_, hop1_, hro_⟩
    · have cx2_ : ¬ ((S_.2.2.1 20 (0 + bb_) a1_.toNat) ≤ k_) := of_decide_eq_false cx2_
      refine sm_T_go 3 (c1 := (59, [some (.inr (.inr (some (8, 0)))), some (.inl a1_), some (.inl a2_), none, some (.inl k_), none], [.inl (-1), .inl a1_, .inr (.inr (some (8, 0)))], S_)) rfl ?_
      refine sm_T_cal (d1 := 2) (Q1 := vq_158 a1_ (-1) bb_ S_) rfl rfl (by decide) (vc_158 a1_ (-1) bb_ S_ hI_ (by exact (hF_.2.1 8 0 0 rfl).trans hb_) (by omega) (by exact bpn_fr hn_ hF_ rfl rfl rfl rfl) (by exact rpt_fr hp_ hF_)) (fun u_ Sx3_ px6_ => ?_)
      obtain ⟨rfl, vx8_, rfl, px6_⟩ := px6_
      refine sm_T_go 1 (c1 := (63, [some (.inr (.inr (some (8, 0)))), some (.inl a1_), some (.inl a2_), none, some (.inl k_), none], [.inl (-1), .inl vx8_], S_)) rfl ?_
      refine sm_T_br (a := 0) (z := 37) rfl (fun cx9_ => ?_) (fun cx9_ => ?_)
      · have cx9_ : vx8_ = (-1) := of_decide_eq_true cx9_
        refine sm_T_go 1 (c1 := (101, [some (.inr (.inr (some (8, 0)))), some (.inl a1_), some (.inl a2_), none, some (.inl k_), none], [.inl 1], S_)) rfl ?_
        refine sm_T_rz rfl (by omega) ⟨_, _, rfl, _, rfl, hI_, hF_, ?_⟩
        refine ⟨hC_, ?_⟩
        exact ⟨by omega, hst1_, hop1_, hro_⟩
      · have cx9_ : ¬ (vx8_ = (-1)) := of_decide_eq_false cx9_
        refine sm_T_go 3 (c1 := (69, [some (.inr (.inr (some (8, 0)))), some (.inl a1_), some (.inl a2_), none, some (.inl k_), none], [.inl a2_, .inl a1_, .inr (.inr (some (8, 0)))], S_)) rfl ?_
        refine sm_T_cal (d1 := 3) (Q1 := vq_161 a1_ a2_ bb_ S_) rfl rfl (by decide) (vc_161 a1_ a2_ bb_ S_ hI_ (by exact (hF_.2.1 8 0 0 rfl).trans hb_) (by exact rgw_fr hg_ hF_) (by omega) (by exact bpn_fr hn_ hF_ rfl rfl rfl rfl) (by exact rpt_fr hp_ hF_) (by exact htt_)) (fun u_ Sx10_ px13_ => ?_)
        obtain ⟨vx15_, rfl, hIx11_, hFx12_, px13_⟩ := px13_
        have hFx14_ : ai_fr (sx_W vw_157) S0_ Sx10_ := ai_fr_tr hF_ (fr_le hFx12_ rfl)
        have hCx16_ : cdf bb_ S0_ Sx10_ := cdf_tr hC_ (cdf_fr hFx12_ rfl)
        have s9_ := px13_
        have f2_ := hFx12_.1 8 0 2 rfl
        have f22_ : Sx10_.2.2.1 22 (0 + bb_) = S_.2.2.1 22 (0 + bb_) := fr_arr hFx12_ rfl
        have f23_ : Sx10_.2.2.1 23 (0 + bb_) = S_.2.2.1 23 (0 + bb_) := fr_arr hFx12_ rfl
        have f24_ : Sx10_.2.2.1 24 (0 + bb_) = S_.2.2.1 24 (0 + bb_) := fr_arr hFx12_ rfl
        have f90_ : Sx10_.2.2.1 90 0 = S_.2.2.1 90 0 := fr_arr hFx12_ rfl
        have f11_ := hFx12_.1 8 0 11 rfl
        have t9_ := trt_cg htt_ f2_ f11_ f90_ (fun p_ => by rw [f22_])
        have b9_ := bst_cg hst1_ f22_ f23_
        have o9_ := ropn_cg hop1_ f2_ f22_ f24_
        have z9_ : Sx10_.2.2.1 24 (0 + bb_) a1_.toNat = 0 := by (rw [f24_]; exact hz1_)
        have r9_ : rot bb_ a1_ S0_ Sx10_ := by (intro p_; rw [f22_]; exact hro_ p_)
        refine sm_T_go 3 (c1 := (77, [some (.inr (.inr (some (8, 0)))), some (.inl a1_), some (.inl a2_), none, some (.inl k_), some (.inl vx15_)], [.inl (-1), .inl vx15_], Sx10_)) rfl ?_
        refine sm_T_br (a := 1) (z := 10) rfl (fun cx17_ => ?_) (fun cx17_ => ?_)
        · have cx17_ : vx15_ ≠ (-1) := of_decide_eq_true cx17_
          refine sm_T_go 3 (c1 := (91, [some (.inr (.inr (some (8, 0)))), some (.inl a1_), some (.inl a2_), none, some (.inl k_), some (.inl vx15_)], [.inl a1_, .inl vx15_, .inr (.inr (some (8, 0)))], Sx10_)) rfl ?_
          refine sm_T_cal (d1 := 2) (Q1 := vq_165 vx15_ a1_ bb_ Sx10_) rfl rfl (by decide) (vc_165 vx15_ a1_ bb_ Sx10_ hIx11_ (by exact (hFx14_.2.1 8 0 0 rfl).trans hb_) (by exact rgw_fr hg_ hFx14_) (by (rcases s9_ with u9_ | u9_; (exfalso; omega); exact u9_.1)) (by omega) (by (rcases s9_ with u9_ | u9_; (exfalso; omega); exact u9_.2.1)) (by exact t9_) (by (rcases s9_ with u9_ | u9_; (exfalso; omega); exact u9_.2.2.1)) (by exact b9_) (by exact o9_) (by exact z9_)) (fun u_ Sx18_ px21_ => ?_)
          obtain ⟨rfl, hIx19_, hFx20_, px21_⟩ := px21_
          have hFx22_ : ai_fr (sx_W vw_157) S0_ Sx18_ := ai_fr_tr hFx14_ (fr_le hFx20_ rfl)
          obtain ⟨dx24_, px21_⟩ := px21_
          have hCx23_ : cdf bb_ S0_ Sx18_ := cdf_tr hCx16_ (cdf_cg (by omega) dx24_)
          have w9_ := px21_
          refine sm_T_inc (a := 4) (z := 1) (v := k_) (w := k_ + 1) rfl rfl (by omega) (by omega) (by omega) ?_ -- pc_ 94
          refine sm_T_go 1 (c1 := (42, [some (.inr (.inr (some (8, 0)))), some (.inl a1_), some (.inl a2_), none, some (.inl (k_ + 1)), some (.inl vx15_)], [], Sx18_)) rfl ?_
          refine sm_T_wk [some (.inr (.inr (some (8, 0)))), some (.inl a1_), some (.inl a2_), none, some (.inl (k_ + 1)), none] (by exact ⟨rfl, rfl, rfl, rfl, trivial⟩) ?_
          refine ih_ (k_ + 1) Sx18_ hIx19_ hFx22_ ⟨?_, ?_, ?_, ?_, ?_, ?_, ?_, trivial⟩ ?_
          · omega
          · exact w9_.1
          · exact w9_.2.1
          · exact w9_.2.2.1
          · exact rot_tr r9_ w9_.2.2.2.1
          · exact w9_.2.2.2.2.1
          · exact hCx23_
          · omega
        · have cx17_ : ¬ (vx15_ ≠ (-1)) := of_decide_eq_false cx17_
          refine sm_T_go 2 (c1 := (82, [some (.inr (.inr (some (8, 0)))), some (.inl a1_), some (.inl a2_), none, some (.inl k_), some (.inl vx15_)], [.inl a1_, .inr (.inr (some (8, 0)))], Sx10_)) rfl ?_
          refine sm_T_cal (d1 := 0) (Q1 := vq_159 a1_ bb_ Sx10_) rfl rfl (by decide) (vc_159 a1_ bb_ Sx10_ hIx11_ (by exact (hFx14_.2.1 8 0 0 rfl).trans hb_) (by omega)) (fun u_ Sx25_ px28_ => ?_)
          obtain ⟨rfl, hIx26_, hFx27_, px28_⟩ := px28_
          have hFx29_ : ai_fr (sx_W vw_157) S0_ Sx25_ := ai_fr_tr hFx14_ (fr_le hFx27_ rfl)
          obtain ⟨dx31_, px28_⟩ := px28_
          have hCx30_ : cdf bb_ S0_ Sx25_ := cdf_tr hCx16_ (cdf_cg (by omega) dx31_)
          have l9_ := px28_
          have g2_ := hFx27_.1 8 0 2 rfl
          refine sm_T_go 1 (c1 := (86, [some (.inr (.inr (some (8, 0)))), some (.inl a1_), some (.inl a2_), none, some (.inl k_), some (.inl vx15_)], [.inl 0], Sx25_)) rfl ?_
          refine sm_T_rz rfl (by omega) ⟨_, _, rfl, _, rfl, hIx26_, hFx29_, ?_⟩
          refine ⟨hCx30_, ?_⟩
          exact ⟨by omega, bst_ls b9_ l9_.1, ropn_ls o9_ l9_.1 h1_.1 g2_ l9_.2, rot_ls r9_ l9_.1⟩
set_option maxHeartbeats 3000000 in
theorem vc_157 {sc_ : Nat × (Nat → Int)} (a1_ : Int) (a2_ : Int) (bb_ : Nat) (S0_ : sm_S) (hI_ : gi S0_) (hb_ : S0_.2.1 8 0 0 = some bb_) (hg_ : rgw S0_) (h1_ : 0 ≤ a1_ ∧ a1_ ≤ 161) (hn_ : bpn bb_ S0_) (hp_ : rpt bb_ S0_) (hst_ : bst bb_ S0_) (hop_ : ropn bb_ S0_) (hno_ : ∀ p_ : Nat, (p_ : Int) < 2 * S0_.1 8 0 2 → S0_.2.2.1 22 (0 + bb_) p_ ≠ a1_) (hk1_ : 1 ≤ S0_.2.2.1 20 (0 + bb_) a1_.toNat) : sm_T (mt_P sc_) 4 157 (0, [some (.inr (.inr (some (8, 0)))), some (.inl a1_), some (.inl a2_), none, none, none], [], S0_) (fun ro9_ => ∃ u_ S1_, ro9_ = (.inl u_, S1_, 0) ∧ vq_157 a1_ a2_ bb_ S0_ u_ S1_) := by
  have hF_ : ai_fr (sx_W vw_157) S0_ S0_ := ai_fr_rf
  have hC_ : cdf bb_ S0_ S0_ := cdf_rf
  have cL_ : 0 ≤ S0_.1 8 0 2 ∧ S0_.1 8 0 2 ≤ 2356 := hI_.1 8 0 2 rfl
  refine sm_T_go 3 (c1 := (3, [some (.inr (.inr (some (8, 0)))), some (.inl a1_), some (.inl a2_), none, none, none], [.inl (-1), .inl a1_, .inr (.inr (some (8, 0)))], S0_)) rfl ?_
  refine sm_T_cal (d1 := 2) (Q1 := vq_158 a1_ (-1) bb_ S0_) rfl rfl (by decide) (vc_158 a1_ (-1) bb_ S0_ hI_ (by exact hb_) (by omega) (by exact hn_) (by exact hp_)) (fun u_ Sx1_ px4_ => ?_)
  obtain ⟨rfl, vx6_, rfl, px4_⟩ := px4_
  have n3_ := px4_
  have p3_ := hp_ a1_.toNat (by omega) 0 (by omega)
  have v3_ : (0 ≤ vx6_ ∧ vx6_ < S0_.1 8 0 2) := by (rcases n3_ with u9_ | u9_; (exfalso; rcases u9_.2 0 (by omega) with w9_ | w9_; exact hno_ _ (by omega) w9_; exact w9_.1 rfl); exact u9_.1)
  refine sm_T_go 2 (c1 := (8, [some (.inr (.inr (some (8, 0)))), some (.inl a1_), some (.inl a2_), some (.inl vx6_), none, none], [.inr (.inr (some (8, 0)))], S0_)) rfl ?_
  refine sm_T_gr rfl rfl ((hF_.2.1 8 0 0 rfl).trans hb_) ?_
  refine sm_T_go 3 (c1 := (16, [some (.inr (.inr (some (8, 0)))), some (.inl a1_), some (.inl a2_), some (.inl vx6_), none, none], [.inl 0, .inl a1_, .inr (.inr (some (24, (0 + bb_))))], S0_)) rfl ?_
  refine sm_T_iast (n := 162) rfl rfl (by omega) (by omega) ?_
  have hIx7_ : gi (sm_aI S0_ 24 (0 + bb_) a1_.toNat 0) := gi_aI hI_ (show 0 ≤ 0 ∧ 0 ≤ 1 from ⟨by omega, by omega⟩)
  have hFx8_ : ai_fr (sx_W vw_157) S0_ (sm_aI S0_ 24 (0 + bb_) a1_.toNat 0) := ai_fr_tr hF_ (ai_fr_aI rfl)
  have hCx9_ : cdf bb_ S0_ (sm_aI S0_ 24 (0 + bb_) a1_.toNat 0) := cdf_aI hC_ (Or.inr (by rw [show cof 24 = 0 from rfl] <;> omega))
  refine sm_T_go 1 (c1 := (18, [some (.inr (.inr (some (8, 0)))), some (.inl a1_), some (.inl a2_), some (.inl vx6_), none, none], [.inr (.inr (some (8, 0)))], sm_aI S0_ 24 (0 + bb_) a1_.toNat 0)) rfl ?_
  refine sm_T_gr rfl rfl ((hFx8_.2.1 8 0 0 rfl).trans hb_) ?_
  refine sm_T_go 3 (c1 := (26, [some (.inr (.inr (some (8, 0)))), some (.inl a1_), some (.inl a2_), some (.inl vx6_), none, none], [.inl a1_, .inl vx6_, .inr (.inr (some (22, (0 + bb_))))], sm_aI S0_ 24 (0 + bb_) a1_.toNat 0)) rfl ?_
  refine sm_T_iast (n := 4712) rfl rfl (by omega) (by omega) ?_
  have hIx10_ : gi (sm_aI (sm_aI S0_ 24 (0 + bb_) a1_.toNat 0) 22 (0 + bb_) vx6_.toNat a1_) := gi_aI hIx7_ (show (-1) ≤ a1_ ∧ a1_ ≤ 161 from ⟨by omega, by omega⟩)
  have hFx11_ : ai_fr (sx_W vw_157) S0_ (sm_aI (sm_aI S0_ 24 (0 + bb_) a1_.toNat 0) 22 (0 + bb_) vx6_.toNat a1_) := ai_fr_tr hFx8_ (ai_fr_aI rfl)
  have hCx12_ : cdf bb_ S0_ (sm_aI (sm_aI S0_ 24 (0 + bb_) a1_.toNat 0) 22 (0 + bb_) vx6_.toNat a1_) := cdf_aI hCx9_ (Or.inr (by rw [show cof 22 = 0 from rfl] <;> omega))
  refine sm_T_go 4 (c1 := (33, [some (.inr (.inr (some (8, 0)))), some (.inl a1_), some (.inl a2_), some (.inl vx6_), none, none], [.inl vx6_, .inl 0, .inr (.inr (some (90, 0)))], sm_aI (sm_aI S0_ 24 (0 + bb_) a1_.toNat 0) 22 (0 + bb_) vx6_.toNat a1_)) rfl ?_
  refine sm_T_iast (n := 4712) rfl rfl (by omega) (by omega) ?_
  have hIx13_ : gi (sm_aI (sm_aI (sm_aI S0_ 24 (0 + bb_) a1_.toNat 0) 22 (0 + bb_) vx6_.toNat a1_) 90 0 (0 : Int).toNat vx6_) := gi_aI hIx10_ (show 0 ≤ vx6_ ∧ vx6_ ≤ 4711 from ⟨by omega, by omega⟩)
  have hFx14_ : ai_fr (sx_W vw_157) S0_ (sm_aI (sm_aI (sm_aI S0_ 24 (0 + bb_) a1_.toNat 0) 22 (0 + bb_) vx6_.toNat a1_) 90 0 (0 : Int).toNat vx6_) := ai_fr_tr hFx11_ (ai_fr_aI rfl)
  have hCx15_ : cdf bb_ S0_ (sm_aI (sm_aI (sm_aI S0_ 24 (0 + bb_) a1_.toNat 0) 22 (0 + bb_) vx6_.toNat a1_) 90 0 (0 : Int).toNat vx6_) := cdf_aI hCx12_ (Or.inl rfl)
  have hIx16_ : gi (sm_pI (sm_aI (sm_aI (sm_aI S0_ 24 (0 + bb_) a1_.toNat 0) 22 (0 + bb_) vx6_.toNat a1_) 90 0 (0 : Int).toNat vx6_) 8 0 11 1) := gi_pI hIx13_ (show 0 ≤ 1 ∧ 1 ≤ 4712 from ⟨by omega, by omega⟩)
  have hFx17_ : ai_fr (sx_W vw_157) S0_ (sm_pI (sm_aI (sm_aI (sm_aI S0_ 24 (0 + bb_) a1_.toNat 0) 22 (0 + bb_) vx6_.toNat a1_) 90 0 (0 : Int).toNat vx6_) 8 0 11 1) := ai_fr_tr hFx14_ (ai_fr_pI rfl)
  have hCx18_ : cdf bb_ S0_ (sm_pI (sm_aI (sm_aI (sm_aI S0_ 24 (0 + bb_) a1_.toNat 0) 22 (0 + bb_) vx6_.toNat a1_) 90 0 (0 : Int).toNat vx6_) 8 0 11 1) := cdf_pI hCx15_ (Or.inl rfl)
  refine sm_T_go 5 (c1 := (42, [some (.inr (.inr (some (8, 0)))), some (.inl a1_), some (.inl a2_), some (.inl vx6_), some (.inl 1), none], [], sm_pI (sm_aI (sm_aI (sm_aI S0_ 24 (0 + bb_) a1_.toNat 0) 22 (0 + bb_) vx6_.toNat a1_) 90 0 (0 : Int).toNat vx6_) 8 0 11 1)) rfl ?_
  refine sm_T_wk [some (.inr (.inr (some (8, 0)))), some (.inl a1_), some (.inl a2_), none, some (.inl 1), none] (by exact ⟨rfl, rfl, rfl, rfl, trivial⟩) ?_
  refine (vl_157 a1_ a2_ bb_ S0_ hb_ hg_ h1_ hn_ hp_ hst_ hop_ hno_ hk1_ _) 1 (sm_pI (sm_aI (sm_aI (sm_aI S0_ 24 (0 + bb_) a1_.toNat 0) 22 (0 + bb_) vx6_.toNat a1_) 90 0 (0 : Int).toNat vx6_) 8 0 11 1) hIx16_ hFx17_ ⟨?_, ?_, ?_, ?_, ?_, ?_, ?_, trivial⟩ (Nat.lt_succ_self _)
  · omega
  · exact trt_1 (S_ := S0_) (by first | exact ⟨v3_.1, by show _ < 2 * S0_.1 8 0 2; omega⟩ | omega) hno_ (fun j_ => by rw [rd_fa, rd_ne (by decide), rd_eq, rd_ne (by decide)]) (by rw [rd_fa, rd_eq, if_pos (by decide)]) rfl
  · intro p_ u_ w_
    rw [rd_fa, rd_ne (by decide), rd_ne (by decide), rd_ne (by decide)] at w_
    rw [rd_fa, rd_ne (by decide), rd_eq, rd_ne (by decide)]
    split
    · omega
    · exact hst_ p_ u_ w_
  · intro c_ u_ w_ p_ v_
    rw [rd_fa, rd_ne (by decide), rd_ne (by decide), rd_eq] at w_
    rw [rd_fa, rd_ne (by decide), rd_eq, rd_ne (by decide)]
    by_cases y_ : c_ = a1_.toNat
    · rw [if_pos y_] at w_; exact absurd rfl w_
    · rw [if_neg y_] at w_
      split
      · omega
      · exact hop_ c_ u_ w_ p_ v_
  · intro p_
    rw [rd_fa, rd_ne (by decide), rd_eq, rd_ne (by decide)]
    split
    · right; right; rfl
    · left; rfl
  · (rw [rd_fa, rd_ne (by decide), rd_ne (by decide), rd_eq, if_pos rfl])
  · exact hCx18_
end
/-! 99.zkia -/
section
/-! nets in a row; written by wip/p55/gen/vg -/

/-! all_ nets routed -/
/-- a_ row_ of_ nets with two_ pins at least, each once, but_ for_ a_ hole -/
def rrw (bb_ : Nat) (n_ k_ h_ : Int) (S_ : sm_S) : Prop := (∀ i_ : Nat, (i_ : Int) ≤ k_ → (i_ : Int) ≠ h_ → (0 ≤ S_.2.2.1 91 0 i_ ∧ S_.2.2.1 91 0 i_ < n_) ∧ 1 < S_.2.2.1 20 (0 + bb_) (S_.2.2.1 91 0 i_).toNat) ∧ ∀ i_ j_ : Nat, i_ < j_ → (j_ : Int) ≤ k_ → (i_ : Int) ≠ h_ → (j_ : Int) ≠ h_ → S_.2.2.1 91 0 i_ ≠ S_.2.2.1 91 0 j_
theorem rrw_mv {bb_ : Nat} {n_ k_ h_ : Int} {S_ : sm_S} (g_ : rrw bb_ n_ k_ h_ S_) (h0_ : 1 ≤ h_ ∧ h_ ≤ k_) : rrw bb_ n_ k_ (h_ - 1) (sm_aI S_ 91 0 h_.toNat (S_.2.2.1 91 0 (h_ - 1).toNat)) := by
  have r_ : ∀ i_, (sm_aI S_ 91 0 h_.toNat (S_.2.2.1 91 0 (h_ - 1).toNat)).2.2.1 91 0 i_ = if i_ = h_.toNat then S_.2.2.1 91 0 (h_ - 1).toNat else S_.2.2.1 91 0 i_ := fun i_ => rd_eq
  have q_ : (sm_aI S_ 91 0 h_.toNat (S_.2.2.1 91 0 (h_ - 1).toNat)).2.2.1 20 (0 + bb_) = S_.2.2.1 20 (0 + bb_) := rd_ne_ (by decide)
  refine ⟨fun i_ hi_ hn_ => ?_, fun i_ j_ hij_ hj_ hi_ hn_ => ?_⟩
  · rw [q_, r_]
    by_cases z_ : i_ = h_.toNat
    · rw [if_pos z_]; exact g_.1 (h_ - 1).toNat (by omega) (by omega)
    · rw [if_neg z_]; exact g_.1 i_ hi_ (by omega)
  · rw [r_, r_]
    by_cases z_ : i_ = h_.toNat
    · rw [if_pos z_, if_neg (by omega)]
      exact g_.2 (h_ - 1).toNat j_ (by omega) hj_ (by omega) (by omega)
    · rw [if_neg z_]
      by_cases y_ : j_ = h_.toNat
      · rw [if_pos y_]
        exact g_.2 i_ (h_ - 1).toNat (by omega) (by omega) (by omega) (by omega)
      · rw [if_neg y_]
        exact g_.2 i_ j_ hij_ hj_ (by omega) (by omega)
theorem rrw_in {bb_ : Nat} {n_ k_ h_ : Int} {S_ S'_ : sm_S} (g_ : rrw bb_ n_ k_ h_ S_) (h0_ : 0 ≤ h_ ∧ h_ ≤ k_) (n0_ : 0 ≤ n_) (hp_ : 1 < S_.2.2.1 20 (0 + bb_) n_.toNat) (r_ : ∀ i_, S'_.2.2.1 91 0 i_ = if i_ = h_.toNat then n_ else S_.2.2.1 91 0 i_) (q_ : S'_.2.2.1 20 (0 + bb_) = S_.2.2.1 20 (0 + bb_)) : rrw bb_ (n_ + 1) (k_ + 1) (k_ + 1) S'_ := by
  refine ⟨fun i_ hi_ hn_ => ?_, fun i_ j_ hij_ hj_ hi_ hn_ => ?_⟩
  · rw [q_, r_]
    by_cases z_ : i_ = h_.toNat
    · rw [if_pos z_]; exact ⟨by omega, hp_⟩
    · rw [if_neg z_]
      have a_ := g_.1 i_ (by omega) (by omega)
      exact ⟨by omega, a_.2⟩
  · rw [r_, r_]
    by_cases z_ : i_ = h_.toNat
    · rw [if_pos z_, if_neg (by omega)]
      have a_ := g_.1 j_ (by omega) (by omega)
      omega
    · rw [if_neg z_]
      by_cases y_ : j_ = h_.toNat
      · rw [if_pos y_]
        have a_ := g_.1 i_ (by omega) (by omega)
        omega
      · rw [if_neg y_]
        exact g_.2 i_ j_ hij_ (by omega) (by omega) (by omega)
theorem rrw_up {bb_ : Nat} {n_ k_ : Int} {S_ S'_ : sm_S} (g_ : rrw bb_ n_ k_ k_ S_) (r_ : S'_.2.2.1 91 0 = S_.2.2.1 91 0) (q_ : S'_.2.2.1 20 (0 + bb_) = S_.2.2.1 20 (0 + bb_)) {m_ : Int} (h_ : n_ ≤ m_) : rrw bb_ m_ k_ k_ S'_ := by
  unfold rrw
  rw [r_, q_]
  exact ⟨fun i_ hi_ hn_ => by have a_ := g_.1 i_ hi_ hn_; exact ⟨by omega, a_.2⟩, g_.2⟩
/-- pins of_ a_ placed board lie_ on_ it_ -/
theorem rpt_of {bb_ ci_ : Nat} {S_ : sm_S} (h_ : bpn bb_ S_) (hl_ : bpl bb_ ci_ S_) (hp_ : bpp bb_ ci_ S_) (hr_ : 0 < S_.1 0 bb_ 1) (hs_ : 0 ≤ S_.1 0 bb_ 0) (c18_ : ∀ k_, 0 ≤ S_.2.2.1 18 (0 + bb_) k_ ∧ S_.2.2.1 18 (0 + bb_) k_ ≤ 651) (c14_ : ∀ k_, 0 ≤ S_.2.2.1 14 (0 + bb_) k_) (c15_ : ∀ k_, 0 ≤ S_.2.2.1 15 (0 + bb_) k_) (hL_ : S_.1 8 0 2 = S_.1 0 bb_ 2 * (S_.1 0 bb_ 0 + 2)) : rpt bb_ S_ := by
  intro c_ hc_ k_ hk_
  have a_ := (h_ c_ hc_).2 k_ hk_
  obtain ⟨l1_, l2_⟩ := hl_ hr_
  unfold ppk
  obtain ⟨p_, hq_⟩ : ∃ p_, p_ = S_.2.2.1 18 (0 + bb_) ((S_.2.2.1 19 (0 + bb_) c_).toNat + k_) := ⟨_, rfl⟩
  have b_ := c18_ ((S_.2.2.1 19 (0 + bb_) c_).toNat + k_)
  rw [← hq_] at a_ b_ ⊢
  have w_ := hp_ p_.toNat (by omega) (by omega)
  have key_ : (0 ≤ ppy bb_ S_ p_ ∧ ppy bb_ S_ p_ ≤ S_.1 0 bb_ 2 - 1) ∧ 0 ≤ ppx bb_ S_ p_ ∧ ppx bb_ S_ p_ ≤ S_.1 0 bb_ 0 + 1 := by
    unfold ppy ppx
    by_cases z_ : p_ < 624
    · rw [if_pos z_, if_pos z_]
      have e_ := w_.1 (by omega)
      have f_ := l2_ (p_.toNat / 4) e_.1
      have g1_ := c14_ (p_ / 4).toNat
      have g2_ := c15_ (p_ / 4).toNat
      rw [show (p_ / 4).toNat = p_.toNat / 4 by omega] at g1_ g2_ ⊢
      omega
    · rw [if_neg z_, if_neg z_]
      by_cases y_ : p_ < 636
      · rw [if_pos y_, if_pos y_]
        have e_ := w_.2.1 (by omega) (by omega)
        omega
      · rw [if_neg y_, if_neg y_]
        have e_ := w_.2.2 (by omega)
        omega
  obtain ⟨Y_, hY_⟩ : ∃ Y_, Y_ = ppy bb_ S_ p_ := ⟨_, rfl⟩
  obtain ⟨X_, hX_⟩ : ∃ X_, X_ = ppx bb_ S_ p_ := ⟨_, rfl⟩
  unfold ppt
  rw [← hY_, ← hX_] at key_ ⊢
  have m1_ : Y_ * (S_.1 0 bb_ 0 + 2) ≤ (S_.1 0 bb_ 2 - 1) * (S_.1 0 bb_ 0 + 2) := Int.mul_le_mul_of_nonneg_right key_.1.2 (by omega)
  have m2_ : 0 ≤ Y_ * (S_.1 0 bb_ 0 + 2) := Int.mul_nonneg key_.1.1 (by omega)
  rw [Int.sub_mul, Int.one_mul, ← hL_] at m1_
  omega
/-! java/util/Arrays.fill -/
def vw_2k5 : sx_Wl := ([], [85], [])
def vq_2k5 (v0_ : Int) (S0_ : sm_S) (u_ : Option sm_V) (S1_ : sm_S) : Prop := u_ = none ∧ gi S1_ ∧ ai_fr (sx_W vw_2k5) S0_ S1_ ∧ (∀ j_, j_ < 4712 → S1_.2.2.1 85 0 j_ = v0_)
set_option maxHeartbeats 400000 in
theorem vl_2k5 {sc_ : Nat × (Nat → Int)} (v0_ : Int) (S0_ : sm_S) (hv_ : (-1) ≤ v0_ ∧ v0_ ≤ 161) : ∀ nn_ : Nat, (∀ (k_ : Int) (S_ : sm_S), gi S_ → ai_fr (sx_W vw_2k5) S0_ S_ → ((0 ≤ k_ ∧ k_ ≤ 4712) ∧ (∀ j_, j_ < k_.toNat → S_.2.2.1 85 0 j_ = v0_) ∧ True) → ((4712 - k_).toNat) < nn_ → sm_T (mt_P sc_) 0 2 (5, [some (.inr (.inr (some (85, 0)))), some (.inl v0_), some (.inl k_), some (.inl 4712)], [], S_) (fun ro9_ => ∃ u_ S1_, ro9_ = (.inl u_, S1_, 0) ∧ vq_2k5 v0_ S0_ u_ S1_)) := by
  intro nn_
  induction nn_ with
  | zero => exact fun _ _ _ _ _ h_ => absurd h_ (Nat.not_lt_zero _)
  | succ nn_ ih_ =>
    rintro k_ S_ hI_ hF_ ⟨h0_, h1_, -⟩ hm_
    refine sm_T_go 2 (c1 := (7, [some (.inr (.inr (some (85, 0)))), some (.inl v0_), some (.inl k_), some (.inl 4712)], [.inl 4712, .inl k_], S_)) rfl ?_
    refine sm_T_br (a := 3) (z := 13) rfl (fun cx1_ => ?_) (fun cx1_ => ?_)
    · have cx1_ : 4712 ≤ k_ := of_decide_eq_true cx1_
      refine sm_T_rv rfl ⟨_, _, rfl, rfl, hI_, hF_, ?_⟩
      exact fun j_ hj_ => h1_ j_ (by omega)
    · have cx1_ : ¬ (4712 ≤ k_) := of_decide_eq_false cx1_
      refine sm_T_go 3 (c1 := (13, [some (.inr (.inr (some (85, 0)))), some (.inl v0_), some (.inl k_), some (.inl 4712)], [.inl v0_, .inl k_, .inr (.inr (some (85, 0)))], S_)) rfl ?_
      refine sm_T_iast (n := 4712) rfl rfl (by omega) (by omega) ?_
      have hIx2_ : gi (sm_aI S_ 85 0 k_.toNat v0_) := gi_aI hI_ (show (-1) ≤ v0_ ∧ v0_ ≤ 161 from ⟨by omega, by omega⟩)
      have hFx3_ : ai_fr (sx_W vw_2k5) S0_ (sm_aI S_ 85 0 k_.toNat v0_) := ai_fr_tr hF_ (ai_fr_aI rfl)
      refine sm_T_inc (a := 2) (z := 1) (v := k_) (w := k_ + 1) rfl rfl (by omega) (by omega) (by omega) ?_ -- pc_ 14
      refine sm_T_go 1 (c1 := (5, [some (.inr (.inr (some (85, 0)))), some (.inl v0_), some (.inl (k_ + 1)), some (.inl 4712)], [], sm_aI S_ 85 0 k_.toNat v0_)) rfl ?_
      refine ih_ (k_ + 1) (sm_aI S_ 85 0 k_.toNat v0_) hIx2_ hFx3_ ⟨?_, ?_, trivial⟩ ?_
      · omega
      · intro j_ hj_
        rw [rd_eq]
        by_cases z_ : j_ = k_.toNat
        · rw [if_pos z_]
        · rw [if_neg z_]; exact h1_ j_ (by omega)
      · omega
set_option maxHeartbeats 400000 in
theorem vc_2k5 {sc_ : Nat × (Nat → Int)} (v0_ : Int) (S0_ : sm_S) (hI_ : gi S0_) (hv_ : (-1) ≤ v0_ ∧ v0_ ≤ 161) : sm_T (mt_P sc_) 0 2 (0, [some (.inr (.inr (some (85, 0)))), some (.inl v0_), none, none], [], S0_) (fun ro9_ => ∃ u_ S1_, ro9_ = (.inl u_, S1_, 0) ∧ vq_2k5 v0_ S0_ u_ S1_) := by
  have hF_ : ai_fr (sx_W vw_2k5) S0_ S0_ := ai_fr_rf
  refine sm_T_go 5 (c1 := (5, [some (.inr (.inr (some (85, 0)))), some (.inl v0_), some (.inl 0), some (.inl 4712)], [], S0_)) rfl ?_
  refine (vl_2k5 v0_ S0_ hv_ _) 0 S0_ hI_ hF_ ⟨?_, ?_, trivial⟩ (Nat.lt_succ_self _)
  · omega
  · (intro j_ hj_; exact absurd hj_ (Nat.not_lt_zero _))
end
/-! 99.zkib -/
section
/-! Router.keepPins -/
def vw_154 : sx_Wl := ([], [85], [])
def vq_154 (a1_ : Int) (bb_ : Nat) (S0_ : sm_S) (u_ : Option sm_V) (S1_ : sm_S) : Prop := u_ = none ∧ gi S1_ ∧ ai_fr (sx_W vw_154) S0_ S1_ ∧ (True)
set_option maxHeartbeats 400000 in
theorem vl_154 {sc_ : Nat × (Nat → Int)} (a1_ : Int) (bb_ : Nat) (S0_ : sm_S) (hb_ : S0_.2.1 8 0 0 = some bb_) (h1_ : 0 ≤ a1_ ∧ a1_ ≤ 162) (hn_ : bpn bb_ S0_) : ∀ nn_ : Nat, (∀ (k_ : Int) (S_ : sm_S), gi S_ → ai_fr (sx_W vw_154) S0_ S_ → ((0 ≤ k_ ∧ k_ ≤ a1_) ∧ True) → ((10000 * (200 - k_) + 5000).toNat) < nn_ → sm_T (mt_P sc_) 2 154 (10, [some (.inr (.inr (some (8, 0)))), some (.inl a1_), some (.inl k_), none], [], S_) (fun ro9_ => ∃ u_ S1_, ro9_ = (.inl u_, S1_, 0) ∧ vq_154 a1_ bb_ S0_ u_ S1_)) ∧ (∀ (k_ : Int) (j_ : Int) (S_ : sm_S), gi S_ → ai_fr (sx_W vw_154) S0_ S_ → ((0 ≤ k_ ∧ k_ < a1_ ∧ 0 ≤ j_ ∧ j_ ≤ 652) ∧ True) → ((10000 * (200 - k_) + 4000 - j_).toNat) < nn_ → sm_T (mt_P sc_) 2 154 (17, [some (.inr (.inr (some (8, 0)))), some (.inl a1_), some (.inl k_), some (.inl j_)], [], S_) (fun ro9_ => ∃ u_ S1_, ro9_ = (.inl u_, S1_, 0) ∧ vq_154 a1_ bb_ S0_ u_ S1_)) := by
  intro nn_
  induction nn_ with
  | zero => exact ⟨fun _ _ _ _ _ h_ => absurd h_ (Nat.not_lt_zero _), fun _ _ _ _ _ _ h_ => absurd h_ (Nat.not_lt_zero _)⟩
  | succ nn_ ih_ =>
    refine ⟨?_, ?_⟩
    · rintro k_ S_ hI_ hF_ ⟨h0_, -⟩ hm_
      refine sm_T_go 2 (c1 := (12, [some (.inr (.inr (some (8, 0)))), some (.inl a1_), some (.inl k_), none], [.inl a1_, .inl k_], S_)) rfl ?_
      refine sm_T_br (a := 3) (z := 52) rfl (fun cx1_ => ?_) (fun cx1_ => ?_)
      · have cx1_ : a1_ ≤ k_ := of_decide_eq_true cx1_
        refine sm_T_rv rfl ⟨_, _, rfl, rfl, hI_, hF_, ?_⟩
        trivial
      · have cx1_ : ¬ (a1_ ≤ k_) := of_decide_eq_false cx1_
        refine sm_T_go 2 (c1 := (17, [some (.inr (.inr (some (8, 0)))), some (.inl a1_), some (.inl k_), some (.inl 0)], [], S_)) rfl ?_
        refine ih_.2 k_ 0 S_ hI_ hF_ ⟨?_, trivial⟩ ?_
        · omega
        · omega
    · rintro k_ j_ S_ hI_ hF_ ⟨h0_, -⟩ hm_
      refine sm_T_go 2 (c1 := (19, [some (.inr (.inr (some (8, 0)))), some (.inl a1_), some (.inl k_), some (.inl j_)], [.inr (.inr (some (8, 0))), .inl j_], S_)) rfl ?_
      refine sm_T_gr rfl rfl ((hF_.2.1 8 0 0 rfl).trans hb_) ?_
      refine sm_T_go 2 (c1 := (26, [some (.inr (.inr (some (8, 0)))), some (.inl a1_), some (.inl k_), some (.inl j_)], [.inl k_, .inr (.inr (some (20, (0 + bb_)))), .inl j_], S_)) rfl ?_
      refine sm_T_iald (n := 162) rfl rfl (by omega) (by omega) ?_
      have bx1_ : 0 ≤ S_.2.2.1 20 (0 + bb_) k_.toNat ∧ S_.2.2.1 20 (0 + bb_) k_.toNat ≤ 652 := hI_.2 20 (0 + bb_) _
      refine sm_T_br (a := 3) (z := 31) rfl (fun cx2_ => ?_) (fun cx2_ => ?_)
      · have cx2_ : (S_.2.2.1 20 (0 + bb_) k_.toNat) ≤ j_ := of_decide_eq_true cx2_
        refine sm_T_inc (a := 2) (z := 1) (v := k_) (w := k_ + 1) rfl rfl (by omega) (by omega) (by omega) ?_ -- pc_ 58
        refine sm_T_go 1 (c1 := (10, [some (.inr (.inr (some (8, 0)))), some (.inl a1_), some (.inl (k_ + 1)), some (.inl j_)], [], S_)) rfl ?_
        refine sm_T_wk [some (.inr (.inr (some (8, 0)))), some (.inl a1_), some (.inl (k_ + 1)), none] (by exact ⟨rfl, rfl, rfl, trivial⟩) ?_
        refine ih_.1 (k_ + 1) S_ hI_ hF_ ⟨?_, trivial⟩ ?_
        · omega
        · omega
      · have cx2_ : ¬ ((S_.2.2.1 20 (0 + bb_) k_.toNat) ≤ j_) := of_decide_eq_false cx2_
        refine sm_T_go 3 (c1 := (35, [some (.inr (.inr (some (8, 0)))), some (.inl a1_), some (.inl k_), some (.inl j_)], [.inr (.inr (some (8, 0))), .inr (.inr (some (85, 0)))], S_)) rfl ?_
        refine sm_T_gr rfl rfl ((hF_.2.1 8 0 0 rfl).trans hb_) ?_
        refine sm_T_go 1 (c1 := (39, [some (.inr (.inr (some (8, 0)))), some (.inl a1_), some (.inl k_), some (.inl j_)], [.inr (.inr (some (8, 0))), .inr (.inr (some (0, bb_))), .inr (.inr (some (85, 0)))], S_)) rfl ?_
        refine sm_T_gr rfl rfl ((hF_.2.1 8 0 0 rfl).trans hb_) ?_
        refine sm_T_go 2 (c1 := (44, [some (.inr (.inr (some (8, 0)))), some (.inl a1_), some (.inl k_), some (.inl j_)], [.inl j_, .inl k_, .inr (.inr (some (0, bb_))), .inr (.inr (some (0, bb_))), .inr (.inr (some (85, 0)))], S_)) rfl ?_
        refine sm_T_cal (d1 := 0) (Q1 := vq_14 k_ j_ bb_ S_) rfl rfl (by decide) (vc_14 k_ j_ bb_ S_ hI_ (by omega) (by omega) (by exact bpn_fr hn_ hF_ rfl rfl rfl rfl)) (fun u_ Sx3_ px6_ => ?_)
        obtain ⟨rfl, vx8_, rfl, px6_⟩ := px6_
        have p9_ := px6_.1
        refine sm_T_cal (d1 := 1) (Q1 := vq_19 vx8_ bb_ S_) rfl rfl (by decide) (vc_19 vx8_ bb_ S_ hI_ (by omega)) (fun u_ Sx9_ px12_ => ?_)
        obtain ⟨rfl, vx14_, rfl, px12_⟩ := px12_
        have q9_ := px12_.1
        refine sm_T_go 1 (c1 := (51, [some (.inr (.inr (some (8, 0)))), some (.inl a1_), some (.inl k_), some (.inl j_)], [.inl k_, .inl vx14_, .inr (.inr (some (85, 0)))], S_)) rfl ?_
        refine sm_T_iast (n := 4712) rfl rfl (by omega) (by omega) ?_
        have hIx15_ : gi (sm_aI S_ 85 0 vx14_.toNat k_) := gi_aI hI_ (show (-1) ≤ k_ ∧ k_ ≤ 161 from ⟨by omega, by omega⟩)
        have hFx16_ : ai_fr (sx_W vw_154) S0_ (sm_aI S_ 85 0 vx14_.toNat k_) := ai_fr_tr hF_ (ai_fr_aI rfl)
        refine sm_T_inc (a := 3) (z := 1) (v := j_) (w := j_ + 1) rfl rfl (by omega) (by omega) (by omega) ?_ -- pc_ 52
        refine sm_T_go 1 (c1 := (17, [some (.inr (.inr (some (8, 0)))), some (.inl a1_), some (.inl k_), some (.inl (j_ + 1))], [], sm_aI S_ 85 0 vx14_.toNat k_)) rfl ?_
        refine ih_.2 k_ (j_ + 1) (sm_aI S_ 85 0 vx14_.toNat k_) hIx15_ hFx16_ ⟨?_, trivial⟩ ?_
        · omega
        · omega
set_option maxHeartbeats 400000 in
theorem vc_154 {sc_ : Nat × (Nat → Int)} (a1_ : Int) (bb_ : Nat) (S0_ : sm_S) (hI_ : gi S0_) (hb_ : S0_.2.1 8 0 0 = some bb_) (h1_ : 0 ≤ a1_ ∧ a1_ ≤ 162) (hn_ : bpn bb_ S0_) : sm_T (mt_P sc_) 2 154 (0, [some (.inr (.inr (some (8, 0)))), some (.inl a1_), none, none], [], S0_) (fun ro9_ => ∃ u_ S1_, ro9_ = (.inl u_, S1_, 0) ∧ vq_154 a1_ bb_ S0_ u_ S1_) := by
  have hF_ : ai_fr (sx_W vw_154) S0_ S0_ := ai_fr_rf
  refine sm_T_go 3 (c1 := (5, [some (.inr (.inr (some (8, 0)))), some (.inl a1_), none, none], [.inl (-1), .inr (.inr (some (85, 0)))], S0_)) rfl ?_
  refine sm_T_cal (d1 := 0) (Q1 := vq_2k5 (-1) S0_) rfl rfl (by decide) (vc_2k5 (-1) S0_ hI_ (by decide)) (fun u_ Sx1_ px4_ => ?_)
  obtain ⟨rfl, hIx2_, hFx3_, px4_⟩ := px4_
  have hFx5_ : ai_fr (sx_W vw_154) S0_ Sx1_ := ai_fr_tr hF_ (fr_le hFx3_ rfl)
  refine sm_T_go 2 (c1 := (10, [some (.inr (.inr (some (8, 0)))), some (.inl a1_), some (.inl 0), none], [], Sx1_)) rfl ?_
  refine (vl_154 a1_ bb_ S0_ hb_ h1_ hn_ _).1 0 Sx1_ hIx2_ hFx5_ ⟨?_, trivial⟩ (Nat.lt_succ_self _)
  · omega
end
/-! 99.zkic -/
section
/-! Router.sortNets -/
def vw_155 : sx_Wl := ([(8, 13)], [91], [])
def vq_155 (a1_ : Int) (bb_ : Nat) (S0_ : sm_S) (u_ : Option sm_V) (S1_ : sm_S) : Prop := u_ = none ∧ gi S1_ ∧ ai_fr (sx_W vw_155) S0_ S1_ ∧ ((0 ≤ S1_.1 8 0 13 ∧ S1_.1 8 0 13 ≤ a1_) ∧ rrw bb_ a1_ (S1_.1 8 0 13) (S1_.1 8 0 13) S1_)
set_option maxHeartbeats 400000 in
theorem vl_155 {sc_ : Nat × (Nat → Int)} (a1_ : Int) (bb_ : Nat) (S0_ : sm_S) (hb_ : S0_.2.1 8 0 0 = some bb_) (h1_ : 0 ≤ a1_ ∧ a1_ ≤ 162) : ∀ nn_ : Nat, (∀ (n_ : Int) (S_ : sm_S), gi S_ → ai_fr (sx_W vw_155) S0_ S_ → ((0 ≤ n_ ∧ n_ ≤ a1_ ∧ S_.1 8 0 13 ≤ n_) ∧ (rrw bb_ n_ (S_.1 8 0 13) (S_.1 8 0 13) S_) ∧ True) → ((10000 * (200 - n_) + 5000).toNat) < nn_ → sm_T (mt_P sc_) 0 155 (7, [some (.inr (.inr (some (8, 0)))), some (.inl a1_), some (.inl n_), none], [], S_) (fun ro9_ => ∃ u_ S1_, ro9_ = (.inl u_, S1_, 0) ∧ vq_155 a1_ bb_ S0_ u_ S1_)) ∧ (∀ (n_ : Int) (a9_ : Int) (S_ : sm_S), gi S_ → ai_fr (sx_W vw_155) S0_ S_ → ((0 ≤ n_ ∧ n_ < a1_ ∧ S_.1 8 0 13 ≤ n_ ∧ 0 ≤ a9_ ∧ a9_ ≤ S_.1 8 0 13) ∧ (rrw bb_ n_ (S_.1 8 0 13) a9_ S_) ∧ (1 < S_.2.2.1 20 (0 + bb_) n_.toNat) ∧ True) → ((10000 * (200 - n_) + 4000 + a9_).toNat) < nn_ → sm_T (mt_P sc_) 0 155 (30, [some (.inr (.inr (some (8, 0)))), some (.inl a1_), some (.inl n_), some (.inl a9_)], [], S_) (fun ro9_ => ∃ u_ S1_, ro9_ = (.inl u_, S1_, 0) ∧ vq_155 a1_ bb_ S0_ u_ S1_)) := by
  intro nn_
  induction nn_ with
  | zero => exact ⟨fun _ _ _ _ _ h_ => absurd h_ (Nat.not_lt_zero _), fun _ _ _ _ _ _ h_ => absurd h_ (Nat.not_lt_zero _)⟩
  | succ nn_ ih_ =>
    refine ⟨?_, ?_⟩
    · rintro n_ S_ hI_ hF_ ⟨h0_, hr_, -⟩ hm_
      have k20_ : S_.2.2.1 20 (0 + bb_) = S0_.2.2.1 20 (0 + bb_) := fr_arr hF_ rfl
      have cr : 0 ≤ S_.1 8 0 13 ∧ S_.1 8 0 13 ≤ 162 := hI_.1 8 0 13 rfl
      refine sm_T_go 2 (c1 := (9, [some (.inr (.inr (some (8, 0)))), some (.inl a1_), some (.inl n_), none], [.inl a1_, .inl n_], S_)) rfl ?_
      refine sm_T_br (a := 3) (z := 96) rfl (fun cx1_ => ?_) (fun cx1_ => ?_)
      · have cx1_ : a1_ ≤ n_ := of_decide_eq_true cx1_
        refine sm_T_rv rfl ⟨_, _, rfl, rfl, hI_, hF_, ?_⟩
        exact ⟨by omega, by rw [show a1_ = n_ by omega]; exact hr_⟩
      · have cx1_ : ¬ (a1_ ≤ n_) := of_decide_eq_false cx1_
        refine sm_T_go 1 (c1 := (13, [some (.inr (.inr (some (8, 0)))), some (.inl a1_), some (.inl n_), none], [.inr (.inr (some (8, 0)))], S_)) rfl ?_
        refine sm_T_gr rfl rfl ((hF_.2.1 8 0 0 rfl).trans hb_) ?_
        refine sm_T_go 2 (c1 := (20, [some (.inr (.inr (some (8, 0)))), some (.inl a1_), some (.inl n_), none], [.inl n_, .inr (.inr (some (20, (0 + bb_))))], S_)) rfl ?_
        refine sm_T_iald (n := 162) rfl rfl (by omega) (by omega) ?_
        have bx2_ : 0 ≤ S_.2.2.1 20 (0 + bb_) n_.toNat ∧ S_.2.2.1 20 (0 + bb_) n_.toNat ≤ 652 := hI_.2 20 (0 + bb_) _
        refine sm_T_go 1 (c1 := (22, [some (.inr (.inr (some (8, 0)))), some (.inl a1_), some (.inl n_), none], [.inl 1, .inl (S_.2.2.1 20 (0 + bb_) n_.toNat)], S_)) rfl ?_
        refine sm_T_br (a := 5) (z := 77) rfl (fun cx3_ => ?_) (fun cx3_ => ?_)
        · have cx3_ : (S_.2.2.1 20 (0 + bb_) n_.toNat) ≤ 1 := of_decide_eq_true cx3_
          refine sm_T_inc (a := 2) (z := 1) (v := n_) (w := n_ + 1) rfl rfl (by omega) (by omega) (by omega) ?_ -- pc_ 99
          refine sm_T_go 1 (c1 := (7, [some (.inr (.inr (some (8, 0)))), some (.inl a1_), some (.inl (n_ + 1)), none], [], S_)) rfl ?_
          refine ih_.1 (n_ + 1) S_ hI_ hF_ ⟨?_, ?_, trivial⟩ ?_
          · omega
          · exact rrw_up hr_ rfl rfl (by omega)
          · omega
        · have cx3_ : ¬ ((S_.2.2.1 20 (0 + bb_) n_.toNat) ≤ 1) := of_decide_eq_false cx3_
          have bx4_ : 0 ≤ S_.1 8 0 13 ∧ S_.1 8 0 13 ≤ 162 := hI_.1 8 0 13 rfl
          refine sm_T_go 3 (c1 := (30, [some (.inr (.inr (some (8, 0)))), some (.inl a1_), some (.inl n_), some (.inl (S_.1 8 0 13))], [], S_)) rfl ?_
          refine ih_.2 n_ (S_.1 8 0 13) S_ hI_ hF_ ⟨?_, ?_, ?_, trivial⟩ ?_
          · omega
          · exact hr_
          · omega
          · omega
    · rintro n_ a9_ S_ hI_ hF_ ⟨h0_, hr_, hq_, -⟩ hm_
      have k20_ : S_.2.2.1 20 (0 + bb_) = S0_.2.2.1 20 (0 + bb_) := fr_arr hF_ rfl
      have cr : 0 ≤ S_.1 8 0 13 ∧ S_.1 8 0 13 ≤ 162 := hI_.1 8 0 13 rfl
      refine sm_T_go 1 (c1 := (31, [some (.inr (.inr (some (8, 0)))), some (.inl a1_), some (.inl n_), some (.inl a9_)], [.inl a9_], S_)) rfl ?_
      refine sm_T_b0 (a := 5) (z := 51) rfl (fun cx1_ => ?_) (fun cx1_ => ?_)
      · have cx1_ : a9_ ≤ 0 := of_decide_eq_true cx1_
        refine sm_T_go 4 (c1 := (88, [some (.inr (.inr (some (8, 0)))), some (.inl a1_), some (.inl n_), some (.inl a9_)], [.inl n_, .inl a9_, .inr (.inr (some (91, 0)))], S_)) rfl ?_
        refine sm_T_iast (n := 162) rfl rfl (by omega) (by omega) ?_
        have hIx2_ : gi (sm_aI S_ 91 0 a9_.toNat n_) := gi_aI hI_ (show 0 ≤ n_ ∧ n_ ≤ 161 from ⟨by omega, by omega⟩)
        have hFx3_ : ai_fr (sx_W vw_155) S0_ (sm_aI S_ 91 0 a9_.toNat n_) := ai_fr_tr hF_ (ai_fr_aI rfl)
        have bx4_ : 0 ≤ S_.1 8 0 13 ∧ S_.1 8 0 13 ≤ 162 := hI_.1 8 0 13 rfl
        refine sm_T_go 4 (c1 := (95, [some (.inr (.inr (some (8, 0)))), some (.inl a1_), some (.inl n_), some (.inl a9_)], [.inl 1, .inl (S_.1 8 0 13), .inr (.inr (some (8, 0)))], sm_aI S_ 91 0 a9_.toNat n_)) rfl ?_
        refine sm_T_bin (w := (S_.1 8 0 13) + 1) rfl (bi_add (by omega) (by omega) (by omega)) ?_ -- pc_ 95
        have hIx5_ : gi (sm_pI (sm_aI S_ 91 0 a9_.toNat n_) 8 0 13 ((S_.1 8 0 13) + 1)) := gi_pI hIx2_ (show 0 ≤ (S_.1 8 0 13) + 1 ∧ (S_.1 8 0 13) + 1 ≤ 162 from ⟨by omega, by omega⟩)
        have hFx6_ : ai_fr (sx_W vw_155) S0_ (sm_pI (sm_aI S_ 91 0 a9_.toNat n_) 8 0 13 ((S_.1 8 0 13) + 1)) := ai_fr_tr hFx3_ (ai_fr_pI rfl)
        refine sm_T_go 1 (c1 := (99, [some (.inr (.inr (some (8, 0)))), some (.inl a1_), some (.inl n_), some (.inl a9_)], [], sm_pI (sm_aI S_ 91 0 a9_.toNat n_) 8 0 13 ((S_.1 8 0 13) + 1))) rfl ?_
        refine sm_T_inc (a := 2) (z := 1) (v := n_) (w := n_ + 1) rfl rfl (by omega) (by omega) (by omega) ?_ -- pc_ 99
        refine sm_T_go 1 (c1 := (7, [some (.inr (.inr (some (8, 0)))), some (.inl a1_), some (.inl (n_ + 1)), some (.inl a9_)], [], sm_pI (sm_aI S_ 91 0 a9_.toNat n_) 8 0 13 ((S_.1 8 0 13) + 1))) rfl ?_
        refine sm_T_wk [some (.inr (.inr (some (8, 0)))), some (.inl a1_), some (.inl (n_ + 1)), none] (by exact ⟨rfl, rfl, rfl, trivial⟩) ?_
        refine ih_.1 (n_ + 1) (sm_pI (sm_aI S_ 91 0 a9_.toNat n_) 8 0 13 ((S_.1 8 0 13) + 1)) hIx5_ hFx6_ ⟨?_, ?_, trivial⟩ ?_
        · (rw [rf_eq]; omega)
        · have z9_ := rrw_in (S'_ := sm_pI (sm_aI S_ 91 0 a9_.toNat n_) 8 0 13 (S_.1 8 0 13 + 1)) hr_ (by omega) (by omega) hq_ (fun i_ => by rw [rd_fa, rd_eq]) (by rw [rd_fa, rd_ne_ (by decide)])
          rw [rf_eq]
          exact z9_
        · omega
      · have cx1_ : ¬ (a9_ ≤ 0) := of_decide_eq_false cx1_
        have g9_ := hr_.1 (a9_ - 1).toNat (by omega) (by omega)
        refine sm_T_go 1 (c1 := (35, [some (.inr (.inr (some (8, 0)))), some (.inl a1_), some (.inl n_), some (.inl a9_)], [.inr (.inr (some (8, 0)))], S_)) rfl ?_
        refine sm_T_gr rfl rfl ((hF_.2.1 8 0 0 rfl).trans hb_) ?_
        refine sm_T_go 5 (c1 := (47, [some (.inr (.inr (some (8, 0)))), some (.inl a1_), some (.inl n_), some (.inl a9_)], [.inl 1, .inl a9_, .inr (.inr (some (91, 0))), .inr (.inr (some (21, (0 + bb_))))], S_)) rfl ?_
        refine sm_T_bin (w := a9_ - 1) rfl (bi_sub (by omega) (by omega) (by omega)) ?_ -- pc_ 47
        refine sm_T_iald (n := 162) rfl rfl (by omega) (by omega) ?_
        have bx7_ : 0 ≤ S_.2.2.1 91 0 (a9_ - 1).toNat ∧ S_.2.2.1 91 0 (a9_ - 1).toNat ≤ 161 := hI_.2 91 0 _
        refine sm_T_iald (n := 162) rfl rfl (by omega) (by omega) ?_
        have bx8_ : (-9999) ≤ S_.2.2.1 21 (0 + bb_) (S_.2.2.1 91 0 (a9_ - 1).toNat).toNat ∧ S_.2.2.1 21 (0 + bb_) (S_.2.2.1 91 0 (a9_ - 1).toNat).toNat ≤ 20000 := hI_.2 21 (0 + bb_) _
        refine sm_T_go 1 (c1 := (51, [some (.inr (.inr (some (8, 0)))), some (.inl a1_), some (.inl n_), some (.inl a9_)], [.inr (.inr (some (8, 0))), .inl (S_.2.2.1 21 (0 + bb_) (S_.2.2.1 91 0 (a9_ - 1).toNat).toNat)], S_)) rfl ?_
        refine sm_T_gr rfl rfl ((hF_.2.1 8 0 0 rfl).trans hb_) ?_
        refine sm_T_go 2 (c1 := (58, [some (.inr (.inr (some (8, 0)))), some (.inl a1_), some (.inl n_), some (.inl a9_)], [.inl n_, .inr (.inr (some (21, (0 + bb_)))), .inl (S_.2.2.1 21 (0 + bb_) (S_.2.2.1 91 0 (a9_ - 1).toNat).toNat)], S_)) rfl ?_
        refine sm_T_iald (n := 162) rfl rfl (by omega) (by omega) ?_
        have bx9_ : (-9999) ≤ S_.2.2.1 21 (0 + bb_) n_.toNat ∧ S_.2.2.1 21 (0 + bb_) n_.toNat ≤ 20000 := hI_.2 21 (0 + bb_) _
        refine sm_T_br (a := 5) (z := 23) rfl (fun cx10_ => ?_) (fun cx10_ => ?_)
        · have cx10_ : (S_.2.2.1 21 (0 + bb_) (S_.2.2.1 91 0 (a9_ - 1).toNat).toNat) ≤ (S_.2.2.1 21 (0 + bb_) n_.toNat) := of_decide_eq_true cx10_
          refine sm_T_go 4 (c1 := (88, [some (.inr (.inr (some (8, 0)))), some (.inl a1_), some (.inl n_), some (.inl a9_)], [.inl n_, .inl a9_, .inr (.inr (some (91, 0)))], S_)) rfl ?_
          refine sm_T_iast (n := 162) rfl rfl (by omega) (by omega) ?_
          have hIx11_ : gi (sm_aI S_ 91 0 a9_.toNat n_) := gi_aI hI_ (show 0 ≤ n_ ∧ n_ ≤ 161 from ⟨by omega, by omega⟩)
          have hFx12_ : ai_fr (sx_W vw_155) S0_ (sm_aI S_ 91 0 a9_.toNat n_) := ai_fr_tr hF_ (ai_fr_aI rfl)
          have bx13_ : 0 ≤ S_.1 8 0 13 ∧ S_.1 8 0 13 ≤ 162 := hI_.1 8 0 13 rfl
          refine sm_T_go 4 (c1 := (95, [some (.inr (.inr (some (8, 0)))), some (.inl a1_), some (.inl n_), some (.inl a9_)], [.inl 1, .inl (S_.1 8 0 13), .inr (.inr (some (8, 0)))], sm_aI S_ 91 0 a9_.toNat n_)) rfl ?_
          refine sm_T_bin (w := (S_.1 8 0 13) + 1) rfl (bi_add (by omega) (by omega) (by omega)) ?_ -- pc_ 95
          have hIx14_ : gi (sm_pI (sm_aI S_ 91 0 a9_.toNat n_) 8 0 13 ((S_.1 8 0 13) + 1)) := gi_pI hIx11_ (show 0 ≤ (S_.1 8 0 13) + 1 ∧ (S_.1 8 0 13) + 1 ≤ 162 from ⟨by omega, by omega⟩)
          have hFx15_ : ai_fr (sx_W vw_155) S0_ (sm_pI (sm_aI S_ 91 0 a9_.toNat n_) 8 0 13 ((S_.1 8 0 13) + 1)) := ai_fr_tr hFx12_ (ai_fr_pI rfl)
          refine sm_T_go 1 (c1 := (99, [some (.inr (.inr (some (8, 0)))), some (.inl a1_), some (.inl n_), some (.inl a9_)], [], sm_pI (sm_aI S_ 91 0 a9_.toNat n_) 8 0 13 ((S_.1 8 0 13) + 1))) rfl ?_
          refine sm_T_inc (a := 2) (z := 1) (v := n_) (w := n_ + 1) rfl rfl (by omega) (by omega) (by omega) ?_ -- pc_ 99
          refine sm_T_go 1 (c1 := (7, [some (.inr (.inr (some (8, 0)))), some (.inl a1_), some (.inl (n_ + 1)), some (.inl a9_)], [], sm_pI (sm_aI S_ 91 0 a9_.toNat n_) 8 0 13 ((S_.1 8 0 13) + 1))) rfl ?_
          refine sm_T_wk [some (.inr (.inr (some (8, 0)))), some (.inl a1_), some (.inl (n_ + 1)), none] (by exact ⟨rfl, rfl, rfl, trivial⟩) ?_
          refine ih_.1 (n_ + 1) (sm_pI (sm_aI S_ 91 0 a9_.toNat n_) 8 0 13 ((S_.1 8 0 13) + 1)) hIx14_ hFx15_ ⟨?_, ?_, trivial⟩ ?_
          · (rw [rf_eq]; omega)
          · have z9_ := rrw_in (S'_ := sm_pI (sm_aI S_ 91 0 a9_.toNat n_) 8 0 13 (S_.1 8 0 13 + 1)) hr_ (by omega) (by omega) hq_ (fun i_ => by rw [rd_fa, rd_eq]) (by rw [rd_fa, rd_ne_ (by decide)])
            rw [rf_eq]
            exact z9_
          · omega
        · have cx10_ : ¬ ((S_.2.2.1 21 (0 + bb_) (S_.2.2.1 91 0 (a9_ - 1).toNat).toNat) ≤ (S_.2.2.1 21 (0 + bb_) n_.toNat)) := of_decide_eq_false cx10_
          refine sm_T_go 7 (c1 := (73, [some (.inr (.inr (some (8, 0)))), some (.inl a1_), some (.inl n_), some (.inl a9_)], [.inl 1, .inl a9_, .inr (.inr (some (91, 0))), .inl a9_, .inr (.inr (some (91, 0)))], S_)) rfl ?_
          refine sm_T_bin (w := a9_ - 1) rfl (bi_sub (by omega) (by omega) (by omega)) ?_ -- pc_ 73
          refine sm_T_iald (n := 162) rfl rfl (by omega) (by omega) ?_
          refine sm_T_iast (n := 162) rfl rfl (by omega) (by omega) ?_
          have hIx16_ : gi (sm_aI S_ 91 0 a9_.toNat (S_.2.2.1 91 0 (a9_ - 1).toNat)) := gi_aI hI_ (show 0 ≤ (S_.2.2.1 91 0 (a9_ - 1).toNat) ∧ (S_.2.2.1 91 0 (a9_ - 1).toNat) ≤ 161 from ⟨by omega, by omega⟩)
          have hFx17_ : ai_fr (sx_W vw_155) S0_ (sm_aI S_ 91 0 a9_.toNat (S_.2.2.1 91 0 (a9_ - 1).toNat)) := ai_fr_tr hF_ (ai_fr_aI rfl)
          refine sm_T_inc (a := 3) (z := (-1)) (v := a9_) (w := a9_ - 1) rfl rfl (by omega) (by omega) (by omega) ?_ -- pc_ 76
          refine sm_T_go 1 (c1 := (30, [some (.inr (.inr (some (8, 0)))), some (.inl a1_), some (.inl n_), some (.inl (a9_ - 1))], [], sm_aI S_ 91 0 a9_.toNat (S_.2.2.1 91 0 (a9_ - 1).toNat))) rfl ?_
          refine ih_.2 n_ (a9_ - 1) (sm_aI S_ 91 0 a9_.toNat (S_.2.2.1 91 0 (a9_ - 1).toNat)) hIx16_ hFx17_ ⟨?_, ?_, ?_, trivial⟩ ?_
          · (simp only [rd_af]; omega)
          · exact rrw_mv (k_ := S_.1 8 0 13) hr_ (by omega)
          · (rw [rd_ne (by decide)]; exact hq_)
          · omega
set_option maxHeartbeats 400000 in
theorem vc_155 {sc_ : Nat × (Nat → Int)} (a1_ : Int) (bb_ : Nat) (S0_ : sm_S) (hI_ : gi S0_) (hb_ : S0_.2.1 8 0 0 = some bb_) (h1_ : 0 ≤ a1_ ∧ a1_ ≤ 162) : sm_T (mt_P sc_) 0 155 (0, [some (.inr (.inr (some (8, 0)))), some (.inl a1_), none, none], [], S0_) (fun ro9_ => ∃ u_ S1_, ro9_ = (.inl u_, S1_, 0) ∧ vq_155 a1_ bb_ S0_ u_ S1_) := by
  have hF_ : ai_fr (sx_W vw_155) S0_ S0_ := ai_fr_rf
  have hIx1_ : gi (sm_pI S0_ 8 0 13 0) := gi_pI hI_ (show 0 ≤ 0 ∧ 0 ≤ 162 from ⟨by omega, by omega⟩)
  have hFx2_ : ai_fr (sx_W vw_155) S0_ (sm_pI S0_ 8 0 13 0) := ai_fr_tr hF_ (ai_fr_pI rfl)
  refine sm_T_go 5 (c1 := (7, [some (.inr (.inr (some (8, 0)))), some (.inl a1_), some (.inl 0), none], [], sm_pI S0_ 8 0 13 0)) rfl ?_
  refine (vl_155 a1_ bb_ S0_ hb_ h1_ _).1 0 (sm_pI S0_ 8 0 13 0) hIx1_ hFx2_ ⟨?_, ?_, trivial⟩ (Nat.lt_succ_self _)
  · (rw [rf_eq]; omega)
  · refine ⟨fun i_ hi_ hn_ => ?_, fun i_ j_ hij_ hj_ hi_ hn_ => ?_⟩
    · rw [rf_eq] at hi_ hn_; exfalso; omega
    · rw [rf_eq] at hj_ hi_ hn_; exfalso; omega
end
/-! 99.zkid -/
section
/-! Router.firstOpen -/
def vw_156 : sx_Wl := ([], [], [])
def vq_156 (bb_ : Nat) (n_ : Int) (S0_ : sm_S) (u_ : Option sm_V) (S1_ : sm_S) : Prop := S0_ = S1_ ∧ ∃ v_ : Int, u_ = some (.inl v_) ∧ (v_ = -1 ∨ ((0 ≤ v_ ∧ v_ < n_) ∧ 1 < S0_.2.2.1 20 (0 + bb_) v_.toNat ∧ S0_.2.2.1 24 (0 + bb_) v_.toNat ≠ 0))
set_option maxHeartbeats 400000 in
theorem vl_156 {sc_ : Nat × (Nat → Int)} (bb_ : Nat) (n_ : Int) (S0_ : sm_S) (hb_ : S0_.2.1 8 0 0 = some bb_) (hn_ : n_ ≤ 162) (hr_ : rrw bb_ n_ (S0_.1 8 0 13) (S0_.1 8 0 13) S0_) : ∀ nn_ : Nat, (∀ (k_ : Int) (S_ : sm_S), gi S_ → ai_fr (sx_W vw_156) S0_ S_ → ((0 ≤ k_ ∧ k_ ≤ 162) ∧ (S_ = S0_) ∧ True) → ((1000 - k_).toNat) < nn_ → sm_T (mt_P sc_) 0 156 (2, [some (.inr (.inr (some (8, 0)))), some (.inl k_)], [], S_) (fun ro9_ => ∃ u_ S1_, ro9_ = (.inl u_, S1_, 0) ∧ vq_156 bb_ n_ S0_ u_ S1_)) := by
  intro nn_
  induction nn_ with
  | zero => exact fun _ _ _ _ _ h_ => absurd h_ (Nat.not_lt_zero _)
  | succ nn_ ih_ =>
    rintro k_ S_ hI_ hF_ ⟨h0_, hS_, -⟩ hm_
    have bx1_ : 0 ≤ S_.1 8 0 13 ∧ S_.1 8 0 13 ≤ 162 := hI_.1 8 0 13 rfl
    refine sm_T_go 3 (c1 := (7, [some (.inr (.inr (some (8, 0)))), some (.inl k_)], [.inl (S_.1 8 0 13), .inl k_], S_)) rfl ?_
    refine sm_T_br (a := 3) (z := 33) rfl (fun cx2_ => ?_) (fun cx2_ => ?_)
    · have cx2_ : (S_.1 8 0 13) ≤ k_ := of_decide_eq_true cx2_
      refine sm_T_go 1 (c1 := (41, [some (.inr (.inr (some (8, 0)))), some (.inl k_)], [.inl (-1)], S_)) rfl ?_
      refine sm_T_ri rfl ⟨_, _, rfl, (by first | rfl | exact hS_.symm), _, rfl, ?_⟩
      (left; rfl)
    · have cx2_ : ¬ ((S_.1 8 0 13) ≤ k_) := of_decide_eq_false cx2_
      have g9_ := hr_.1 k_.toNat (by rw [← hS_]; omega) (by rw [← hS_]; omega)
      rw [← hS_] at g9_
      refine sm_T_go 1 (c1 := (11, [some (.inr (.inr (some (8, 0)))), some (.inl k_)], [.inr (.inr (some (8, 0)))], S_)) rfl ?_
      refine sm_T_gr rfl rfl ((hF_.2.1 8 0 0 rfl).trans hb_) ?_
      refine sm_T_go 4 (c1 := (22, [some (.inr (.inr (some (8, 0)))), some (.inl k_)], [.inl k_, .inr (.inr (some (91, 0))), .inr (.inr (some (24, (0 + bb_))))], S_)) rfl ?_
      refine sm_T_iald (n := 162) rfl rfl (by omega) (by omega) ?_
      have bx3_ : 0 ≤ S_.2.2.1 91 0 k_.toNat ∧ S_.2.2.1 91 0 k_.toNat ≤ 161 := hI_.2 91 0 _
      refine sm_T_iald (n := 162) rfl rfl (by omega) (by omega) ?_
      have bx4_ : 0 ≤ S_.2.2.1 24 (0 + bb_) (S_.2.2.1 91 0 k_.toNat).toNat ∧ S_.2.2.1 24 (0 + bb_) (S_.2.2.1 91 0 k_.toNat).toNat ≤ 1 := hI_.2 24 (0 + bb_) _
      refine sm_T_b0 (a := 0) (z := 10) rfl (fun cx5_ => ?_) (fun cx5_ => ?_)
      · have cx5_ : (S_.2.2.1 24 (0 + bb_) (S_.2.2.1 91 0 k_.toNat).toNat) = 0 := of_decide_eq_true cx5_
        refine sm_T_inc (a := 1) (z := 1) (v := k_) (w := k_ + 1) rfl rfl (by omega) (by omega) (by omega) ?_ -- pc_ 34
        refine sm_T_go 1 (c1 := (2, [some (.inr (.inr (some (8, 0)))), some (.inl (k_ + 1))], [], S_)) rfl ?_
        refine ih_ (k_ + 1) S_ hI_ hF_ ⟨?_, ?_, trivial⟩ ?_
        · omega
        · first | rfl | exact hS_
        · omega
      · have cx5_ : ¬ ((S_.2.2.1 24 (0 + bb_) (S_.2.2.1 91 0 k_.toNat).toNat) = 0) := of_decide_eq_false cx5_
        refine sm_T_go 3 (c1 := (32, [some (.inr (.inr (some (8, 0)))), some (.inl k_)], [.inl k_, .inr (.inr (some (91, 0)))], S_)) rfl ?_
        refine sm_T_iald (n := 162) rfl rfl (by omega) (by omega) ?_
        refine sm_T_ri rfl ⟨_, _, rfl, (by first | rfl | exact hS_.symm), _, rfl, ?_⟩
        right
        rw [← hS_]
        exact ⟨g9_.1, g9_.2, by omega⟩
set_option maxHeartbeats 400000 in
theorem vc_156 {sc_ : Nat × (Nat → Int)} (bb_ : Nat) (n_ : Int) (S0_ : sm_S) (hI_ : gi S0_) (hb_ : S0_.2.1 8 0 0 = some bb_) (hn_ : n_ ≤ 162) (hr_ : rrw bb_ n_ (S0_.1 8 0 13) (S0_.1 8 0 13) S0_) : sm_T (mt_P sc_) 0 156 (0, [some (.inr (.inr (some (8, 0)))), none], [], S0_) (fun ro9_ => ∃ u_ S1_, ro9_ = (.inl u_, S1_, 0) ∧ vq_156 bb_ n_ S0_ u_ S1_) := by
  have hF_ : ai_fr (sx_W vw_156) S0_ S0_ := ai_fr_rf
  refine sm_T_go 2 (c1 := (2, [some (.inr (.inr (some (8, 0)))), some (.inl 0)], [], S0_)) rfl ?_
  refine (vl_156 bb_ n_ S0_ hb_ hn_ hr_ _) 0 S0_ hI_ hF_ ⟨?_, ?_, trivial⟩ (Nat.lt_succ_self _)
  · omega
  · first | rfl | exact hS_
end
/-! 99.zkja -/
section
/-! all nets routed; written by wip/p55/gen/vg -/

theorem bpp_fr {w_ : sx_Wl} {bi_ ci_ : Nat} {S_ S'_ : sm_S} (h_ : bpp bi_ ci_ S_) (g_ : ai_fr (sx_W w_) S_ S'_) (k1_ : (sx_W w_).1 2 1 = false := by rfl) (k2_ : (sx_W w_).1 2 2 = false := by rfl) (k3_ : (sx_W w_).1 2 3 = false := by rfl) (k8_ : (sx_W w_).1 2 8 = false := by rfl) (a1_ : (sx_W w_).2.1 16 = false := by rfl) (a2_ : (sx_W w_).2.1 17 = false := by rfl) : bpp bi_ ci_ S'_ := by
  unfold bpp
  rw [fr_arr g_ a1_, fr_arr g_ a2_, g_.1 2 ci_ 1 k1_, g_.1 2 ci_ 2 k2_, g_.1 2 ci_ 3 k3_, g_.1 2 ci_ 8 k8_]
  exact h_
/-! java/util/Arrays.fill -/
def vw_2o2 : sx_Wl := ([], [22], [])
def vq_2o2 (v0_ : Int) (bb_ : Nat) (S0_ : sm_S) (u_ : Option sm_V) (S1_ : sm_S) : Prop := u_ = none ∧ gi S1_ ∧ ai_fr (sx_W vw_2o2) S0_ S1_ ∧ (cdf bb_ S0_ S1_ ∧ (∀ j_, j_ < 4712 → S1_.2.2.1 22 (0 + bb_) j_ = v0_))
set_option maxHeartbeats 400000 in
theorem vl_2o2 {sc_ : Nat × (Nat → Int)} (v0_ : Int) (bb_ : Nat) (S0_ : sm_S) (hv_ : (-1) ≤ v0_ ∧ v0_ ≤ 161) : ∀ nn_ : Nat, (∀ (k_ : Int) (S_ : sm_S), gi S_ → ai_fr (sx_W vw_2o2) S0_ S_ → ((0 ≤ k_ ∧ k_ ≤ 4712) ∧ (∀ j_, j_ < k_.toNat → S_.2.2.1 22 (0 + bb_) j_ = v0_) ∧ (cdf bb_ S0_ S_) ∧ True) → ((4712 - k_).toNat) < nn_ → sm_T (mt_P sc_) 0 2 (5, [some (.inr (.inr (some (22, (0 + bb_))))), some (.inl v0_), some (.inl k_), some (.inl 4712)], [], S_) (fun ro9_ => ∃ u_ S1_, ro9_ = (.inl u_, S1_, 0) ∧ vq_2o2 v0_ bb_ S0_ u_ S1_)) := by
  intro nn_
  induction nn_ with
  | zero => exact fun _ _ _ _ _ h_ => absurd h_ (Nat.not_lt_zero _)
  | succ nn_ ih_ =>
    rintro k_ S_ hI_ hF_ ⟨h0_, h1_, hC_, -⟩ hm_
    refine sm_T_go 2 (c1 := (7, [some (.inr (.inr (some (22, (0 + bb_))))), some (.inl v0_), some (.inl k_), some (.inl 4712)], [.inl 4712, .inl k_], S_)) rfl ?_
    refine sm_T_br (a := 3) (z := 13) rfl (fun cx1_ => ?_) (fun cx1_ => ?_)
    · have cx1_ : 4712 ≤ k_ := of_decide_eq_true cx1_
      refine sm_T_rv rfl ⟨_, _, rfl, rfl, hI_, hF_, ?_⟩
      refine ⟨hC_, ?_⟩
      exact fun j_ hj_ => h1_ j_ (by omega)
    · have cx1_ : ¬ (4712 ≤ k_) := of_decide_eq_false cx1_
      refine sm_T_go 3 (c1 := (13, [some (.inr (.inr (some (22, (0 + bb_))))), some (.inl v0_), some (.inl k_), some (.inl 4712)], [.inl v0_, .inl k_, .inr (.inr (some (22, (0 + bb_))))], S_)) rfl ?_
      refine sm_T_iast (n := 4712) rfl rfl (by omega) (by omega) ?_
      have hIx2_ : gi (sm_aI S_ 22 (0 + bb_) k_.toNat v0_) := gi_aI hI_ (show (-1) ≤ v0_ ∧ v0_ ≤ 161 from ⟨by omega, by omega⟩)
      have hFx3_ : ai_fr (sx_W vw_2o2) S0_ (sm_aI S_ 22 (0 + bb_) k_.toNat v0_) := ai_fr_tr hF_ (ai_fr_aI rfl)
      have hCx4_ : cdf bb_ S0_ (sm_aI S_ 22 (0 + bb_) k_.toNat v0_) := cdf_aI hC_ (Or.inr (by rw [show cof 22 = 0 from rfl] <;> omega))
      refine sm_T_inc (a := 2) (z := 1) (v := k_) (w := k_ + 1) rfl rfl (by omega) (by omega) (by omega) ?_ -- pc_ 14
      refine sm_T_go 1 (c1 := (5, [some (.inr (.inr (some (22, (0 + bb_))))), some (.inl v0_), some (.inl (k_ + 1)), some (.inl 4712)], [], sm_aI S_ 22 (0 + bb_) k_.toNat v0_)) rfl ?_
      refine ih_ (k_ + 1) (sm_aI S_ 22 (0 + bb_) k_.toNat v0_) hIx2_ hFx3_ ⟨?_, ?_, ?_, trivial⟩ ?_
      · omega
      · intro j_ hj_
        rw [rd_eq]
        by_cases z_ : j_ = k_.toNat
        · rw [if_pos z_]
        · rw [if_neg z_]; exact h1_ j_ (by omega)
      · exact hCx4_
      · omega
set_option maxHeartbeats 400000 in
theorem vc_2o2 {sc_ : Nat × (Nat → Int)} (v0_ : Int) (bb_ : Nat) (S0_ : sm_S) (hI_ : gi S0_) (hv_ : (-1) ≤ v0_ ∧ v0_ ≤ 161) : sm_T (mt_P sc_) 0 2 (0, [some (.inr (.inr (some (22, (0 + bb_))))), some (.inl v0_), none, none], [], S0_) (fun ro9_ => ∃ u_ S1_, ro9_ = (.inl u_, S1_, 0) ∧ vq_2o2 v0_ bb_ S0_ u_ S1_) := by
  have hF_ : ai_fr (sx_W vw_2o2) S0_ S0_ := ai_fr_rf
  have hC_ : cdf bb_ S0_ S0_ := cdf_rf
  refine sm_T_go 5 (c1 := (5, [some (.inr (.inr (some (22, (0 + bb_))))), some (.inl v0_), some (.inl 0), some (.inl 4712)], [], S0_)) rfl ?_
  refine (vl_2o2 v0_ bb_ S0_ hv_ _) 0 S0_ hI_ hF_ ⟨?_, ?_, ?_, trivial⟩ (Nat.lt_succ_self _)
  · omega
  · (intro j_ hj_; exact absurd hj_ (Nat.not_lt_zero _))
  · exact hC_
end
/-! 99.zkjb -/
section
/-! java/util/Arrays.fill -/
def vw_2o3 : sx_Wl := ([], [23], [])
def vq_2o3 (v0_ : Int) (bb_ : Nat) (S0_ : sm_S) (u_ : Option sm_V) (S1_ : sm_S) : Prop := u_ = none ∧ gi S1_ ∧ ai_fr (sx_W vw_2o3) S0_ S1_ ∧ (cdf bb_ S0_ S1_ ∧ (∀ j_, j_ < 4712 → S1_.2.2.1 23 (0 + bb_) j_ = v0_))
set_option maxHeartbeats 400000 in
theorem vl_2o3 {sc_ : Nat × (Nat → Int)} (v0_ : Int) (bb_ : Nat) (S0_ : sm_S) (hv_ : 0 ≤ v0_ ∧ v0_ ≤ 7) : ∀ nn_ : Nat, (∀ (k_ : Int) (S_ : sm_S), gi S_ → ai_fr (sx_W vw_2o3) S0_ S_ → ((0 ≤ k_ ∧ k_ ≤ 4712) ∧ (∀ j_, j_ < k_.toNat → S_.2.2.1 23 (0 + bb_) j_ = v0_) ∧ (cdf bb_ S0_ S_) ∧ True) → ((4712 - k_).toNat) < nn_ → sm_T (mt_P sc_) 0 2 (5, [some (.inr (.inr (some (23, (0 + bb_))))), some (.inl v0_), some (.inl k_), some (.inl 4712)], [], S_) (fun ro9_ => ∃ u_ S1_, ro9_ = (.inl u_, S1_, 0) ∧ vq_2o3 v0_ bb_ S0_ u_ S1_)) := by
  intro nn_
  induction nn_ with
  | zero => exact fun _ _ _ _ _ h_ => absurd h_ (Nat.not_lt_zero _)
  | succ nn_ ih_ =>
    rintro k_ S_ hI_ hF_ ⟨h0_, h1_, hC_, -⟩ hm_
    refine sm_T_go 2 (c1 := (7, [some (.inr (.inr (some (23, (0 + bb_))))), some (.inl v0_), some (.inl k_), some (.inl 4712)], [.inl 4712, .inl k_], S_)) rfl ?_
    refine sm_T_br (a := 3) (z := 13) rfl (fun cx1_ => ?_) (fun cx1_ => ?_)
    · have cx1_ : 4712 ≤ k_ := of_decide_eq_true cx1_
      refine sm_T_rv rfl ⟨_, _, rfl, rfl, hI_, hF_, ?_⟩
      refine ⟨hC_, ?_⟩
      exact fun j_ hj_ => h1_ j_ (by omega)
    · have cx1_ : ¬ (4712 ≤ k_) := of_decide_eq_false cx1_
      refine sm_T_go 3 (c1 := (13, [some (.inr (.inr (some (23, (0 + bb_))))), some (.inl v0_), some (.inl k_), some (.inl 4712)], [.inl v0_, .inl k_, .inr (.inr (some (23, (0 + bb_))))], S_)) rfl ?_
      refine sm_T_iast (n := 4712) rfl rfl (by omega) (by omega) ?_
      have hIx2_ : gi (sm_aI S_ 23 (0 + bb_) k_.toNat v0_) := gi_aI hI_ (show 0 ≤ v0_ ∧ v0_ ≤ 7 from ⟨by omega, by omega⟩)
      have hFx3_ : ai_fr (sx_W vw_2o3) S0_ (sm_aI S_ 23 (0 + bb_) k_.toNat v0_) := ai_fr_tr hF_ (ai_fr_aI rfl)
      have hCx4_ : cdf bb_ S0_ (sm_aI S_ 23 (0 + bb_) k_.toNat v0_) := cdf_aI hC_ (Or.inr (by rw [show cof 23 = 0 from rfl] <;> omega))
      refine sm_T_inc (a := 2) (z := 1) (v := k_) (w := k_ + 1) rfl rfl (by omega) (by omega) (by omega) ?_ -- pc_ 14
      refine sm_T_go 1 (c1 := (5, [some (.inr (.inr (some (23, (0 + bb_))))), some (.inl v0_), some (.inl (k_ + 1)), some (.inl 4712)], [], sm_aI S_ 23 (0 + bb_) k_.toNat v0_)) rfl ?_
      refine ih_ (k_ + 1) (sm_aI S_ 23 (0 + bb_) k_.toNat v0_) hIx2_ hFx3_ ⟨?_, ?_, ?_, trivial⟩ ?_
      · omega
      · intro j_ hj_
        rw [rd_eq]
        by_cases z_ : j_ = k_.toNat
        · rw [if_pos z_]
        · rw [if_neg z_]; exact h1_ j_ (by omega)
      · exact hCx4_
      · omega
set_option maxHeartbeats 400000 in
theorem vc_2o3 {sc_ : Nat × (Nat → Int)} (v0_ : Int) (bb_ : Nat) (S0_ : sm_S) (hI_ : gi S0_) (hv_ : 0 ≤ v0_ ∧ v0_ ≤ 7) : sm_T (mt_P sc_) 0 2 (0, [some (.inr (.inr (some (23, (0 + bb_))))), some (.inl v0_), none, none], [], S0_) (fun ro9_ => ∃ u_ S1_, ro9_ = (.inl u_, S1_, 0) ∧ vq_2o3 v0_ bb_ S0_ u_ S1_) := by
  have hF_ : ai_fr (sx_W vw_2o3) S0_ S0_ := ai_fr_rf
  have hC_ : cdf bb_ S0_ S0_ := cdf_rf
  refine sm_T_go 5 (c1 := (5, [some (.inr (.inr (some (23, (0 + bb_))))), some (.inl v0_), some (.inl 0), some (.inl 4712)], [], S0_)) rfl ?_
  refine (vl_2o3 v0_ bb_ S0_ hv_ _) 0 S0_ hI_ hF_ ⟨?_, ?_, ?_, trivial⟩ (Nat.lt_succ_self _)
  · omega
  · (intro j_ hj_; exact absurd hj_ (Nat.not_lt_zero _))
  · exact hC_
end
