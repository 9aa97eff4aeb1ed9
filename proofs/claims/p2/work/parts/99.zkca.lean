/-! wires spread; written by wip/p55/gen/vg -/

/-! wires spread -/
def rgw (S_ : sm_S) : Prop := 1 ≤ S_.1 8 0 1 ∧ 1 ≤ S_.1 8 0 2 ∧ ∃ k_, S_.1 8 0 2 = k_ * S_.1 8 0 1
def rsp (bb_ : Nat) (t_ : Int) (S_ : sm_S) : Prop := rsf (S_.1 8 0 1) (S_.1 8 0 2) t_ (S_.2.2.1 22 (0 + bb_)) (S_.2.2.1 86 0) (S_.2.2.1 87 0) (S_.2.2.1 88 0) (S_.1 8 0 6) (S_.1 8 0 8)
/-- what a_ point reached leaves -/
def rmo (S_ S'_ : sm_S) : Prop := (∀ p_, S_.2.2.1 86 0 p_ ≠ -1 → S'_.2.2.1 86 0 p_ = S_.2.2.1 86 0 p_) ∧ S_.1 8 0 6 ≤ S'_.1 8 0 6 ∧ S_.1 8 0 8 ≤ S'_.1 8 0 8
theorem rmo_rf {S_ : sm_S} : rmo S_ S_ := ⟨fun _ _ => rfl, Int.le_refl _, Int.le_refl _⟩
theorem rmo_tr {S_ S'_ S2_ : sm_S} (h_ : rmo S_ S'_) (g_ : rmo S'_ S2_) : rmo S_ S2_ := ⟨fun p_ hp_ => (g_.1 p_ (by rw [h_.1 p_ hp_]; exact hp_)).trans (h_.1 p_ hp_), Int.le_trans h_.2.1 g_.2.1, Int.le_trans h_.2.2 g_.2.2⟩
theorem rsp_b {bb_ : Nat} {t_ x_ : Int} {S_ : sm_S} (h_ : rsp bb_ t_ S_) (hx_ : 0 ≤ x_ ∧ x_ < 2 * S_.1 8 0 2) (hf_ : S_.2.2.1 86 0 x_.toNat = -1) : S_.1 8 0 6 + S_.1 8 0 8 < 2 * S_.1 8 0 2 := by
  have c_ := h_.2.2.1
  have q_ := cne_st (f := S_.2.2.1 86 0) (c := -1) (j := x_.toNat) hf_ (n := (2 * S_.1 8 0 2).toNat) (by omega)
  omega
theorem rsp_n {bb_ : Nat} {t_ q_ s_ b_ : Int} {S_ : sm_S} (h_ : rsp bb_ t_ S_) (ht_ : 0 ≤ t_) (hq_ : 0 ≤ q_ ∧ q_ < 2 * S_.1 8 0 2) (hs_ : 0 ≤ s_ ∧ s_ < 2 * S_.1 8 0 2) (hf_ : S_.2.2.1 86 0 q_.toNat = -1) (hb_ : S_.2.2.1 86 0 s_.toNat = b_) (hb0_ : 0 ≤ b_) (h6_ : 0 ≤ S_.1 8 0 6) (hn_ : ∃ d_, (0 ≤ d_ ∧ d_ < 5) ∧ nb (S_.1 8 0 1) (S_.1 8 0 2) q_ d_ = s_) (ho_ : S_.2.2.1 22 (0 + bb_) q_.toNat = -1) :
    rsp bb_ t_ (sm_pI (sm_aI (sm_aI S_ 86 0 q_.toNat (b_ + 1)) 87 0 (S_.1 8 0 6).toNat q_) 8 0 6 (S_.1 8 0 6 + 1)) ∧ rmo S_ (sm_pI (sm_aI (sm_aI S_ 86 0 q_.toNat (b_ + 1)) 87 0 (S_.1 8 0 6).toNat q_) 8 0 6 (S_.1 8 0 6 + 1)) := by
  have r1_ : ∀ k_, (sm_pI (sm_aI (sm_aI S_ 86 0 q_.toNat (b_ + 1)) 87 0 (S_.1 8 0 6).toNat q_) 8 0 6 (S_.1 8 0 6 + 1)).2.2.1 86 0 k_ = if k_ = q_.toNat then b_ + 1 else S_.2.2.1 86 0 k_ := fun k_ => by rw [rd_fa, rd_ne (by decide), rd_eq]
  have r2_ : ∀ k_, (sm_pI (sm_aI (sm_aI S_ 86 0 q_.toNat (b_ + 1)) 87 0 (S_.1 8 0 6).toNat q_) 8 0 6 (S_.1 8 0 6 + 1)).2.2.1 87 0 k_ = if k_ = (S_.1 8 0 6).toNat then q_ else S_.2.2.1 87 0 k_ := fun k_ => by rw [rd_fa, rd_eq, rd_ne (by decide)]
  have pr_ : prc (S_.2.2.1 22 (0 + bb_)) t_ q_.toNat = 1 := by
    unfold prc
    rw [if_pos (Or.inl ho_)]
  refine ⟨?_, ?_, ?_, ?_⟩
  · show rsf (S_.1 8 0 1) (S_.1 8 0 2) t_ (S_.2.2.1 22 (0 + bb_)) ((sm_pI (sm_aI (sm_aI S_ 86 0 q_.toNat (b_ + 1)) 87 0 (S_.1 8 0 6).toNat q_) 8 0 6 (S_.1 8 0 6 + 1)).2.2.1 86 0) ((sm_pI (sm_aI (sm_aI S_ 86 0 q_.toNat (b_ + 1)) 87 0 (S_.1 8 0 6).toNat q_) 8 0 6 (S_.1 8 0 6 + 1)).2.2.1 87 0) (S_.2.2.1 88 0) (S_.1 8 0 6 + 1) (S_.1 8 0 8)
    refine rsf_a h_ ht_ hq_ hs_ hf_ hb_ hb0_ hn_ (fun k_ => by rw [r1_, pr_]) (by omega) (fun i_ hi_ => ?_) (fun i_ hi_ => Or.inr ⟨hi_, rfl⟩)
    rw [r2_]
    by_cases z_ : i_ = (S_.1 8 0 6).toNat
    · rw [if_pos z_]; exact Or.inl rfl
    · rw [if_neg z_]; exact Or.inr ⟨by omega, rfl⟩
  · intro p_ hp_
    rw [r1_, if_neg (fun z_ => hp_ (by rw [z_]; exact hf_))]
  · show S_.1 8 0 6 ≤ S_.1 8 0 6 + 1
    omega
  · exact Int.le_refl _
theorem rsp_f {bb_ : Nat} {t_ q_ s_ b_ : Int} {S_ : sm_S} (h_ : rsp bb_ t_ S_) (ht_ : 0 ≤ t_) (hq_ : 0 ≤ q_ ∧ q_ < 2 * S_.1 8 0 2) (hs_ : 0 ≤ s_ ∧ s_ < 2 * S_.1 8 0 2) (hf_ : S_.2.2.1 86 0 q_.toNat = -1) (hb_ : S_.2.2.1 86 0 s_.toNat = b_) (hb0_ : 0 ≤ b_) (h8_ : 0 ≤ S_.1 8 0 8) (hn_ : ∃ d_, (0 ≤ d_ ∧ d_ < 5) ∧ nb (S_.1 8 0 1) (S_.1 8 0 2) q_ d_ = s_) (ho_ : S_.2.2.1 22 (0 + bb_) q_.toNat ≠ -1) :
    rsp bb_ t_ (sm_pI (sm_aI (sm_aI S_ 86 0 q_.toNat (b_ + 11)) 88 0 (S_.1 8 0 8).toNat q_) 8 0 8 (S_.1 8 0 8 + 1)) ∧ rmo S_ (sm_pI (sm_aI (sm_aI S_ 86 0 q_.toNat (b_ + 11)) 88 0 (S_.1 8 0 8).toNat q_) 8 0 8 (S_.1 8 0 8 + 1)) := by
  have r1_ : ∀ k_, (sm_pI (sm_aI (sm_aI S_ 86 0 q_.toNat (b_ + 11)) 88 0 (S_.1 8 0 8).toNat q_) 8 0 8 (S_.1 8 0 8 + 1)).2.2.1 86 0 k_ = if k_ = q_.toNat then b_ + 11 else S_.2.2.1 86 0 k_ := fun k_ => by rw [rd_fa, rd_ne (by decide), rd_eq]
  have r2_ : ∀ k_, (sm_pI (sm_aI (sm_aI S_ 86 0 q_.toNat (b_ + 11)) 88 0 (S_.1 8 0 8).toNat q_) 8 0 8 (S_.1 8 0 8 + 1)).2.2.1 88 0 k_ = if k_ = (S_.1 8 0 8).toNat then q_ else S_.2.2.1 88 0 k_ := fun k_ => by rw [rd_fa, rd_eq, rd_ne (by decide)]
  have no_ : S_.2.2.1 22 (0 + bb_) q_.toNat ≠ t_ := fun z_ => by
    have y_ := (h_.1 q_.toNat (by omega)).mpr z_
    omega
  have pr_ : prc (S_.2.2.1 22 (0 + bb_)) t_ q_.toNat = 11 := by
    unfold prc
    rw [if_neg (fun z_ => z_.elim ho_ no_)]
  refine ⟨?_, ?_, ?_, ?_⟩
  · show rsf (S_.1 8 0 1) (S_.1 8 0 2) t_ (S_.2.2.1 22 (0 + bb_)) ((sm_pI (sm_aI (sm_aI S_ 86 0 q_.toNat (b_ + 11)) 88 0 (S_.1 8 0 8).toNat q_) 8 0 8 (S_.1 8 0 8 + 1)).2.2.1 86 0) (S_.2.2.1 87 0) ((sm_pI (sm_aI (sm_aI S_ 86 0 q_.toNat (b_ + 11)) 88 0 (S_.1 8 0 8).toNat q_) 8 0 8 (S_.1 8 0 8 + 1)).2.2.1 88 0) (S_.1 8 0 6) (S_.1 8 0 8 + 1)
    refine rsf_a h_ ht_ hq_ hs_ hf_ hb_ hb0_ hn_ (fun k_ => by rw [r1_, pr_]) (by omega) (fun i_ hi_ => Or.inr ⟨hi_, rfl⟩) (fun i_ hi_ => ?_)
    rw [r2_]
    by_cases z_ : i_ = (S_.1 8 0 8).toNat
    · rw [if_pos z_]; exact Or.inl rfl
    · rw [if_neg z_]; exact Or.inr ⟨by omega, rfl⟩
  · intro p_ hp_
    rw [r1_, if_neg (fun z_ => hp_ (by rw [z_]; exact hf_))]
  · exact Int.le_refl _
  · show S_.1 8 0 8 ≤ S_.1 8 0 8 + 1
    omega
/-! Router.reach -/
def vw_163 : sx_Wl := ([(8, 6), (8, 8)], [86, 87, 88], [])
def vq_163 (a1_ : Int) (a2_ : Int) (a3_ : Int) (a4_ : Int) (bb_ : Nat) (pp_ : Int) (S0_ : sm_S) (u_ : Option sm_V) (S1_ : sm_S) : Prop := u_ = none ∧ gi S1_ ∧ ai_fr (sx_W vw_163) S0_ S1_ ∧ (rsp bb_ a3_ S1_ ∧ rmo S0_ S1_)
set_option maxHeartbeats 400000 in
theorem vc_163 {sc_ : Nat × (Nat → Int)} (a1_ : Int) (a2_ : Int) (a3_ : Int) (a4_ : Int) (bb_ : Nat) (pp_ : Int) (S0_ : sm_S) (hI_ : gi S0_) (hb_ : S0_.2.1 8 0 0 = some bb_) (hg_ : rgw S0_) (hr_ : rsp bb_ a3_ S0_) (h1_ : 0 ≤ a1_ ∧ a1_ < 2 * S0_.1 8 0 2) (h3_ : 0 ≤ a3_ ∧ a3_ ≤ 161) (hs_ : 0 ≤ pp_ ∧ pp_ < 2 * S0_.1 8 0 2) (h2_ : S0_.2.2.1 86 0 pp_.toNat = a2_) (h20_ : 0 ≤ a2_) (hn_ : ∃ d_, (0 ≤ d_ ∧ d_ < 5) ∧ nb (S0_.1 8 0 1) (S0_.1 8 0 2) a1_ d_ = pp_) : sm_T (mt_P sc_) 0 163 (0, [some (.inr (.inr (some (8, 0)))), some (.inl a1_), some (.inl a2_), some (.inl a3_), some (.inl a4_)], [], S0_) (fun ro9_ => ∃ u_ S1_, ro9_ = (.inl u_, S1_, 0) ∧ vq_163 a1_ a2_ a3_ a4_ bb_ pp_ S0_ u_ S1_) := by
  have hF_ : ai_fr (sx_W vw_163) S0_ S0_ := ai_fr_rf
  have cL_ : 0 ≤ S0_.1 8 0 2 ∧ S0_.1 8 0 2 ≤ 2356 := hI_.1 8 0 2 rfl
  have c6_ : 0 ≤ S0_.1 8 0 6 ∧ S0_.1 8 0 6 ≤ 4712 := hI_.1 8 0 6 rfl
  have c8_ : 0 ≤ S0_.1 8 0 8 ∧ S0_.1 8 0 8 ≤ 4712 := hI_.1 8 0 8 rfl
  have g9_ := hr_.2.2.2.2.2 pp_.toNat (by omega)
  have C9_ := hr_.2.2.1
  refine sm_T_go 3 (c1 := (5, [some (.inr (.inr (some (8, 0)))), some (.inl a1_), some (.inl a2_), some (.inl a3_), some (.inl a4_)], [.inl a1_, .inr (.inr (some (86, 0)))], S0_)) rfl ?_
  refine sm_T_iald (n := 4712) rfl rfl (by omega) (by omega) ?_
  have bx1_ : (-1) ≤ S0_.2.2.1 86 0 a1_.toNat ∧ S0_.2.2.1 86 0 a1_.toNat ≤ 100000 := hI_.2 86 0 _
  refine sm_T_go 1 (c1 := (7, [some (.inr (.inr (some (8, 0)))), some (.inl a1_), some (.inl a2_), some (.inl a3_), some (.inl a4_)], [.inl (-1), .inl (S0_.2.2.1 86 0 a1_.toNat)], S0_)) rfl ?_
  refine sm_T_br (a := 1) (z := 23) rfl (fun cx2_ => ?_) (fun cx2_ => ?_)
  · have cx2_ : (S0_.2.2.1 86 0 a1_.toNat) ≠ (-1) := of_decide_eq_true cx2_
    refine sm_T_rv rfl ⟨_, _, rfl, rfl, hI_, hF_, ?_⟩
    exact ⟨hr_, rmo_rf⟩
  · have cx2_ : ¬ ((S0_.2.2.1 86 0 a1_.toNat) ≠ (-1)) := of_decide_eq_false cx2_
    have f9_ : S0_.2.2.1 86 0 a1_.toNat = -1 := by omega
    have b9_ := rsp_b hr_ h1_ f9_
    refine sm_T_go 3 (c1 := (15, [some (.inr (.inr (some (8, 0)))), some (.inl a1_), some (.inl a2_), some (.inl a3_), some (.inl a4_)], [.inl a1_, .inr (.inr (some (85, 0)))], S0_)) rfl ?_
    refine sm_T_iald (n := 4712) rfl rfl (by omega) (by omega) ?_
    have bx3_ : (-1) ≤ S0_.2.2.1 85 0 a1_.toNat ∧ S0_.2.2.1 85 0 a1_.toNat ≤ 161 := hI_.2 85 0 _
    refine sm_T_go 1 (c1 := (17, [some (.inr (.inr (some (8, 0)))), some (.inl a1_), some (.inl a2_), some (.inl a3_), some (.inl a4_)], [.inl (-1), .inl (S0_.2.2.1 85 0 a1_.toNat)], S0_)) rfl ?_
    refine sm_T_br (a := 0) (z := 14) rfl (fun cx4_ => ?_) (fun cx4_ => ?_)
    · have cx4_ : (S0_.2.2.1 85 0 a1_.toNat) = (-1) := of_decide_eq_true cx4_
      refine sm_T_go 1 (c1 := (32, [some (.inr (.inr (some (8, 0)))), some (.inl a1_), some (.inl a2_), some (.inl a3_), some (.inl a4_)], [.inr (.inr (some (8, 0)))], S0_)) rfl ?_
      refine sm_T_gr rfl rfl ((hF_.2.1 8 0 0 rfl).trans hb_) ?_
      refine sm_T_go 2 (c1 := (39, [some (.inr (.inr (some (8, 0)))), some (.inl a1_), some (.inl a2_), some (.inl a3_), some (.inl a4_)], [.inl a1_, .inr (.inr (some (22, (0 + bb_))))], S0_)) rfl ?_
      refine sm_T_iald (n := 4712) rfl rfl (by omega) (by omega) ?_
      have bx5_ : (-1) ≤ S0_.2.2.1 22 (0 + bb_) a1_.toNat ∧ S0_.2.2.1 22 (0 + bb_) a1_.toNat ≤ 161 := hI_.2 22 (0 + bb_) _
      refine sm_T_go 1 (c1 := (41, [some (.inr (.inr (some (8, 0)))), some (.inl a1_), some (.inl a2_), some (.inl a3_), some (.inl a4_)], [.inl (-1), .inl (S0_.2.2.1 22 (0 + bb_) a1_.toNat)], S0_)) rfl ?_
      refine sm_T_br (a := 1) (z := 35) rfl (fun cx6_ => ?_) (fun cx6_ => ?_)
      · have cx6_ : (S0_.2.2.1 22 (0 + bb_) a1_.toNat) ≠ (-1) := of_decide_eq_true cx6_
        refine sm_T_go 1 (c1 := (78, [some (.inr (.inr (some (8, 0)))), some (.inl a1_), some (.inl a2_), some (.inl a3_), some (.inl a4_)], [.inl a4_], S0_)) rfl ?_
        refine sm_T_b0 (a := 0) (z := 33) rfl (fun cx7_ => ?_) (fun cx7_ => ?_)
        · have cx7_ : a4_ = 0 := of_decide_eq_true cx7_
          refine sm_T_rv rfl ⟨_, _, rfl, rfl, hI_, hF_, ?_⟩
          first | exact ⟨hr_, rmo_rf⟩ | exact rsp_n hr_ h3_.1 h1_ hs_ f9_ h2_ h20_ c6_.1 hn_ (by omega) | exact rsp_f hr_ h3_.1 h1_ hs_ f9_ h2_ h20_ c8_.1 hn_ (by omega)
        · have cx7_ : ¬ (a4_ = 0) := of_decide_eq_false cx7_
          refine sm_T_go 5 (c1 := (89, [some (.inr (.inr (some (8, 0)))), some (.inl a1_), some (.inl a2_), some (.inl a3_), some (.inl a4_)], [.inl 11, .inl a2_, .inl a1_, .inr (.inr (some (86, 0)))], S0_)) rfl ?_
          refine sm_T_bin (w := a2_ + 11) rfl (bi_add (by omega) (by omega) (by omega)) ?_ -- pc_ 89
          refine sm_T_iast (n := 4712) rfl rfl (by omega) (by omega) ?_
          have hIx8_ : gi (sm_aI S0_ 86 0 a1_.toNat (a2_ + 11)) := gi_aI hI_ (show (-1) ≤ a2_ + 11 ∧ a2_ + 11 ≤ 100000 from ⟨by omega, by omega⟩)
          have hFx9_ : ai_fr (sx_W vw_163) S0_ (sm_aI S0_ 86 0 a1_.toNat (a2_ + 11)) := ai_fr_tr hF_ (ai_fr_aI rfl)
          have bx10_ : 0 ≤ S0_.1 8 0 8 ∧ S0_.1 8 0 8 ≤ 4712 := hI_.1 8 0 8 rfl
          refine sm_T_go 5 (c1 := (100, [some (.inr (.inr (some (8, 0)))), some (.inl a1_), some (.inl a2_), some (.inl a3_), some (.inl a4_)], [.inl a1_, .inl (S0_.1 8 0 8), .inr (.inr (some (88, 0)))], sm_aI S0_ 86 0 a1_.toNat (a2_ + 11))) rfl ?_
          refine sm_T_iast (n := 4712) rfl rfl (by omega) (by omega) ?_
          have hIx11_ : gi (sm_aI (sm_aI S0_ 86 0 a1_.toNat (a2_ + 11)) 88 0 (S0_.1 8 0 8).toNat a1_) := gi_aI hIx8_ (show 0 ≤ a1_ ∧ a1_ ≤ 4711 from ⟨by omega, by omega⟩)
          have hFx12_ : ai_fr (sx_W vw_163) S0_ (sm_aI (sm_aI S0_ 86 0 a1_.toNat (a2_ + 11)) 88 0 (S0_.1 8 0 8).toNat a1_) := ai_fr_tr hFx9_ (ai_fr_aI rfl)
          refine sm_T_go 4 (c1 := (107, [some (.inr (.inr (some (8, 0)))), some (.inl a1_), some (.inl a2_), some (.inl a3_), some (.inl a4_)], [.inl 1, .inl (S0_.1 8 0 8), .inr (.inr (some (8, 0)))], sm_aI (sm_aI S0_ 86 0 a1_.toNat (a2_ + 11)) 88 0 (S0_.1 8 0 8).toNat a1_)) rfl ?_
          refine sm_T_bin (w := (S0_.1 8 0 8) + 1) rfl (bi_add (by omega) (by omega) (by omega)) ?_ -- pc_ 107
          have hIx13_ : gi (sm_pI (sm_aI (sm_aI S0_ 86 0 a1_.toNat (a2_ + 11)) 88 0 (S0_.1 8 0 8).toNat a1_) 8 0 8 ((S0_.1 8 0 8) + 1)) := gi_pI hIx11_ (show 0 ≤ (S0_.1 8 0 8) + 1 ∧ (S0_.1 8 0 8) + 1 ≤ 4712 from ⟨by omega, by omega⟩)
          have hFx14_ : ai_fr (sx_W vw_163) S0_ (sm_pI (sm_aI (sm_aI S0_ 86 0 a1_.toNat (a2_ + 11)) 88 0 (S0_.1 8 0 8).toNat a1_) 8 0 8 ((S0_.1 8 0 8) + 1)) := ai_fr_tr hFx12_ (ai_fr_pI rfl)
          refine sm_T_go 1 (c1 := (111, [some (.inr (.inr (some (8, 0)))), some (.inl a1_), some (.inl a2_), some (.inl a3_), some (.inl a4_)], [], sm_pI (sm_aI (sm_aI S0_ 86 0 a1_.toNat (a2_ + 11)) 88 0 (S0_.1 8 0 8).toNat a1_) 8 0 8 ((S0_.1 8 0 8) + 1))) rfl ?_
          refine sm_T_rv rfl ⟨_, _, rfl, rfl, hIx13_, hFx14_, ?_⟩
          first | exact ⟨hr_, rmo_rf⟩ | exact rsp_n hr_ h3_.1 h1_ hs_ f9_ h2_ h20_ c6_.1 hn_ (by omega) | exact rsp_f hr_ h3_.1 h1_ hs_ f9_ h2_ h20_ c8_.1 hn_ (by omega)
      · have cx6_ : ¬ ((S0_.2.2.1 22 (0 + bb_) a1_.toNat) ≠ (-1)) := of_decide_eq_false cx6_
        refine sm_T_go 5 (c1 := (51, [some (.inr (.inr (some (8, 0)))), some (.inl a1_), some (.inl a2_), some (.inl a3_), some (.inl a4_)], [.inl 1, .inl a2_, .inl a1_, .inr (.inr (some (86, 0)))], S0_)) rfl ?_
        refine sm_T_bin (w := a2_ + 1) rfl (bi_add (by omega) (by omega) (by omega)) ?_ -- pc_ 51
        refine sm_T_iast (n := 4712) rfl rfl (by omega) (by omega) ?_
        have hIx15_ : gi (sm_aI S0_ 86 0 a1_.toNat (a2_ + 1)) := gi_aI hI_ (show (-1) ≤ a2_ + 1 ∧ a2_ + 1 ≤ 100000 from ⟨by omega, by omega⟩)
        have hFx16_ : ai_fr (sx_W vw_163) S0_ (sm_aI S0_ 86 0 a1_.toNat (a2_ + 1)) := ai_fr_tr hF_ (ai_fr_aI rfl)
        have bx17_ : 0 ≤ S0_.1 8 0 6 ∧ S0_.1 8 0 6 ≤ 4712 := hI_.1 8 0 6 rfl
        refine sm_T_go 5 (c1 := (62, [some (.inr (.inr (some (8, 0)))), some (.inl a1_), some (.inl a2_), some (.inl a3_), some (.inl a4_)], [.inl a1_, .inl (S0_.1 8 0 6), .inr (.inr (some (87, 0)))], sm_aI S0_ 86 0 a1_.toNat (a2_ + 1))) rfl ?_
        refine sm_T_iast (n := 4712) rfl rfl (by omega) (by omega) ?_
        have hIx18_ : gi (sm_aI (sm_aI S0_ 86 0 a1_.toNat (a2_ + 1)) 87 0 (S0_.1 8 0 6).toNat a1_) := gi_aI hIx15_ (show 0 ≤ a1_ ∧ a1_ ≤ 4711 from ⟨by omega, by omega⟩)
        have hFx19_ : ai_fr (sx_W vw_163) S0_ (sm_aI (sm_aI S0_ 86 0 a1_.toNat (a2_ + 1)) 87 0 (S0_.1 8 0 6).toNat a1_) := ai_fr_tr hFx16_ (ai_fr_aI rfl)
        refine sm_T_go 4 (c1 := (69, [some (.inr (.inr (some (8, 0)))), some (.inl a1_), some (.inl a2_), some (.inl a3_), some (.inl a4_)], [.inl 1, .inl (S0_.1 8 0 6), .inr (.inr (some (8, 0)))], sm_aI (sm_aI S0_ 86 0 a1_.toNat (a2_ + 1)) 87 0 (S0_.1 8 0 6).toNat a1_)) rfl ?_
        refine sm_T_bin (w := (S0_.1 8 0 6) + 1) rfl (bi_add (by omega) (by omega) (by omega)) ?_ -- pc_ 69
        have hIx20_ : gi (sm_pI (sm_aI (sm_aI S0_ 86 0 a1_.toNat (a2_ + 1)) 87 0 (S0_.1 8 0 6).toNat a1_) 8 0 6 ((S0_.1 8 0 6) + 1)) := gi_pI hIx18_ (show 0 ≤ (S0_.1 8 0 6) + 1 ∧ (S0_.1 8 0 6) + 1 ≤ 4712 from ⟨by omega, by omega⟩)
        have hFx21_ : ai_fr (sx_W vw_163) S0_ (sm_pI (sm_aI (sm_aI S0_ 86 0 a1_.toNat (a2_ + 1)) 87 0 (S0_.1 8 0 6).toNat a1_) 8 0 6 ((S0_.1 8 0 6) + 1)) := ai_fr_tr hFx19_ (ai_fr_pI rfl)
        refine sm_T_go 2 (c1 := (111, [some (.inr (.inr (some (8, 0)))), some (.inl a1_), some (.inl a2_), some (.inl a3_), some (.inl a4_)], [], sm_pI (sm_aI (sm_aI S0_ 86 0 a1_.toNat (a2_ + 1)) 87 0 (S0_.1 8 0 6).toNat a1_) 8 0 6 ((S0_.1 8 0 6) + 1))) rfl ?_
        refine sm_T_rv rfl ⟨_, _, rfl, rfl, hIx20_, hFx21_, ?_⟩
        first | exact ⟨hr_, rmo_rf⟩ | exact rsp_n hr_ h3_.1 h1_ hs_ f9_ h2_ h20_ c6_.1 hn_ (by omega) | exact rsp_f hr_ h3_.1 h1_ hs_ f9_ h2_ h20_ c8_.1 hn_ (by omega)
    · have cx4_ : ¬ ((S0_.2.2.1 85 0 a1_.toNat) = (-1)) := of_decide_eq_false cx4_
      refine sm_T_go 3 (c1 := (25, [some (.inr (.inr (some (8, 0)))), some (.inl a1_), some (.inl a2_), some (.inl a3_), some (.inl a4_)], [.inl a1_, .inr (.inr (some (85, 0)))], S0_)) rfl ?_
      refine sm_T_iald (n := 4712) rfl rfl (by omega) (by omega) ?_
      refine sm_T_go 1 (c1 := (27, [some (.inr (.inr (some (8, 0)))), some (.inl a1_), some (.inl a2_), some (.inl a3_), some (.inl a4_)], [.inl a3_, .inl (S0_.2.2.1 85 0 a1_.toNat)], S0_)) rfl ?_
      refine sm_T_br (a := 0) (z := 4) rfl (fun cx22_ => ?_) (fun cx22_ => ?_)
      · have cx22_ : (S0_.2.2.1 85 0 a1_.toNat) = a3_ := of_decide_eq_true cx22_
        refine sm_T_go 1 (c1 := (32, [some (.inr (.inr (some (8, 0)))), some (.inl a1_), some (.inl a2_), some (.inl a3_), some (.inl a4_)], [.inr (.inr (some (8, 0)))], S0_)) rfl ?_
        refine sm_T_gr rfl rfl ((hF_.2.1 8 0 0 rfl).trans hb_) ?_
        refine sm_T_go 2 (c1 := (39, [some (.inr (.inr (some (8, 0)))), some (.inl a1_), some (.inl a2_), some (.inl a3_), some (.inl a4_)], [.inl a1_, .inr (.inr (some (22, (0 + bb_))))], S0_)) rfl ?_
        refine sm_T_iald (n := 4712) rfl rfl (by omega) (by omega) ?_
        have bx23_ : (-1) ≤ S0_.2.2.1 22 (0 + bb_) a1_.toNat ∧ S0_.2.2.1 22 (0 + bb_) a1_.toNat ≤ 161 := hI_.2 22 (0 + bb_) _
        refine sm_T_go 1 (c1 := (41, [some (.inr (.inr (some (8, 0)))), some (.inl a1_), some (.inl a2_), some (.inl a3_), some (.inl a4_)], [.inl (-1), .inl (S0_.2.2.1 22 (0 + bb_) a1_.toNat)], S0_)) rfl ?_
        refine sm_T_br (a := 1) (z := 35) rfl (fun cx24_ => ?_) (fun cx24_ => ?_)
        · have cx24_ : (S0_.2.2.1 22 (0 + bb_) a1_.toNat) ≠ (-1) := of_decide_eq_true cx24_
          refine sm_T_go 1 (c1 := (78, [some (.inr (.inr (some (8, 0)))), some (.inl a1_), some (.inl a2_), some (.inl a3_), some (.inl a4_)], [.inl a4_], S0_)) rfl ?_
          refine sm_T_b0 (a := 0) (z := 33) rfl (fun cx25_ => ?_) (fun cx25_ => ?_)
          · have cx25_ : a4_ = 0 := of_decide_eq_true cx25_
            refine sm_T_rv rfl ⟨_, _, rfl, rfl, hI_, hF_, ?_⟩
            first | exact ⟨hr_, rmo_rf⟩ | exact rsp_n hr_ h3_.1 h1_ hs_ f9_ h2_ h20_ c6_.1 hn_ (by omega) | exact rsp_f hr_ h3_.1 h1_ hs_ f9_ h2_ h20_ c8_.1 hn_ (by omega)
          · have cx25_ : ¬ (a4_ = 0) := of_decide_eq_false cx25_
            refine sm_T_go 5 (c1 := (89, [some (.inr (.inr (some (8, 0)))), some (.inl a1_), some (.inl a2_), some (.inl a3_), some (.inl a4_)], [.inl 11, .inl a2_, .inl a1_, .inr (.inr (some (86, 0)))], S0_)) rfl ?_
            refine sm_T_bin (w := a2_ + 11) rfl (bi_add (by omega) (by omega) (by omega)) ?_ -- pc_ 89
            refine sm_T_iast (n := 4712) rfl rfl (by omega) (by omega) ?_
            have hIx26_ : gi (sm_aI S0_ 86 0 a1_.toNat (a2_ + 11)) := gi_aI hI_ (show (-1) ≤ a2_ + 11 ∧ a2_ + 11 ≤ 100000 from ⟨by omega, by omega⟩)
            have hFx27_ : ai_fr (sx_W vw_163) S0_ (sm_aI S0_ 86 0 a1_.toNat (a2_ + 11)) := ai_fr_tr hF_ (ai_fr_aI rfl)
            have bx28_ : 0 ≤ S0_.1 8 0 8 ∧ S0_.1 8 0 8 ≤ 4712 := hI_.1 8 0 8 rfl
            refine sm_T_go 5 (c1 := (100, [some (.inr (.inr (some (8, 0)))), some (.inl a1_), some (.inl a2_), some (.inl a3_), some (.inl a4_)], [.inl a1_, .inl (S0_.1 8 0 8), .inr (.inr (some (88, 0)))], sm_aI S0_ 86 0 a1_.toNat (a2_ + 11))) rfl ?_
            refine sm_T_iast (n := 4712) rfl rfl (by omega) (by omega) ?_
            have hIx29_ : gi (sm_aI (sm_aI S0_ 86 0 a1_.toNat (a2_ + 11)) 88 0 (S0_.1 8 0 8).toNat a1_) := gi_aI hIx26_ (show 0 ≤ a1_ ∧ a1_ ≤ 4711 from ⟨by omega, by omega⟩)
            have hFx30_ : ai_fr (sx_W vw_163) S0_ (sm_aI (sm_aI S0_ 86 0 a1_.toNat (a2_ + 11)) 88 0 (S0_.1 8 0 8).toNat a1_) := ai_fr_tr hFx27_ (ai_fr_aI rfl)
            refine sm_T_go 4 (c1 := (107, [some (.inr (.inr (some (8, 0)))), some (.inl a1_), some (.inl a2_), some (.inl a3_), some (.inl a4_)], [.inl 1, .inl (S0_.1 8 0 8), .inr (.inr (some (8, 0)))], sm_aI (sm_aI S0_ 86 0 a1_.toNat (a2_ + 11)) 88 0 (S0_.1 8 0 8).toNat a1_)) rfl ?_
            refine sm_T_bin (w := (S0_.1 8 0 8) + 1) rfl (bi_add (by omega) (by omega) (by omega)) ?_ -- pc_ 107
            have hIx31_ : gi (sm_pI (sm_aI (sm_aI S0_ 86 0 a1_.toNat (a2_ + 11)) 88 0 (S0_.1 8 0 8).toNat a1_) 8 0 8 ((S0_.1 8 0 8) + 1)) := gi_pI hIx29_ (show 0 ≤ (S0_.1 8 0 8) + 1 ∧ (S0_.1 8 0 8) + 1 ≤ 4712 from ⟨by omega, by omega⟩)
            have hFx32_ : ai_fr (sx_W vw_163) S0_ (sm_pI (sm_aI (sm_aI S0_ 86 0 a1_.toNat (a2_ + 11)) 88 0 (S0_.1 8 0 8).toNat a1_) 8 0 8 ((S0_.1 8 0 8) + 1)) := ai_fr_tr hFx30_ (ai_fr_pI rfl)
            refine sm_T_go 1 (c1 := (111, [some (.inr (.inr (some (8, 0)))), some (.inl a1_), some (.inl a2_), some (.inl a3_), some (.inl a4_)], [], sm_pI (sm_aI (sm_aI S0_ 86 0 a1_.toNat (a2_ + 11)) 88 0 (S0_.1 8 0 8).toNat a1_) 8 0 8 ((S0_.1 8 0 8) + 1))) rfl ?_
            refine sm_T_rv rfl ⟨_, _, rfl, rfl, hIx31_, hFx32_, ?_⟩
            first | exact ⟨hr_, rmo_rf⟩ | exact rsp_n hr_ h3_.1 h1_ hs_ f9_ h2_ h20_ c6_.1 hn_ (by omega) | exact rsp_f hr_ h3_.1 h1_ hs_ f9_ h2_ h20_ c8_.1 hn_ (by omega)
        · have cx24_ : ¬ ((S0_.2.2.1 22 (0 + bb_) a1_.toNat) ≠ (-1)) := of_decide_eq_false cx24_
          refine sm_T_go 5 (c1 := (51, [some (.inr (.inr (some (8, 0)))), some (.inl a1_), some (.inl a2_), some (.inl a3_), some (.inl a4_)], [.inl 1, .inl a2_, .inl a1_, .inr (.inr (some (86, 0)))], S0_)) rfl ?_
          refine sm_T_bin (w := a2_ + 1) rfl (bi_add (by omega) (by omega) (by omega)) ?_ -- pc_ 51
          refine sm_T_iast (n := 4712) rfl rfl (by omega) (by omega) ?_
          have hIx33_ : gi (sm_aI S0_ 86 0 a1_.toNat (a2_ + 1)) := gi_aI hI_ (show (-1) ≤ a2_ + 1 ∧ a2_ + 1 ≤ 100000 from ⟨by omega, by omega⟩)
          have hFx34_ : ai_fr (sx_W vw_163) S0_ (sm_aI S0_ 86 0 a1_.toNat (a2_ + 1)) := ai_fr_tr hF_ (ai_fr_aI rfl)
          have bx35_ : 0 ≤ S0_.1 8 0 6 ∧ S0_.1 8 0 6 ≤ 4712 := hI_.1 8 0 6 rfl
          refine sm_T_go 5 (c1 := (62, [some (.inr (.inr (some (8, 0)))), some (.inl a1_), some (.inl a2_), some (.inl a3_), some (.inl a4_)], [.inl a1_, .inl (S0_.1 8 0 6), .inr (.inr (some (87, 0)))], sm_aI S0_ 86 0 a1_.toNat (a2_ + 1))) rfl ?_
          refine sm_T_iast (n := 4712) rfl rfl (by omega) (by omega) ?_
          have hIx36_ : gi (sm_aI (sm_aI S0_ 86 0 a1_.toNat (a2_ + 1)) 87 0 (S0_.1 8 0 6).toNat a1_) := gi_aI hIx33_ (show 0 ≤ a1_ ∧ a1_ ≤ 4711 from ⟨by omega, by omega⟩)
          have hFx37_ : ai_fr (sx_W vw_163) S0_ (sm_aI (sm_aI S0_ 86 0 a1_.toNat (a2_ + 1)) 87 0 (S0_.1 8 0 6).toNat a1_) := ai_fr_tr hFx34_ (ai_fr_aI rfl)
          refine sm_T_go 4 (c1 := (69, [some (.inr (.inr (some (8, 0)))), some (.inl a1_), some (.inl a2_), some (.inl a3_), some (.inl a4_)], [.inl 1, .inl (S0_.1 8 0 6), .inr (.inr (some (8, 0)))], sm_aI (sm_aI S0_ 86 0 a1_.toNat (a2_ + 1)) 87 0 (S0_.1 8 0 6).toNat a1_)) rfl ?_
          refine sm_T_bin (w := (S0_.1 8 0 6) + 1) rfl (bi_add (by omega) (by omega) (by omega)) ?_ -- pc_ 69
          have hIx38_ : gi (sm_pI (sm_aI (sm_aI S0_ 86 0 a1_.toNat (a2_ + 1)) 87 0 (S0_.1 8 0 6).toNat a1_) 8 0 6 ((S0_.1 8 0 6) + 1)) := gi_pI hIx36_ (show 0 ≤ (S0_.1 8 0 6) + 1 ∧ (S0_.1 8 0 6) + 1 ≤ 4712 from ⟨by omega, by omega⟩)
          have hFx39_ : ai_fr (sx_W vw_163) S0_ (sm_pI (sm_aI (sm_aI S0_ 86 0 a1_.toNat (a2_ + 1)) 87 0 (S0_.1 8 0 6).toNat a1_) 8 0 6 ((S0_.1 8 0 6) + 1)) := ai_fr_tr hFx37_ (ai_fr_pI rfl)
          refine sm_T_go 2 (c1 := (111, [some (.inr (.inr (some (8, 0)))), some (.inl a1_), some (.inl a2_), some (.inl a3_), some (.inl a4_)], [], sm_pI (sm_aI (sm_aI S0_ 86 0 a1_.toNat (a2_ + 1)) 87 0 (S0_.1 8 0 6).toNat a1_) 8 0 6 ((S0_.1 8 0 6) + 1))) rfl ?_
          refine sm_T_rv rfl ⟨_, _, rfl, rfl, hIx38_, hFx39_, ?_⟩
          first | exact ⟨hr_, rmo_rf⟩ | exact rsp_n hr_ h3_.1 h1_ hs_ f9_ h2_ h20_ c6_.1 hn_ (by omega) | exact rsp_f hr_ h3_.1 h1_ hs_ f9_ h2_ h20_ c8_.1 hn_ (by omega)
      · have cx22_ : ¬ ((S0_.2.2.1 85 0 a1_.toNat) = a3_) := of_decide_eq_false cx22_
        refine sm_T_rv rfl ⟨_, _, rfl, rfl, hI_, hF_, ?_⟩
        exact ⟨hr_, rmo_rf⟩

theorem rgw_fr {w_ : sx_Wl} {S_ S'_ : sm_S} (h_ : rgw S_) (g_ : ai_fr (sx_W w_) S_ S'_) (h1_ : (sx_W w_).1 8 1 = false := by rfl) (h2_ : (sx_W w_).1 8 2 = false := by rfl) : rgw S'_ := by
  unfold rgw
  rw [g_.1 8 0 1 h1_, g_.1 8 0 2 h2_]
  exact h_
