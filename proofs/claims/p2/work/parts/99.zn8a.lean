/-! all ways of a node; written by wip/p55/gen/vg -/

theorem mkd_fr {w_ : sx_Wl} {dd_ F_ : Nat} {S_ S'_ : sm_S} (h_ : mkd dd_ F_ S_ (S_.2.2.1 59 0)) (g_ : ai_fr (sx_W w_) S_ S'_) (h2_ : (sx_W w_).1 3 2 = false := by rfl) (h3_ : (sx_W w_).1 3 3 = false := by rfl) (h4_ : (sx_W w_).1 3 4 = false := by rfl) (a1_ : (sx_W w_).2.1 42 = false := by rfl) (a2_ : (sx_W w_).2.1 43 = false := by rfl) (a3_ : (sx_W w_).2.1 44 = false := by rfl) (a4_ : (sx_W w_).2.1 45 = false := by rfl) (a5_ : (sx_W w_).2.1 46 = false := by rfl) (a6_ : (sx_W w_).2.1 59 = false := by rfl) : mkd dd_ F_ S'_ (S'_.2.2.1 59 0) := by
  unfold mkd srp rtv
  rw [g_.1 3 dd_ 2 h2_, g_.1 3 dd_ 3 h3_, g_.1 3 dd_ 4 h4_, fr_arr g_ a1_, fr_arr g_ a2_, fr_arr g_ a3_, fr_arr g_ a4_, fr_arr g_ a5_, fr_arr g_ a6_]
  exact h_
/-- a_ literal of_ node n_ gets the_ inverted way_ of_ the_ other -/
theorem wok_iv {F_ n_ : Int} {ll_ l_ m_ : Nat} {S_ : sm_S} {z_ : Int} (h_ : wo3 F_ n_ ll_ S_ l_) (g_ : wo3 F_ n_ ll_ S_ m_) (ne_ : m_ ≠ l_) (hl_ : 2 * n_ ≤ (l_ : Int)) (iv_ : S_.1 5 ll_ 2 ≠ -1) (hz_ : z_ < S_.2.2.1 61 0 l_) (hm_ : S_.2.2.1 61 0 m_ ≤ z_) (c61_ : S_.2.2.1 61 0 l_ ≤ 268435456) (c55_ : ∀ k_, S_.2.2.1 55 (0 + ll_) k_ ≤ 3) :
    wok F_ n_ ll_ (sm_aI (sm_aI S_ 61 0 l_ z_) 62 0 l_ (-2)) l_ m_ ∧ wok F_ n_ ll_ (sm_aI (sm_aI S_ 61 0 l_ z_) 62 0 l_ (-2)) m_ l_ ∧ wfl l_ S_ (sm_aI (sm_aI S_ 61 0 l_ z_) 62 0 l_ (-2)) := by
  have r61_ : ∀ j_, (sm_aI (sm_aI S_ 61 0 l_ z_) 62 0 l_ (-2)).2.2.1 61 0 j_ = if j_ = l_ then z_ else S_.2.2.1 61 0 j_ := fun j_ => by rw [rd_ne (by decide), rd_eq]
  have r62_ : ∀ j_, (sm_aI (sm_aI S_ 61 0 l_ z_) 62 0 l_ (-2)).2.2.1 62 0 j_ = if j_ = l_ then -2 else S_.2.2.1 62 0 j_ := fun j_ => by rw [rd_eq, rd_ne (by decide)]
  have w_ : wfl l_ S_ (sm_aI (sm_aI S_ 61 0 l_ z_) 62 0 l_ (-2)) := by
    refine ⟨fun j_ hj_ => ?_, fun j_ hj_ => ?_⟩
    · rw [r61_, r62_, if_neg hj_, if_neg hj_, rd_ne (by decide), rd_ne (by decide)]; exact ⟨rfl, rfl, rfl⟩
    · rw [rd_ne (by decide), rd_ne (by decide)]
  refine ⟨Or.inr ⟨by rw [r62_, if_pos rfl], by rw [r61_, if_pos rfl]; omega, iv_, ?_⟩, Or.inl (wo3_cg g_ w_ ne_ hl_ rfl (by rw [rd_ne_ (by decide), rd_ne_ (by decide)]) (by rw [rd_ne_ (by decide), rd_ne_ (by decide)]) (by rw [rd_ne_ (by decide), rd_ne_ (by decide)]) c55_), w_⟩
  rw [r62_, if_neg ne_]
  rcases g_ with g_ | g_
  · omega
  · exact g_.1
/-! Mapper.findWays -/
def vw_99 : sx_Wl := ([(6, 11), (6, 13)], [61, 62, 63, 64, 65, 66, 67, 68, 70, 71], [])
def vq_99 (a1_ : Int) (dd_ : Nat) (F_ : Nat) (ll_ : Nat) (S0_ : sm_S) (u_ : Option sm_V) (S1_ : sm_S) : Prop := u_ = none ∧ gi S1_ ∧ ai_fr (sx_W vw_99) S0_ S1_ ∧ (wok (1 + S0_.1 3 dd_ 1 + S0_.1 3 dd_ 2) a1_ ll_ S1_ (2 * a1_).toNat (2 * a1_ + 1).toNat ∧ wok (1 + S0_.1 3 dd_ 1 + S0_.1 3 dd_ 2) a1_ ll_ S1_ (2 * a1_ + 1).toNat (2 * a1_).toNat ∧ wfn a1_.toNat S0_ S1_)
set_option maxHeartbeats 4000000 in
set_option maxRecDepth 20000 in
theorem vl_99 {sc_ : Nat × (Nat → Int)} (a1_ : Int) (dd_ : Nat) (F_ : Nat) (ll_ : Nat) (S0_ : sm_S) (hd_ : S0_.2.1 6 0 0 = some dd_) (hc_ : S0_.2.1 6 0 1 = some ll_) (hg_ : dgr dd_ F_ S0_) (hs_ : swp dd_ F_ S0_) (hk_ : mkd dd_ F_ S0_ (S0_.2.2.1 59 0)) (h1_ : (F_ : Int) ≤ a1_ ∧ a1_ < S0_.1 3 dd_ 4) (hn_ : S0_.2.2.1 59 0 a1_.toNat = 1) : ∀ nn_ : Nat, (∀ (i9_ : Int) (S_ : sm_S), gi S_ → ai_fr (sx_W vw_99) S0_ S_ → ((0 ≤ i9_ ∧ i9_ ≤ 1024) ∧ (wo3 (1 + S0_.1 3 dd_ 1 + S0_.1 3 dd_ 2) a1_ ll_ S_ (2 * a1_).toNat) ∧ (wo3 (1 + S0_.1 3 dd_ 1 + S0_.1 3 dd_ 2) a1_ ll_ S_ (2 * a1_ + 1).toNat) ∧ (wfn a1_.toNat S0_ S_) ∧ (mcs (npd a1_ (S0_.2.2.1 59 0)) S_) ∧ (∀ i_ : Nat, (i_ : Int) < S_.1 6 0 11 → S_.2.2.1 66 0 i_ < S_.1 6 0 11) ∧ True) → ((90000000 - i9_).toNat) < nn_ → sm_T (mt_P sc_) 4 99 (53, [some (.inr (.inr (some (6, 0)))), some (.inl a1_), some (.inl i9_), none, none], [], S_) (fun ro9_ => ∃ u_ S1_, ro9_ = (.inl u_, S1_, 0) ∧ vq_99 a1_ dd_ F_ ll_ S0_ u_ S1_)) ∧ (∀ (c9_ : Int) (S_ : sm_S), gi S_ → ai_fr (sx_W vw_99) S0_ S_ → ((0 ≤ c9_ ∧ c9_ ≤ 12) ∧ (wo3 (1 + S0_.1 3 dd_ 1 + S0_.1 3 dd_ 2) a1_ ll_ S_ (2 * a1_).toNat) ∧ (wo3 (1 + S0_.1 3 dd_ 1 + S0_.1 3 dd_ 2) a1_ ll_ S_ (2 * a1_ + 1).toNat) ∧ (wfn a1_.toNat S0_ S_) ∧ (mcs (npd a1_ (S0_.2.2.1 59 0)) S_) ∧ (∀ i_ : Nat, (i_ : Int) < S_.1 6 0 11 → S_.2.2.1 66 0 i_ < S_.1 6 0 11) ∧ True) → ((10000 * (100 - c9_) + 9000).toNat) < nn_ → sm_T (mt_P sc_) 4 99 (81, [some (.inr (.inr (some (6, 0)))), some (.inl a1_), some (.inl c9_), none, none], [], S_) (fun ro9_ => ∃ u_ S1_, ro9_ = (.inl u_, S1_, 0) ∧ vq_99 a1_ dd_ F_ ll_ S0_ u_ S1_)) ∧ (∀ (c9_ : Int) (i9_ : Int) (S_ : sm_S), gi S_ → ai_fr (sx_W vw_99) S0_ S_ → ((0 ≤ c9_ ∧ c9_ < 12 ∧ 0 ≤ i9_ ∧ i9_ ≤ 1024) ∧ (wo3 (1 + S0_.1 3 dd_ 1 + S0_.1 3 dd_ 2) a1_ ll_ S_ (2 * a1_).toNat) ∧ (wo3 (1 + S0_.1 3 dd_ 1 + S0_.1 3 dd_ 2) a1_ ll_ S_ (2 * a1_ + 1).toNat) ∧ (wfn a1_.toNat S0_ S_) ∧ (mcs (npd a1_ (S0_.2.2.1 59 0)) S_) ∧ (∀ i_ : Nat, (i_ : Int) < S_.1 6 0 11 → S_.2.2.1 66 0 i_ < S_.1 6 0 11) ∧ True) → ((10000 * (100 - c9_) + 8000 - i9_).toNat) < nn_ → sm_T (mt_P sc_) 4 99 (94, [some (.inr (.inr (some (6, 0)))), some (.inl a1_), some (.inl c9_), some (.inl i9_), none], [], S_) (fun ro9_ => ∃ u_ S1_, ro9_ = (.inl u_, S1_, 0) ∧ vq_99 a1_ dd_ F_ ll_ S0_ u_ S1_)) := by
  intro nn_
  induction nn_ with
  | zero => exact ⟨fun _ _ _ _ _ h_ => absurd h_ (Nat.not_lt_zero _), fun _ _ _ _ _ h_ => absurd h_ (Nat.not_lt_zero _), fun _ _ _ _ _ _ h_ => absurd h_ (Nat.not_lt_zero _)⟩
  | succ nn_ ih_ =>
    refine ⟨?_, ?_, ?_⟩
    · rintro i9_ S_ hI_ hF_ ⟨h0_, hv0_, hv1_, hf_, hcs_, ho_, -⟩ hm_
      have f55_ : S_.2.2.1 55 (0 + ll_) = S0_.2.2.1 55 (0 + ll_) := fr_arr hF_ rfl
      have f59_ : S_.2.2.1 59 0 = S0_.2.2.1 59 0 := fr_arr hF_ rfl
      have f60_ : S_.2.2.1 60 0 = S0_.2.2.1 60 0 := fr_arr hF_ rfl
      have f1_ : S_.1 3 dd_ 1 = S0_.1 3 dd_ 1 := hF_.1 3 dd_ 1 rfl
      have f2_ : S_.1 3 dd_ 2 = S0_.1 3 dd_ 2 := hF_.1 3 dd_ 2 rfl
      have f5_ : S_.1 5 ll_ 2 = S0_.1 5 ll_ 2 := hF_.1 5 ll_ 2 rfl
      have ck_ : 0 ≤ S_.1 6 0 11 ∧ S_.1 6 0 11 ≤ 1024 := hI_.1 6 0 11 rfl
      have cq_ : 0 ≤ S_.1 5 ll_ 1 ∧ S_.1 5 ll_ 1 ≤ 12 := hI_.1 5 ll_ 1 rfl
      have n13_ : 0 ≤ S_.1 3 dd_ 4 ∧ S_.1 3 dd_ 4 ≤ 1013 := hI_.1 3 dd_ 4 rfl
      have f4_ : S_.1 3 dd_ 4 = S0_.1 3 dd_ 4 := hF_.1 3 dd_ 4 rfl
      have g1_ := hg_.1
      have bx1_ : 0 ≤ S_.1 6 0 11 ∧ S_.1 6 0 11 ≤ 1024 := hI_.1 6 0 11 rfl
      refine sm_T_go 3 (c1 := (58, [some (.inr (.inr (some (6, 0)))), some (.inl a1_), some (.inl i9_), none, none], [.inl (S_.1 6 0 11), .inl i9_], S_)) rfl ?_
      refine sm_T_br (a := 3) (z := 21) rfl (fun cx2_ => ?_) (fun cx2_ => ?_)
      · have cx2_ : (S_.1 6 0 11) ≤ i9_ := of_decide_eq_true cx2_
        refine sm_T_go 2 (c1 := (81, [some (.inr (.inr (some (6, 0)))), some (.inl a1_), some (.inl 0), none, none], [], S_)) rfl ?_
        refine ih_.2.1 0 S_ hI_ hF_ ⟨?_, ?_, ?_, ?_, ?_, ?_, trivial⟩ ?_
        · omega
        · exact hv0_
        · exact hv1_
        · exact hf_
        · exact hcs_
        · exact ho_
        · omega
      · have cx2_ : ¬ ((S_.1 6 0 11) ≤ i9_) := of_decide_eq_false cx2_
        refine sm_T_go 6 (c1 := (69, [some (.inr (.inr (some (6, 0)))), some (.inl a1_), some (.inl i9_), none, none], [.inl i9_, .inl a1_, .inr (.inr (some (6, 0))), .inl i9_, .inr (.inr (some (67, 0)))], S_)) rfl ?_
        refine sm_T_cal (d1 := 2) (Q1 := vq_105 a1_ i9_ dd_ S_) rfl rfl (by decide) (vc_105 a1_ i9_ dd_ S_ hI_ (by exact (hF_.2.1 6 0 0 rfl).trans hd_) (by omega) (by omega)) (fun u_ Sx3_ px6_ => ?_)
        obtain ⟨vx8_, rfl, hIx4_, hFx5_, px6_⟩ := px6_
        have hFx7_ : ai_fr (sx_W vw_99) S0_ Sx3_ := ai_fr_tr hF_ (fr_le hFx5_ rfl)
        have ex9_ : Sx3_.1 6 0 11 = S_.1 6 0 11 := hFx5_.1 6 0 11 rfl
        have t69_ := px6_
        have k69_ := hFx5_.1 6 0 11 rfl
        have u69_ := wo3_fr hv0_ hFx5_
        have v69_ := wo3_fr hv1_ hFx5_
        have w69_ := wfn_tr hf_ (wfn_fr (n_ := a1_.toNat) hFx5_)
        have c69_ : mcs (npd a1_ (S0_.2.2.1 59 0)) Sx3_ := mcs_fr hcs_ hFx5_
        have o69_ : ∀ i_ : Nat, (i_ : Int) < Sx3_.1 6 0 11 → Sx3_.2.2.1 66 0 i_ < Sx3_.1 6 0 11 := fun i_ q9_ => by (rw [k69_] at q9_ ⊢; rw [(hFx5_.2.2 66 rfl 0 i_).1]; exact ho_ i_ q9_)
        refine sm_T_iast (n := 1024) rfl rfl (by omega) (by omega) ?_
        have hIx10_ : gi (sm_aI Sx3_ 67 0 i9_.toNat vx8_) := gi_aI hIx4_ (show 0 ≤ vx8_ ∧ vx8_ ≤ 255 from ⟨by omega, by omega⟩)
        have hFx11_ : ai_fr (sx_W vw_99) S0_ (sm_aI Sx3_ 67 0 i9_.toNat vx8_) := ai_fr_tr hFx7_ (ai_fr_aI rfl)
        refine sm_T_inc (a := 2) (z := 1) (v := i9_) (w := i9_ + 1) rfl rfl (by omega) (by omega) (by omega) ?_ -- pc_ 73
        refine sm_T_go 1 (c1 := (53, [some (.inr (.inr (some (6, 0)))), some (.inl a1_), some (.inl (i9_ + 1)), none, none], [], sm_aI Sx3_ 67 0 i9_.toNat vx8_)) rfl ?_
        refine ih_.1 (i9_ + 1) (sm_aI Sx3_ 67 0 i9_.toNat vx8_) hIx10_ hFx11_ ⟨?_, ?_, ?_, ?_, ?_, ?_, trivial⟩ ?_
        · omega
        · exact u69_
        · exact v69_
        · exact w69_
        · exact c69_
        · exact o69_
        · omega
    · rintro c9_ S_ hI_ hF_ ⟨h0_, hv0_, hv1_, hf_, hcs_, ho_, -⟩ hm_
      have f55_ : S_.2.2.1 55 (0 + ll_) = S0_.2.2.1 55 (0 + ll_) := fr_arr hF_ rfl
      have f59_ : S_.2.2.1 59 0 = S0_.2.2.1 59 0 := fr_arr hF_ rfl
      have f60_ : S_.2.2.1 60 0 = S0_.2.2.1 60 0 := fr_arr hF_ rfl
      have f1_ : S_.1 3 dd_ 1 = S0_.1 3 dd_ 1 := hF_.1 3 dd_ 1 rfl
      have f2_ : S_.1 3 dd_ 2 = S0_.1 3 dd_ 2 := hF_.1 3 dd_ 2 rfl
      have f5_ : S_.1 5 ll_ 2 = S0_.1 5 ll_ 2 := hF_.1 5 ll_ 2 rfl
      have ck_ : 0 ≤ S_.1 6 0 11 ∧ S_.1 6 0 11 ≤ 1024 := hI_.1 6 0 11 rfl
      have cq_ : 0 ≤ S_.1 5 ll_ 1 ∧ S_.1 5 ll_ 1 ≤ 12 := hI_.1 5 ll_ 1 rfl
      have n13_ : 0 ≤ S_.1 3 dd_ 4 ∧ S_.1 3 dd_ 4 ≤ 1013 := hI_.1 3 dd_ 4 rfl
      have f4_ : S_.1 3 dd_ 4 = S0_.1 3 dd_ 4 := hF_.1 3 dd_ 4 rfl
      have g1_ := hg_.1
      refine sm_T_go 2 (c1 := (83, [some (.inr (.inr (some (6, 0)))), some (.inl a1_), some (.inl c9_), none, none], [.inr (.inr (some (6, 0))), .inl c9_], S_)) rfl ?_
      refine sm_T_gr rfl rfl ((hF_.2.1 6 0 1 rfl).trans hc_) ?_
      have bx1_ : 0 ≤ S_.1 5 ll_ 1 ∧ S_.1 5 ll_ 1 ≤ 12 := hI_.1 5 ll_ 1 rfl
      refine sm_T_go 1 (c1 := (89, [some (.inr (.inr (some (6, 0)))), some (.inl a1_), some (.inl c9_), none, none], [.inl (S_.1 5 ll_ 1), .inl c9_], S_)) rfl ?_
      refine sm_T_br (a := 3) (z := 73) rfl (fun cx2_ => ?_) (fun cx2_ => ?_)
      · have cx2_ : (S_.1 5 ll_ 1) ≤ c9_ := of_decide_eq_true cx2_
        refine sm_T_go 1 (c1 := (163, [some (.inr (.inr (some (6, 0)))), some (.inl a1_), some (.inl c9_), none, none], [.inr (.inr (some (6, 0)))], S_)) rfl ?_
        refine sm_T_gr rfl rfl ((hF_.2.1 6 0 1 rfl).trans hc_) ?_
        have bx3_ : (-1) ≤ S_.1 5 ll_ 2 ∧ S_.1 5 ll_ 2 ≤ 11 := hI_.1 5 ll_ 2 rfl
        refine sm_T_go 2 (c1 := (170, [some (.inr (.inr (some (6, 0)))), some (.inl a1_), some (.inl c9_), none, none], [.inl (-1), .inl (S_.1 5 ll_ 2)], S_)) rfl ?_
        refine sm_T_br (a := 0) (z := 106) rfl (fun cx4_ => ?_) (fun cx4_ => ?_)
        · have cx4_ : (S_.1 5 ll_ 2) = (-1) := of_decide_eq_true cx4_
          refine sm_T_rv rfl ⟨_, _, rfl, rfl, hI_, hF_, ?_⟩
          first | exact ⟨Or.inl hv0_, Or.inl hv1_, hf_⟩ | (have z9_ := wok_iv hv0_ hv1_ (by omega) (by omega) (by omega) (show S_.2.2.1 61 0 (2 * a1_ + 1).toNat + S_.2.2.1 57 (0 + ll_) (S_.1 5 ll_ 2).toNat < S_.2.2.1 61 0 (2 * a1_).toNat by omega) (by omega) (by omega) (fun k9_ => (hI_.2 55 (0 + ll_) k9_).2); exact ⟨z9_.1, z9_.2.1, wfn_tr hf_ (wfn_l z9_.2.2 (by omega))⟩) | (have z9_ := wok_iv hv1_ hv0_ (by omega) (by omega) (by omega) (show S_.2.2.1 61 0 (2 * a1_).toNat + S_.2.2.1 57 (0 + ll_) (S_.1 5 ll_ 2).toNat < S_.2.2.1 61 0 (2 * a1_ + 1).toNat by omega) (by omega) (by omega) (fun k9_ => (hI_.2 55 (0 + ll_) k9_).2); exact ⟨z9_.2.1, z9_.1, wfn_tr hf_ (wfn_l z9_.2.2 (by omega))⟩)
        · have cx4_ : ¬ ((S_.1 5 ll_ 2) = (-1)) := of_decide_eq_false cx4_
          refine sm_T_go 1 (c1 := (174, [some (.inr (.inr (some (6, 0)))), some (.inl a1_), some (.inl c9_), none, none], [.inr (.inr (some (6, 0)))], S_)) rfl ?_
          refine sm_T_gr rfl rfl ((hF_.2.1 6 0 1 rfl).trans hc_) ?_
          refine sm_T_go 2 (c1 := (181, [some (.inr (.inr (some (6, 0)))), some (.inl a1_), some (.inl c9_), none, none], [.inr (.inr (some (6, 0))), .inr (.inr (some (57, (0 + ll_))))], S_)) rfl ?_
          refine sm_T_gr rfl rfl ((hF_.2.1 6 0 1 rfl).trans hc_) ?_
          refine sm_T_go 1 (c1 := (187, [some (.inr (.inr (some (6, 0)))), some (.inl a1_), some (.inl c9_), none, none], [.inl (S_.1 5 ll_ 2), .inr (.inr (some (57, (0 + ll_))))], S_)) rfl ?_
          refine sm_T_iald (n := 12) rfl rfl (by omega) (by omega) ?_
          have bx5_ : 0 ≤ S_.2.2.1 57 (0 + ll_) (S_.1 5 ll_ 2).toNat ∧ S_.2.2.1 57 (0 + ll_) (S_.1 5 ll_ 2).toNat ≤ 1000 := hI_.2 57 (0 + ll_) _
          refine sm_T_go 5 (c1 := (195, [some (.inr (.inr (some (6, 0)))), some (.inl a1_), some (.inl (S_.2.2.1 57 (0 + ll_) (S_.1 5 ll_ 2).toNat)), none, none], [.inl a1_, .inl 2, .inr (.inr (some (61, 0)))], S_)) rfl ?_
          refine sm_T_bin (w := 2 * a1_) rfl (bi_mul (by omega) (by omega) (by omega)) ?_ -- pc_ 195
          refine sm_T_iald (n := 2026) rfl rfl (by omega) (by omega) ?_
          have bx6_ : 0 ≤ S_.2.2.1 61 0 (2 * a1_).toNat ∧ S_.2.2.1 61 0 (2 * a1_).toNat ≤ 268435456 := hI_.2 61 0 _
          refine sm_T_go 5 (c1 := (204, [some (.inr (.inr (some (6, 0)))), some (.inl a1_), some (.inl (S_.2.2.1 57 (0 + ll_) (S_.1 5 ll_ 2).toNat)), some (.inl (S_.2.2.1 61 0 (2 * a1_).toNat)), none], [.inl a1_, .inl 2, .inr (.inr (some (61, 0)))], S_)) rfl ?_
          refine sm_T_bin (w := 2 * a1_) rfl (bi_mul (by omega) (by omega) (by omega)) ?_ -- pc_ 204
          refine sm_T_go 1 (c1 := (206, [some (.inr (.inr (some (6, 0)))), some (.inl a1_), some (.inl (S_.2.2.1 57 (0 + ll_) (S_.1 5 ll_ 2).toNat)), some (.inl (S_.2.2.1 61 0 (2 * a1_).toNat)), none], [.inl 1, .inl (2 * a1_), .inr (.inr (some (61, 0)))], S_)) rfl ?_
          refine sm_T_bin (w := 2 * a1_ + 1) rfl (bi_add (by omega) (by omega) (by omega)) ?_ -- pc_ 206
          refine sm_T_iald (n := 2026) rfl rfl (by omega) (by omega) ?_
          have bx7_ : 0 ≤ S_.2.2.1 61 0 (2 * a1_ + 1).toNat ∧ S_.2.2.1 61 0 (2 * a1_ + 1).toNat ≤ 268435456 := hI_.2 61 0 _
          refine sm_T_go 3 (c1 := (213, [some (.inr (.inr (some (6, 0)))), some (.inl a1_), some (.inl (S_.2.2.1 57 (0 + ll_) (S_.1 5 ll_ 2).toNat)), some (.inl (S_.2.2.1 61 0 (2 * a1_).toNat)), some (.inl (S_.2.2.1 61 0 (2 * a1_ + 1).toNat))], [.inl (S_.2.2.1 57 (0 + ll_) (S_.1 5 ll_ 2).toNat), .inl (S_.2.2.1 61 0 (2 * a1_ + 1).toNat)], S_)) rfl ?_
          refine sm_T_bin (w := (S_.2.2.1 61 0 (2 * a1_ + 1).toNat) + (S_.2.2.1 57 (0 + ll_) (S_.1 5 ll_ 2).toNat)) rfl (bi_add (by omega) (by omega) (by omega)) ?_ -- pc_ 213
          refine sm_T_go 1 (c1 := (215, [some (.inr (.inr (some (6, 0)))), some (.inl a1_), some (.inl (S_.2.2.1 57 (0 + ll_) (S_.1 5 ll_ 2).toNat)), some (.inl (S_.2.2.1 61 0 (2 * a1_).toNat)), some (.inl (S_.2.2.1 61 0 (2 * a1_ + 1).toNat))], [.inl (S_.2.2.1 61 0 (2 * a1_).toNat), .inl ((S_.2.2.1 61 0 (2 * a1_ + 1).toNat) + (S_.2.2.1 57 (0 + ll_) (S_.1 5 ll_ 2).toNat))], S_)) rfl ?_
          refine sm_T_br (a := 3) (z := 28) rfl (fun cx8_ => ?_) (fun cx8_ => ?_)
          · have cx8_ : (S_.2.2.1 61 0 (2 * a1_).toNat) ≤ (S_.2.2.1 61 0 (2 * a1_ + 1).toNat) + (S_.2.2.1 57 (0 + ll_) (S_.1 5 ll_ 2).toNat) := of_decide_eq_true cx8_
            refine sm_T_go 2 (c1 := (245, [some (.inr (.inr (some (6, 0)))), some (.inl a1_), some (.inl (S_.2.2.1 57 (0 + ll_) (S_.1 5 ll_ 2).toNat)), some (.inl (S_.2.2.1 61 0 (2 * a1_).toNat)), some (.inl (S_.2.2.1 61 0 (2 * a1_ + 1).toNat))], [.inl (S_.2.2.1 57 (0 + ll_) (S_.1 5 ll_ 2).toNat), .inl (S_.2.2.1 61 0 (2 * a1_).toNat)], S_)) rfl ?_
            refine sm_T_bin (w := (S_.2.2.1 61 0 (2 * a1_).toNat) + (S_.2.2.1 57 (0 + ll_) (S_.1 5 ll_ 2).toNat)) rfl (bi_add (by omega) (by omega) (by omega)) ?_ -- pc_ 245
            refine sm_T_go 1 (c1 := (248, [some (.inr (.inr (some (6, 0)))), some (.inl a1_), some (.inl (S_.2.2.1 57 (0 + ll_) (S_.1 5 ll_ 2).toNat)), some (.inl (S_.2.2.1 61 0 (2 * a1_).toNat)), some (.inl (S_.2.2.1 61 0 (2 * a1_ + 1).toNat))], [.inl (S_.2.2.1 61 0 (2 * a1_ + 1).toNat), .inl ((S_.2.2.1 61 0 (2 * a1_).toNat) + (S_.2.2.1 57 (0 + ll_) (S_.1 5 ll_ 2).toNat))], S_)) rfl ?_
            refine sm_T_br (a := 3) (z := 28) rfl (fun cx9_ => ?_) (fun cx9_ => ?_)
            · have cx9_ : (S_.2.2.1 61 0 (2 * a1_ + 1).toNat) ≤ (S_.2.2.1 61 0 (2 * a1_).toNat) + (S_.2.2.1 57 (0 + ll_) (S_.1 5 ll_ 2).toNat) := of_decide_eq_true cx9_
              refine sm_T_rv rfl ⟨_, _, rfl, rfl, hI_, hF_, ?_⟩
              first | exact ⟨Or.inl hv0_, Or.inl hv1_, hf_⟩ | (have z9_ := wok_iv hv0_ hv1_ (by omega) (by omega) (by omega) (show S_.2.2.1 61 0 (2 * a1_ + 1).toNat + S_.2.2.1 57 (0 + ll_) (S_.1 5 ll_ 2).toNat < S_.2.2.1 61 0 (2 * a1_).toNat by omega) (by omega) (by omega) (fun k9_ => (hI_.2 55 (0 + ll_) k9_).2); exact ⟨z9_.1, z9_.2.1, wfn_tr hf_ (wfn_l z9_.2.2 (by omega))⟩) | (have z9_ := wok_iv hv1_ hv0_ (by omega) (by omega) (by omega) (show S_.2.2.1 61 0 (2 * a1_).toNat + S_.2.2.1 57 (0 + ll_) (S_.1 5 ll_ 2).toNat < S_.2.2.1 61 0 (2 * a1_ + 1).toNat by omega) (by omega) (by omega) (fun k9_ => (hI_.2 55 (0 + ll_) k9_).2); exact ⟨z9_.2.1, z9_.1, wfn_tr hf_ (wfn_l z9_.2.2 (by omega))⟩)
            · have cx9_ : ¬ ((S_.2.2.1 61 0 (2 * a1_ + 1).toNat) ≤ (S_.2.2.1 61 0 (2 * a1_).toNat) + (S_.2.2.1 57 (0 + ll_) (S_.1 5 ll_ 2).toNat)) := of_decide_eq_false cx9_
              refine sm_T_go 4 (c1 := (257, [some (.inr (.inr (some (6, 0)))), some (.inl a1_), some (.inl (S_.2.2.1 57 (0 + ll_) (S_.1 5 ll_ 2).toNat)), some (.inl (S_.2.2.1 61 0 (2 * a1_).toNat)), some (.inl (S_.2.2.1 61 0 (2 * a1_ + 1).toNat))], [.inl a1_, .inl 2, .inr (.inr (some (61, 0)))], S_)) rfl ?_
              refine sm_T_bin (w := 2 * a1_) rfl (bi_mul (by omega) (by omega) (by omega)) ?_ -- pc_ 257
              refine sm_T_go 1 (c1 := (259, [some (.inr (.inr (some (6, 0)))), some (.inl a1_), some (.inl (S_.2.2.1 57 (0 + ll_) (S_.1 5 ll_ 2).toNat)), some (.inl (S_.2.2.1 61 0 (2 * a1_).toNat)), some (.inl (S_.2.2.1 61 0 (2 * a1_ + 1).toNat))], [.inl 1, .inl (2 * a1_), .inr (.inr (some (61, 0)))], S_)) rfl ?_
              refine sm_T_bin (w := 2 * a1_ + 1) rfl (bi_add (by omega) (by omega) (by omega)) ?_ -- pc_ 259
              refine sm_T_go 2 (c1 := (262, [some (.inr (.inr (some (6, 0)))), some (.inl a1_), some (.inl (S_.2.2.1 57 (0 + ll_) (S_.1 5 ll_ 2).toNat)), some (.inl (S_.2.2.1 61 0 (2 * a1_).toNat)), some (.inl (S_.2.2.1 61 0 (2 * a1_ + 1).toNat))], [.inl (S_.2.2.1 57 (0 + ll_) (S_.1 5 ll_ 2).toNat), .inl (S_.2.2.1 61 0 (2 * a1_).toNat), .inl (2 * a1_ + 1), .inr (.inr (some (61, 0)))], S_)) rfl ?_
              refine sm_T_bin (w := (S_.2.2.1 61 0 (2 * a1_).toNat) + (S_.2.2.1 57 (0 + ll_) (S_.1 5 ll_ 2).toNat)) rfl (bi_add (by omega) (by omega) (by omega)) ?_ -- pc_ 262
              refine sm_T_iast (n := 2026) rfl rfl (by omega) (by omega) ?_
              have hIx10_ : gi (sm_aI S_ 61 0 (2 * a1_ + 1).toNat ((S_.2.2.1 61 0 (2 * a1_).toNat) + (S_.2.2.1 57 (0 + ll_) (S_.1 5 ll_ 2).toNat))) := gi_aI hI_ (show 0 ≤ (S_.2.2.1 61 0 (2 * a1_).toNat) + (S_.2.2.1 57 (0 + ll_) (S_.1 5 ll_ 2).toNat) ∧ (S_.2.2.1 61 0 (2 * a1_).toNat) + (S_.2.2.1 57 (0 + ll_) (S_.1 5 ll_ 2).toNat) ≤ 268435456 from ⟨by omega, by omega⟩)
              have hFx11_ : ai_fr (sx_W vw_99) S0_ (sm_aI S_ 61 0 (2 * a1_ + 1).toNat ((S_.2.2.1 61 0 (2 * a1_).toNat) + (S_.2.2.1 57 (0 + ll_) (S_.1 5 ll_ 2).toNat))) := ai_fr_tr hF_ (ai_fr_aI rfl)
              refine sm_T_go 4 (c1 := (270, [some (.inr (.inr (some (6, 0)))), some (.inl a1_), some (.inl (S_.2.2.1 57 (0 + ll_) (S_.1 5 ll_ 2).toNat)), some (.inl (S_.2.2.1 61 0 (2 * a1_).toNat)), some (.inl (S_.2.2.1 61 0 (2 * a1_ + 1).toNat))], [.inl a1_, .inl 2, .inr (.inr (some (62, 0)))], sm_aI S_ 61 0 (2 * a1_ + 1).toNat ((S_.2.2.1 61 0 (2 * a1_).toNat) + (S_.2.2.1 57 (0 + ll_) (S_.1 5 ll_ 2).toNat)))) rfl ?_
              refine sm_T_bin (w := 2 * a1_) rfl (bi_mul (by omega) (by omega) (by omega)) ?_ -- pc_ 270
              refine sm_T_go 1 (c1 := (272, [some (.inr (.inr (some (6, 0)))), some (.inl a1_), some (.inl (S_.2.2.1 57 (0 + ll_) (S_.1 5 ll_ 2).toNat)), some (.inl (S_.2.2.1 61 0 (2 * a1_).toNat)), some (.inl (S_.2.2.1 61 0 (2 * a1_ + 1).toNat))], [.inl 1, .inl (2 * a1_), .inr (.inr (some (62, 0)))], sm_aI S_ 61 0 (2 * a1_ + 1).toNat ((S_.2.2.1 61 0 (2 * a1_).toNat) + (S_.2.2.1 57 (0 + ll_) (S_.1 5 ll_ 2).toNat)))) rfl ?_
              refine sm_T_bin (w := 2 * a1_ + 1) rfl (bi_add (by omega) (by omega) (by omega)) ?_ -- pc_ 272
              refine sm_T_go 1 (c1 := (275, [some (.inr (.inr (some (6, 0)))), some (.inl a1_), some (.inl (S_.2.2.1 57 (0 + ll_) (S_.1 5 ll_ 2).toNat)), some (.inl (S_.2.2.1 61 0 (2 * a1_).toNat)), some (.inl (S_.2.2.1 61 0 (2 * a1_ + 1).toNat))], [.inl (-2), .inl (2 * a1_ + 1), .inr (.inr (some (62, 0)))], sm_aI S_ 61 0 (2 * a1_ + 1).toNat ((S_.2.2.1 61 0 (2 * a1_).toNat) + (S_.2.2.1 57 (0 + ll_) (S_.1 5 ll_ 2).toNat)))) rfl ?_
              refine sm_T_iast (n := 2026) rfl rfl (by omega) (by omega) ?_
              have hIx12_ : gi (sm_aI (sm_aI S_ 61 0 (2 * a1_ + 1).toNat ((S_.2.2.1 61 0 (2 * a1_).toNat) + (S_.2.2.1 57 (0 + ll_) (S_.1 5 ll_ 2).toNat))) 62 0 (2 * a1_ + 1).toNat (-2)) := gi_aI hIx10_ (show (-2) ≤ (-2) ∧ (-2) ≤ 11 from ⟨by omega, by omega⟩)
              have hFx13_ : ai_fr (sx_W vw_99) S0_ (sm_aI (sm_aI S_ 61 0 (2 * a1_ + 1).toNat ((S_.2.2.1 61 0 (2 * a1_).toNat) + (S_.2.2.1 57 (0 + ll_) (S_.1 5 ll_ 2).toNat))) 62 0 (2 * a1_ + 1).toNat (-2)) := ai_fr_tr hFx11_ (ai_fr_aI rfl)
              refine sm_T_rv rfl ⟨_, _, rfl, rfl, hIx12_, hFx13_, ?_⟩
              first | exact ⟨Or.inl hv0_, Or.inl hv1_, hf_⟩ | (have z9_ := wok_iv hv0_ hv1_ (by omega) (by omega) (by omega) (show S_.2.2.1 61 0 (2 * a1_ + 1).toNat + S_.2.2.1 57 (0 + ll_) (S_.1 5 ll_ 2).toNat < S_.2.2.1 61 0 (2 * a1_).toNat by omega) (by omega) (by omega) (fun k9_ => (hI_.2 55 (0 + ll_) k9_).2); exact ⟨z9_.1, z9_.2.1, wfn_tr hf_ (wfn_l z9_.2.2 (by omega))⟩) | (have z9_ := wok_iv hv1_ hv0_ (by omega) (by omega) (by omega) (show S_.2.2.1 61 0 (2 * a1_).toNat + S_.2.2.1 57 (0 + ll_) (S_.1 5 ll_ 2).toNat < S_.2.2.1 61 0 (2 * a1_ + 1).toNat by omega) (by omega) (by omega) (fun k9_ => (hI_.2 55 (0 + ll_) k9_).2); exact ⟨z9_.2.1, z9_.1, wfn_tr hf_ (wfn_l z9_.2.2 (by omega))⟩)
          · have cx8_ : ¬ ((S_.2.2.1 61 0 (2 * a1_).toNat) ≤ (S_.2.2.1 61 0 (2 * a1_ + 1).toNat) + (S_.2.2.1 57 (0 + ll_) (S_.1 5 ll_ 2).toNat)) := of_decide_eq_false cx8_
            refine sm_T_go 4 (c1 := (224, [some (.inr (.inr (some (6, 0)))), some (.inl a1_), some (.inl (S_.2.2.1 57 (0 + ll_) (S_.1 5 ll_ 2).toNat)), some (.inl (S_.2.2.1 61 0 (2 * a1_).toNat)), some (.inl (S_.2.2.1 61 0 (2 * a1_ + 1).toNat))], [.inl a1_, .inl 2, .inr (.inr (some (61, 0)))], S_)) rfl ?_
            refine sm_T_bin (w := 2 * a1_) rfl (bi_mul (by omega) (by omega) (by omega)) ?_ -- pc_ 224
            refine sm_T_go 2 (c1 := (228, [some (.inr (.inr (some (6, 0)))), some (.inl a1_), some (.inl (S_.2.2.1 57 (0 + ll_) (S_.1 5 ll_ 2).toNat)), some (.inl (S_.2.2.1 61 0 (2 * a1_).toNat)), some (.inl (S_.2.2.1 61 0 (2 * a1_ + 1).toNat))], [.inl (S_.2.2.1 57 (0 + ll_) (S_.1 5 ll_ 2).toNat), .inl (S_.2.2.1 61 0 (2 * a1_ + 1).toNat), .inl (2 * a1_), .inr (.inr (some (61, 0)))], S_)) rfl ?_
            refine sm_T_bin (w := (S_.2.2.1 61 0 (2 * a1_ + 1).toNat) + (S_.2.2.1 57 (0 + ll_) (S_.1 5 ll_ 2).toNat)) rfl (bi_add (by omega) (by omega) (by omega)) ?_ -- pc_ 228
            refine sm_T_iast (n := 2026) rfl rfl (by omega) (by omega) ?_
            have hIx14_ : gi (sm_aI S_ 61 0 (2 * a1_).toNat ((S_.2.2.1 61 0 (2 * a1_ + 1).toNat) + (S_.2.2.1 57 (0 + ll_) (S_.1 5 ll_ 2).toNat))) := gi_aI hI_ (show 0 ≤ (S_.2.2.1 61 0 (2 * a1_ + 1).toNat) + (S_.2.2.1 57 (0 + ll_) (S_.1 5 ll_ 2).toNat) ∧ (S_.2.2.1 61 0 (2 * a1_ + 1).toNat) + (S_.2.2.1 57 (0 + ll_) (S_.1 5 ll_ 2).toNat) ≤ 268435456 from ⟨by omega, by omega⟩)
            have hFx15_ : ai_fr (sx_W vw_99) S0_ (sm_aI S_ 61 0 (2 * a1_).toNat ((S_.2.2.1 61 0 (2 * a1_ + 1).toNat) + (S_.2.2.1 57 (0 + ll_) (S_.1 5 ll_ 2).toNat))) := ai_fr_tr hF_ (ai_fr_aI rfl)
            refine sm_T_go 4 (c1 := (236, [some (.inr (.inr (some (6, 0)))), some (.inl a1_), some (.inl (S_.2.2.1 57 (0 + ll_) (S_.1 5 ll_ 2).toNat)), some (.inl (S_.2.2.1 61 0 (2 * a1_).toNat)), some (.inl (S_.2.2.1 61 0 (2 * a1_ + 1).toNat))], [.inl a1_, .inl 2, .inr (.inr (some (62, 0)))], sm_aI S_ 61 0 (2 * a1_).toNat ((S_.2.2.1 61 0 (2 * a1_ + 1).toNat) + (S_.2.2.1 57 (0 + ll_) (S_.1 5 ll_ 2).toNat)))) rfl ?_
            refine sm_T_bin (w := 2 * a1_) rfl (bi_mul (by omega) (by omega) (by omega)) ?_ -- pc_ 236
            refine sm_T_go 1 (c1 := (239, [some (.inr (.inr (some (6, 0)))), some (.inl a1_), some (.inl (S_.2.2.1 57 (0 + ll_) (S_.1 5 ll_ 2).toNat)), some (.inl (S_.2.2.1 61 0 (2 * a1_).toNat)), some (.inl (S_.2.2.1 61 0 (2 * a1_ + 1).toNat))], [.inl (-2), .inl (2 * a1_), .inr (.inr (some (62, 0)))], sm_aI S_ 61 0 (2 * a1_).toNat ((S_.2.2.1 61 0 (2 * a1_ + 1).toNat) + (S_.2.2.1 57 (0 + ll_) (S_.1 5 ll_ 2).toNat)))) rfl ?_
            refine sm_T_iast (n := 2026) rfl rfl (by omega) (by omega) ?_
            have hIx16_ : gi (sm_aI (sm_aI S_ 61 0 (2 * a1_).toNat ((S_.2.2.1 61 0 (2 * a1_ + 1).toNat) + (S_.2.2.1 57 (0 + ll_) (S_.1 5 ll_ 2).toNat))) 62 0 (2 * a1_).toNat (-2)) := gi_aI hIx14_ (show (-2) ≤ (-2) ∧ (-2) ≤ 11 from ⟨by omega, by omega⟩)
            have hFx17_ : ai_fr (sx_W vw_99) S0_ (sm_aI (sm_aI S_ 61 0 (2 * a1_).toNat ((S_.2.2.1 61 0 (2 * a1_ + 1).toNat) + (S_.2.2.1 57 (0 + ll_) (S_.1 5 ll_ 2).toNat))) 62 0 (2 * a1_).toNat (-2)) := ai_fr_tr hFx15_ (ai_fr_aI rfl)
            refine sm_T_go 1 (c1 := (276, [some (.inr (.inr (some (6, 0)))), some (.inl a1_), some (.inl (S_.2.2.1 57 (0 + ll_) (S_.1 5 ll_ 2).toNat)), some (.inl (S_.2.2.1 61 0 (2 * a1_).toNat)), some (.inl (S_.2.2.1 61 0 (2 * a1_ + 1).toNat))], [], sm_aI (sm_aI S_ 61 0 (2 * a1_).toNat ((S_.2.2.1 61 0 (2 * a1_ + 1).toNat) + (S_.2.2.1 57 (0 + ll_) (S_.1 5 ll_ 2).toNat))) 62 0 (2 * a1_).toNat (-2))) rfl ?_
            refine sm_T_rv rfl ⟨_, _, rfl, rfl, hIx16_, hFx17_, ?_⟩
            first | exact ⟨Or.inl hv0_, Or.inl hv1_, hf_⟩ | (have z9_ := wok_iv hv0_ hv1_ (by omega) (by omega) (by omega) (show S_.2.2.1 61 0 (2 * a1_ + 1).toNat + S_.2.2.1 57 (0 + ll_) (S_.1 5 ll_ 2).toNat < S_.2.2.1 61 0 (2 * a1_).toNat by omega) (by omega) (by omega) (fun k9_ => (hI_.2 55 (0 + ll_) k9_).2); exact ⟨z9_.1, z9_.2.1, wfn_tr hf_ (wfn_l z9_.2.2 (by omega))⟩) | (have z9_ := wok_iv hv1_ hv0_ (by omega) (by omega) (by omega) (show S_.2.2.1 61 0 (2 * a1_).toNat + S_.2.2.1 57 (0 + ll_) (S_.1 5 ll_ 2).toNat < S_.2.2.1 61 0 (2 * a1_ + 1).toNat by omega) (by omega) (by omega) (fun k9_ => (hI_.2 55 (0 + ll_) k9_).2); exact ⟨z9_.2.1, z9_.1, wfn_tr hf_ (wfn_l z9_.2.2 (by omega))⟩)
      · have cx2_ : ¬ ((S_.1 5 ll_ 1) ≤ c9_) := of_decide_eq_false cx2_
        refine sm_T_go 2 (c1 := (94, [some (.inr (.inr (some (6, 0)))), some (.inl a1_), some (.inl c9_), some (.inl 0), none], [], S_)) rfl ?_
        refine ih_.2.2 c9_ 0 S_ hI_ hF_ ⟨?_, ?_, ?_, ?_, ?_, ?_, trivial⟩ ?_
        · omega
        · exact hv0_
        · exact hv1_
        · exact hf_
        · exact hcs_
        · exact ho_
        · omega
    · rintro c9_ i9_ S_ hI_ hF_ ⟨h0_, hv0_, hv1_, hf_, hcs_, ho_, -⟩ hm_
      have f55_ : S_.2.2.1 55 (0 + ll_) = S0_.2.2.1 55 (0 + ll_) := fr_arr hF_ rfl
      have f59_ : S_.2.2.1 59 0 = S0_.2.2.1 59 0 := fr_arr hF_ rfl
      have f60_ : S_.2.2.1 60 0 = S0_.2.2.1 60 0 := fr_arr hF_ rfl
      have f1_ : S_.1 3 dd_ 1 = S0_.1 3 dd_ 1 := hF_.1 3 dd_ 1 rfl
      have f2_ : S_.1 3 dd_ 2 = S0_.1 3 dd_ 2 := hF_.1 3 dd_ 2 rfl
      have f5_ : S_.1 5 ll_ 2 = S0_.1 5 ll_ 2 := hF_.1 5 ll_ 2 rfl
      have ck_ : 0 ≤ S_.1 6 0 11 ∧ S_.1 6 0 11 ≤ 1024 := hI_.1 6 0 11 rfl
      have cq_ : 0 ≤ S_.1 5 ll_ 1 ∧ S_.1 5 ll_ 1 ≤ 12 := hI_.1 5 ll_ 1 rfl
      have n13_ : 0 ≤ S_.1 3 dd_ 4 ∧ S_.1 3 dd_ 4 ≤ 1013 := hI_.1 3 dd_ 4 rfl
      have f4_ : S_.1 3 dd_ 4 = S0_.1 3 dd_ 4 := hF_.1 3 dd_ 4 rfl
      have g1_ := hg_.1
      have bx1_ : 0 ≤ S_.1 6 0 11 ∧ S_.1 6 0 11 ≤ 1024 := hI_.1 6 0 11 rfl
      refine sm_T_go 3 (c1 := (99, [some (.inr (.inr (some (6, 0)))), some (.inl a1_), some (.inl c9_), some (.inl i9_), none], [.inl (S_.1 6 0 11), .inl i9_], S_)) rfl ?_
      refine sm_T_br (a := 3) (z := 57) rfl (fun cx2_ => ?_) (fun cx2_ => ?_)
      · have cx2_ : (S_.1 6 0 11) ≤ i9_ := of_decide_eq_true cx2_
        refine sm_T_inc (a := 2) (z := 1) (v := c9_) (w := c9_ + 1) rfl rfl (by omega) (by omega) (by omega) ?_ -- pc_ 156
        refine sm_T_go 1 (c1 := (81, [some (.inr (.inr (some (6, 0)))), some (.inl a1_), some (.inl (c9_ + 1)), some (.inl i9_), none], [], S_)) rfl ?_
        refine sm_T_wk [some (.inr (.inr (some (6, 0)))), some (.inl a1_), some (.inl (c9_ + 1)), none, none] (by exact ⟨rfl, rfl, rfl, trivial⟩) ?_
        refine ih_.2.1 (c9_ + 1) S_ hI_ hF_ ⟨?_, ?_, ?_, ?_, ?_, ?_, trivial⟩ ?_
        · omega
        · exact hv0_
        · exact hv1_
        · exact hf_
        · exact hcs_
        · exact ho_
        · omega
      · have cx2_ : ¬ ((S_.1 6 0 11) ≤ i9_) := of_decide_eq_false cx2_
        have o9_ := ho_ i9_.toNat (by omega)
        refine sm_T_go 3 (c1 := (107, [some (.inr (.inr (some (6, 0)))), some (.inl a1_), some (.inl c9_), some (.inl i9_), none], [.inl i9_, .inr (.inr (some (66, 0)))], S_)) rfl ?_
        refine sm_T_iald (n := 1024) rfl rfl (by omega) (by omega) ?_
        have bx3_ : 0 ≤ S_.2.2.1 66 0 i9_.toNat ∧ S_.2.2.1 66 0 i9_.toNat ≤ 1023 := hI_.2 66 0 _
        refine sm_T_go 2 (c1 := (111, [some (.inr (.inr (some (6, 0)))), some (.inl a1_), some (.inl c9_), some (.inl i9_), some (.inl (S_.2.2.1 66 0 i9_.toNat))], [.inr (.inr (some (6, 0)))], S_)) rfl ?_
        refine sm_T_gr rfl rfl ((hF_.2.1 6 0 1 rfl).trans hc_) ?_
        refine sm_T_go 2 (c1 := (118, [some (.inr (.inr (some (6, 0)))), some (.inl a1_), some (.inl c9_), some (.inl i9_), some (.inl (S_.2.2.1 66 0 i9_.toNat))], [.inl c9_, .inr (.inr (some (55, (0 + ll_))))], S_)) rfl ?_
        refine sm_T_iald (n := 12) rfl rfl (by omega) (by omega) ?_
        have bx4_ : 0 ≤ S_.2.2.1 55 (0 + ll_) c9_.toNat ∧ S_.2.2.1 55 (0 + ll_) c9_.toNat ≤ 3 := hI_.2 55 (0 + ll_) _
        refine sm_T_go 4 (c1 := (126, [some (.inr (.inr (some (6, 0)))), some (.inl a1_), some (.inl c9_), some (.inl i9_), some (.inl (S_.2.2.1 66 0 i9_.toNat))], [.inl (S_.2.2.1 66 0 i9_.toNat), .inl 3, .inr (.inr (some (65, 0))), .inl (S_.2.2.1 55 (0 + ll_) c9_.toNat)], S_)) rfl ?_
        refine sm_T_bin (w := 3 * (S_.2.2.1 66 0 i9_.toNat)) rfl (bi_mul (by omega) (by omega) (by omega)) ?_ -- pc_ 126
        refine sm_T_go 1 (c1 := (128, [some (.inr (.inr (some (6, 0)))), some (.inl a1_), some (.inl c9_), some (.inl i9_), some (.inl (S_.2.2.1 66 0 i9_.toNat))], [.inl 2, .inl (3 * (S_.2.2.1 66 0 i9_.toNat)), .inr (.inr (some (65, 0))), .inl (S_.2.2.1 55 (0 + ll_) c9_.toNat)], S_)) rfl ?_
        refine sm_T_bin (w := 3 * (S_.2.2.1 66 0 i9_.toNat) + 2) rfl (bi_add (by omega) (by omega) (by omega)) ?_ -- pc_ 128
        refine sm_T_iald (n := 3072) rfl rfl (by omega) (by omega) ?_
        have bx5_ : (-1) ≤ S_.2.2.1 65 0 (3 * (S_.2.2.1 66 0 i9_.toNat) + 2).toNat ∧ S_.2.2.1 65 0 (3 * (S_.2.2.1 66 0 i9_.toNat) + 2).toNat ≤ 1012 := hI_.2 65 0 _
        refine sm_T_go 1 (c1 := (131, [some (.inr (.inr (some (6, 0)))), some (.inl a1_), some (.inl c9_), some (.inl i9_), some (.inl (S_.2.2.1 66 0 i9_.toNat))], [.inl (-1), .inl (S_.2.2.1 65 0 (3 * (S_.2.2.1 66 0 i9_.toNat) + 2).toNat), .inl (S_.2.2.1 55 (0 + ll_) c9_.toNat)], S_)) rfl ?_
        refine sm_T_br (a := 1) (z := 7) rfl (fun cx6_ => ?_) (fun cx6_ => ?_)
        · have cx6_ : (S_.2.2.1 65 0 (3 * (S_.2.2.1 66 0 i9_.toNat) + 2).toNat) ≠ (-1) := of_decide_eq_true cx6_
          refine sm_T_go 1 (c1 := (139, [some (.inr (.inr (some (6, 0)))), some (.inl a1_), some (.inl c9_), some (.inl i9_), some (.inl (S_.2.2.1 66 0 i9_.toNat))], [.inl 3, .inl (S_.2.2.1 55 (0 + ll_) c9_.toNat)], S_)) rfl ?_
          refine sm_T_br (a := 1) (z := 11) rfl (fun cx7_ => ?_) (fun cx7_ => ?_)
          · have cx7_ : (S_.2.2.1 55 (0 + ll_) c9_.toNat) ≠ 3 := of_decide_eq_true cx7_
            refine sm_T_inc (a := 3) (z := 1) (v := i9_) (w := i9_ + 1) rfl rfl (by omega) (by omega) (by omega) ?_ -- pc_ 150
            refine sm_T_go 1 (c1 := (94, [some (.inr (.inr (some (6, 0)))), some (.inl a1_), some (.inl c9_), some (.inl (i9_ + 1)), some (.inl (S_.2.2.1 66 0 i9_.toNat))], [], S_)) rfl ?_
            refine sm_T_wk [some (.inr (.inr (some (6, 0)))), some (.inl a1_), some (.inl c9_), some (.inl (i9_ + 1)), none] (by exact ⟨rfl, rfl, rfl, rfl, trivial⟩) ?_
            refine ih_.2.2 c9_ (i9_ + 1) S_ hI_ hF_ ⟨?_, ?_, ?_, ?_, ?_, ?_, trivial⟩ ?_
            · omega
            · first | exact hv0_ | exact t147_.1
            · first | exact hv1_ | exact t147_.2.1
            · first | exact hf_ | exact wfn_tr hf_ t147_.2.2
            · first | exact hcs_ | exact c147_
            · first | exact ho_ | exact o147_
            · omega
          · have cx7_ : ¬ ((S_.2.2.1 55 (0 + ll_) c9_.toNat) ≠ 3) := of_decide_eq_false cx7_
            refine sm_T_go 4 (c1 := (147, [some (.inr (.inr (some (6, 0)))), some (.inl a1_), some (.inl c9_), some (.inl i9_), some (.inl (S_.2.2.1 66 0 i9_.toNat))], [.inl (S_.2.2.1 66 0 i9_.toNat), .inl c9_, .inl a1_, .inr (.inr (some (6, 0)))], S_)) rfl ?_
            refine sm_T_cal (d1 := 3) (Q1 := vq_107 a1_ c9_ (S_.2.2.1 66 0 i9_.toNat) dd_ ll_ S_) rfl rfl (by decide) (vc_107 a1_ c9_ (S_.2.2.1 66 0 i9_.toNat) dd_ ll_ S_ hI_ (by exact (hF_.2.1 6 0 0 rfl).trans hd_) (by exact (hF_.2.1 6 0 1 rfl).trans hc_) (by omega) (by omega) (by omega) (by omega) (by (rw [f59_]; exact hcs_)) (by (rw [f1_, f2_]; exact hv0_)) (by (rw [f1_, f2_]; exact hv1_))) (fun u_ Sx8_ px11_ => ?_)
            obtain ⟨rfl, hIx9_, hFx10_, px11_⟩ := px11_
            have hFx12_ : ai_fr (sx_W vw_99) S0_ Sx8_ := ai_fr_tr hF_ (fr_le hFx10_ rfl)
            have ex13_ : Sx8_.1 6 0 11 = S_.1 6 0 11 := hFx10_.1 6 0 11 rfl
            have t147_ := px11_
            rw [f1_, f2_] at t147_
            have k147_ := hFx10_.1 6 0 11 rfl
            have c147_ : mcs (npd a1_ (S0_.2.2.1 59 0)) Sx8_ := mcs_fr hcs_ hFx10_
            have o147_ : ∀ i_ : Nat, (i_ : Int) < Sx8_.1 6 0 11 → Sx8_.2.2.1 66 0 i_ < Sx8_.1 6 0 11 := fun i_ q9_ => by (rw [k147_] at q9_ ⊢; rw [(hFx10_.2.2 66 rfl 0 i_).1]; exact ho_ i_ q9_)
            refine sm_T_inc (a := 3) (z := 1) (v := i9_) (w := i9_ + 1) rfl rfl (by omega) (by omega) (by omega) ?_ -- pc_ 150
            refine sm_T_go 1 (c1 := (94, [some (.inr (.inr (some (6, 0)))), some (.inl a1_), some (.inl c9_), some (.inl (i9_ + 1)), some (.inl (S_.2.2.1 66 0 i9_.toNat))], [], Sx8_)) rfl ?_
            refine sm_T_wk [some (.inr (.inr (some (6, 0)))), some (.inl a1_), some (.inl c9_), some (.inl (i9_ + 1)), none] (by exact ⟨rfl, rfl, rfl, rfl, trivial⟩) ?_
            refine ih_.2.2 c9_ (i9_ + 1) Sx8_ hIx9_ hFx12_ ⟨?_, ?_, ?_, ?_, ?_, ?_, trivial⟩ ?_
            · omega
            · first | exact hv0_ | exact t147_.1
            · first | exact hv1_ | exact t147_.2.1
            · first | exact hf_ | exact wfn_tr hf_ t147_.2.2
            · first | exact hcs_ | exact c147_
            · first | exact ho_ | exact o147_
            · omega
        · have cx6_ : ¬ ((S_.2.2.1 65 0 (3 * (S_.2.2.1 66 0 i9_.toNat) + 2).toNat) ≠ (-1)) := of_decide_eq_false cx6_
          refine sm_T_go 2 (c1 := (139, [some (.inr (.inr (some (6, 0)))), some (.inl a1_), some (.inl c9_), some (.inl i9_), some (.inl (S_.2.2.1 66 0 i9_.toNat))], [.inl 2, .inl (S_.2.2.1 55 (0 + ll_) c9_.toNat)], S_)) rfl ?_
          refine sm_T_br (a := 1) (z := 11) rfl (fun cx14_ => ?_) (fun cx14_ => ?_)
          · have cx14_ : (S_.2.2.1 55 (0 + ll_) c9_.toNat) ≠ 2 := of_decide_eq_true cx14_
            refine sm_T_inc (a := 3) (z := 1) (v := i9_) (w := i9_ + 1) rfl rfl (by omega) (by omega) (by omega) ?_ -- pc_ 150
            refine sm_T_go 1 (c1 := (94, [some (.inr (.inr (some (6, 0)))), some (.inl a1_), some (.inl c9_), some (.inl (i9_ + 1)), some (.inl (S_.2.2.1 66 0 i9_.toNat))], [], S_)) rfl ?_
            refine sm_T_wk [some (.inr (.inr (some (6, 0)))), some (.inl a1_), some (.inl c9_), some (.inl (i9_ + 1)), none] (by exact ⟨rfl, rfl, rfl, rfl, trivial⟩) ?_
            refine ih_.2.2 c9_ (i9_ + 1) S_ hI_ hF_ ⟨?_, ?_, ?_, ?_, ?_, ?_, trivial⟩ ?_
            · omega
            · first | exact hv0_ | exact t147_.1
            · first | exact hv1_ | exact t147_.2.1
            · first | exact hf_ | exact wfn_tr hf_ t147_.2.2
            · first | exact hcs_ | exact c147_
            · first | exact ho_ | exact o147_
            · omega
          · have cx14_ : ¬ ((S_.2.2.1 55 (0 + ll_) c9_.toNat) ≠ 2) := of_decide_eq_false cx14_
            refine sm_T_go 4 (c1 := (147, [some (.inr (.inr (some (6, 0)))), some (.inl a1_), some (.inl c9_), some (.inl i9_), some (.inl (S_.2.2.1 66 0 i9_.toNat))], [.inl (S_.2.2.1 66 0 i9_.toNat), .inl c9_, .inl a1_, .inr (.inr (some (6, 0)))], S_)) rfl ?_
            refine sm_T_cal (d1 := 3) (Q1 := vq_107 a1_ c9_ (S_.2.2.1 66 0 i9_.toNat) dd_ ll_ S_) rfl rfl (by decide) (vc_107 a1_ c9_ (S_.2.2.1 66 0 i9_.toNat) dd_ ll_ S_ hI_ (by exact (hF_.2.1 6 0 0 rfl).trans hd_) (by exact (hF_.2.1 6 0 1 rfl).trans hc_) (by omega) (by omega) (by omega) (by omega) (by (rw [f59_]; exact hcs_)) (by (rw [f1_, f2_]; exact hv0_)) (by (rw [f1_, f2_]; exact hv1_))) (fun u_ Sx15_ px18_ => ?_)
            obtain ⟨rfl, hIx16_, hFx17_, px18_⟩ := px18_
            have hFx19_ : ai_fr (sx_W vw_99) S0_ Sx15_ := ai_fr_tr hF_ (fr_le hFx17_ rfl)
            have ex20_ : Sx15_.1 6 0 11 = S_.1 6 0 11 := hFx17_.1 6 0 11 rfl
            have t147_ := px18_
            rw [f1_, f2_] at t147_
            have k147_ := hFx17_.1 6 0 11 rfl
            have c147_ : mcs (npd a1_ (S0_.2.2.1 59 0)) Sx15_ := mcs_fr hcs_ hFx17_
            have o147_ : ∀ i_ : Nat, (i_ : Int) < Sx15_.1 6 0 11 → Sx15_.2.2.1 66 0 i_ < Sx15_.1 6 0 11 := fun i_ q9_ => by (rw [k147_] at q9_ ⊢; rw [(hFx17_.2.2 66 rfl 0 i_).1]; exact ho_ i_ q9_)
            refine sm_T_inc (a := 3) (z := 1) (v := i9_) (w := i9_ + 1) rfl rfl (by omega) (by omega) (by omega) ?_ -- pc_ 150
            refine sm_T_go 1 (c1 := (94, [some (.inr (.inr (some (6, 0)))), some (.inl a1_), some (.inl c9_), some (.inl (i9_ + 1)), some (.inl (S_.2.2.1 66 0 i9_.toNat))], [], Sx15_)) rfl ?_
            refine sm_T_wk [some (.inr (.inr (some (6, 0)))), some (.inl a1_), some (.inl c9_), some (.inl (i9_ + 1)), none] (by exact ⟨rfl, rfl, rfl, rfl, trivial⟩) ?_
            refine ih_.2.2 c9_ (i9_ + 1) Sx15_ hIx16_ hFx19_ ⟨?_, ?_, ?_, ?_, ?_, ?_, trivial⟩ ?_
            · omega
            · first | exact hv0_ | exact t147_.1
            · first | exact hv1_ | exact t147_.2.1
            · first | exact hf_ | exact wfn_tr hf_ t147_.2.2
            · first | exact hcs_ | exact c147_
            · first | exact ho_ | exact o147_
            · omega
set_option maxHeartbeats 4000000 in
set_option maxRecDepth 20000 in
theorem vc_99 {sc_ : Nat × (Nat → Int)} (a1_ : Int) (dd_ : Nat) (F_ : Nat) (ll_ : Nat) (S0_ : sm_S) (hI_ : gi S0_) (hd_ : S0_.2.1 6 0 0 = some dd_) (hc_ : S0_.2.1 6 0 1 = some ll_) (hg_ : dgr dd_ F_ S0_) (hs_ : swp dd_ F_ S0_) (hk_ : mkd dd_ F_ S0_ (S0_.2.2.1 59 0)) (h1_ : (F_ : Int) ≤ a1_ ∧ a1_ < S0_.1 3 dd_ 4) (hn_ : S0_.2.2.1 59 0 a1_.toNat = 1) : sm_T (mt_P sc_) 4 99 (0, [some (.inr (.inr (some (6, 0)))), some (.inl a1_), none, none, none], [], S0_) (fun ro9_ => ∃ u_ S1_, ro9_ = (.inl u_, S1_, 0) ∧ vq_99 a1_ dd_ F_ ll_ S0_ u_ S1_) := by
  have hF_ : ai_fr (sx_W vw_99) S0_ S0_ := ai_fr_rf
  have g1_ := hg_.1
  have n13_ : 0 ≤ S0_.1 3 dd_ 4 ∧ S0_.1 3 dd_ 4 ≤ 1013 := hI_.1 3 dd_ 4 rfl
  refine sm_T_go 4 (c1 := (6, [some (.inr (.inr (some (6, 0)))), some (.inl a1_), none, none, none], [.inl a1_, .inl 2, .inr (.inr (some (61, 0)))], S0_)) rfl ?_
  refine sm_T_bin (w := 2 * a1_) rfl (bi_mul (by omega) (by omega) (by omega)) ?_ -- pc_ 6
  refine sm_T_nt (u := some (.inl 268435456)) (S1 := S0_) rfl rfl rfl ?_
  refine sm_T_iast (n := 2026) rfl rfl (by omega) (by omega) ?_
  have hIx1_ : gi (sm_aI S0_ 61 0 (2 * a1_).toNat 268435456) := gi_aI hI_ (show 0 ≤ 268435456 ∧ 268435456 ≤ 268435456 from ⟨by omega, by omega⟩)
  have hFx2_ : ai_fr (sx_W vw_99) S0_ (sm_aI S0_ 61 0 (2 * a1_).toNat 268435456) := ai_fr_tr hF_ (ai_fr_aI rfl)
  refine sm_T_go 4 (c1 := (16, [some (.inr (.inr (some (6, 0)))), some (.inl a1_), none, none, none], [.inl a1_, .inl 2, .inr (.inr (some (61, 0)))], sm_aI S0_ 61 0 (2 * a1_).toNat 268435456)) rfl ?_
  refine sm_T_bin (w := 2 * a1_) rfl (bi_mul (by omega) (by omega) (by omega)) ?_ -- pc_ 16
  refine sm_T_go 1 (c1 := (18, [some (.inr (.inr (some (6, 0)))), some (.inl a1_), none, none, none], [.inl 1, .inl (2 * a1_), .inr (.inr (some (61, 0)))], sm_aI S0_ 61 0 (2 * a1_).toNat 268435456)) rfl ?_
  refine sm_T_bin (w := 2 * a1_ + 1) rfl (bi_add (by omega) (by omega) (by omega)) ?_ -- pc_ 18
  refine sm_T_nt (u := some (.inl 268435456)) (S1 := sm_aI S0_ 61 0 (2 * a1_).toNat 268435456) rfl rfl rfl ?_
  refine sm_T_iast (n := 2026) rfl rfl (by omega) (by omega) ?_
  have hIx3_ : gi (sm_aI (sm_aI S0_ 61 0 (2 * a1_).toNat 268435456) 61 0 (2 * a1_ + 1).toNat 268435456) := gi_aI hIx1_ (show 0 ≤ 268435456 ∧ 268435456 ≤ 268435456 from ⟨by omega, by omega⟩)
  have hFx4_ : ai_fr (sx_W vw_99) S0_ (sm_aI (sm_aI S0_ 61 0 (2 * a1_).toNat 268435456) 61 0 (2 * a1_ + 1).toNat 268435456) := ai_fr_tr hFx2_ (ai_fr_aI rfl)
  refine sm_T_go 4 (c1 := (28, [some (.inr (.inr (some (6, 0)))), some (.inl a1_), none, none, none], [.inl a1_, .inl 2, .inr (.inr (some (62, 0)))], sm_aI (sm_aI S0_ 61 0 (2 * a1_).toNat 268435456) 61 0 (2 * a1_ + 1).toNat 268435456)) rfl ?_
  refine sm_T_bin (w := 2 * a1_) rfl (bi_mul (by omega) (by omega) (by omega)) ?_ -- pc_ 28
  refine sm_T_go 1 (c1 := (30, [some (.inr (.inr (some (6, 0)))), some (.inl a1_), none, none, none], [.inl (-1), .inl (2 * a1_), .inr (.inr (some (62, 0)))], sm_aI (sm_aI S0_ 61 0 (2 * a1_).toNat 268435456) 61 0 (2 * a1_ + 1).toNat 268435456)) rfl ?_
  refine sm_T_iast (n := 2026) rfl rfl (by omega) (by omega) ?_
  have hIx5_ : gi (sm_aI (sm_aI (sm_aI S0_ 61 0 (2 * a1_).toNat 268435456) 61 0 (2 * a1_ + 1).toNat 268435456) 62 0 (2 * a1_).toNat (-1)) := gi_aI hIx3_ (show (-2) ≤ (-1) ∧ (-1) ≤ 11 from ⟨by omega, by omega⟩)
  have hFx6_ : ai_fr (sx_W vw_99) S0_ (sm_aI (sm_aI (sm_aI S0_ 61 0 (2 * a1_).toNat 268435456) 61 0 (2 * a1_ + 1).toNat 268435456) 62 0 (2 * a1_).toNat (-1)) := ai_fr_tr hFx4_ (ai_fr_aI rfl)
  refine sm_T_go 4 (c1 := (37, [some (.inr (.inr (some (6, 0)))), some (.inl a1_), none, none, none], [.inl a1_, .inl 2, .inr (.inr (some (62, 0)))], sm_aI (sm_aI (sm_aI S0_ 61 0 (2 * a1_).toNat 268435456) 61 0 (2 * a1_ + 1).toNat 268435456) 62 0 (2 * a1_).toNat (-1))) rfl ?_
  refine sm_T_bin (w := 2 * a1_) rfl (bi_mul (by omega) (by omega) (by omega)) ?_ -- pc_ 37
  refine sm_T_go 1 (c1 := (39, [some (.inr (.inr (some (6, 0)))), some (.inl a1_), none, none, none], [.inl 1, .inl (2 * a1_), .inr (.inr (some (62, 0)))], sm_aI (sm_aI (sm_aI S0_ 61 0 (2 * a1_).toNat 268435456) 61 0 (2 * a1_ + 1).toNat 268435456) 62 0 (2 * a1_).toNat (-1))) rfl ?_
  refine sm_T_bin (w := 2 * a1_ + 1) rfl (bi_add (by omega) (by omega) (by omega)) ?_ -- pc_ 39
  refine sm_T_go 1 (c1 := (41, [some (.inr (.inr (some (6, 0)))), some (.inl a1_), none, none, none], [.inl (-1), .inl (2 * a1_ + 1), .inr (.inr (some (62, 0)))], sm_aI (sm_aI (sm_aI S0_ 61 0 (2 * a1_).toNat 268435456) 61 0 (2 * a1_ + 1).toNat 268435456) 62 0 (2 * a1_).toNat (-1))) rfl ?_
  refine sm_T_iast (n := 2026) rfl rfl (by omega) (by omega) ?_
  have hIx7_ : gi (sm_aI (sm_aI (sm_aI (sm_aI S0_ 61 0 (2 * a1_).toNat 268435456) 61 0 (2 * a1_ + 1).toNat 268435456) 62 0 (2 * a1_).toNat (-1)) 62 0 (2 * a1_ + 1).toNat (-1)) := gi_aI hIx5_ (show (-2) ≤ (-1) ∧ (-1) ≤ 11 from ⟨by omega, by omega⟩)
  have hFx8_ : ai_fr (sx_W vw_99) S0_ (sm_aI (sm_aI (sm_aI (sm_aI S0_ 61 0 (2 * a1_).toNat 268435456) 61 0 (2 * a1_ + 1).toNat 268435456) 62 0 (2 * a1_).toNat (-1)) 62 0 (2 * a1_ + 1).toNat (-1)) := ai_fr_tr hFx6_ (ai_fr_aI rfl)
  refine sm_T_go 2 (c1 := (44, [some (.inr (.inr (some (6, 0)))), some (.inl a1_), none, none, none], [.inl a1_, .inr (.inr (some (6, 0)))], sm_aI (sm_aI (sm_aI (sm_aI S0_ 61 0 (2 * a1_).toNat 268435456) 61 0 (2 * a1_ + 1).toNat 268435456) 62 0 (2 * a1_).toNat (-1)) 62 0 (2 * a1_ + 1).toNat (-1))) rfl ?_
  refine sm_T_cal (d1 := 2) (Q1 := vq_100 a1_ dd_ F_ (sm_aI (sm_aI (sm_aI (sm_aI S0_ 61 0 (2 * a1_).toNat 268435456) 61 0 (2 * a1_ + 1).toNat 268435456) 62 0 (2 * a1_).toNat (-1)) 62 0 (2 * a1_ + 1).toNat (-1))) rfl rfl (by decide) (vc_100 a1_ dd_ F_ (sm_aI (sm_aI (sm_aI (sm_aI S0_ 61 0 (2 * a1_).toNat 268435456) 61 0 (2 * a1_ + 1).toNat 268435456) 62 0 (2 * a1_).toNat (-1)) 62 0 (2 * a1_ + 1).toNat (-1)) hIx7_ (by exact hd_) (by exact dgr_fr hg_ hFx8_ rfl rfl rfl rfl rfl) (by exact swp_fr hs_ hFx8_ rfl rfl rfl rfl) (by exact mkd_fr hk_ hFx8_) (by exact h1_) (by exact hn_)) (fun u_ Sx9_ px12_ => ?_)
  obtain ⟨rfl, hIx10_, hFx11_, px12_⟩ := px12_
  have hFx13_ : ai_fr (sx_W vw_99) S0_ Sx9_ := ai_fr_tr hFx8_ (fr_le hFx11_ rfl)
  have c44_ := px12_
  have y44_ := hFx13_
  have A44_ : ∀ j9_, Sx9_.2.2.1 61 0 j9_ = if j9_ = (2 * a1_ + 1).toNat then 268435456 else if j9_ = (2 * a1_).toNat then 268435456 else S0_.2.2.1 61 0 j9_ := fun j9_ => by (rw [(hFx11_.2.2 61 rfl 0 j9_).1, rd_ne (by decide), rd_ne (by decide), rd_eq, rd_eq])
  have B44_ : ∀ j9_, Sx9_.2.2.1 62 0 j9_ = if j9_ = (2 * a1_ + 1).toNat then -1 else if j9_ = (2 * a1_).toNat then -1 else S0_.2.2.1 62 0 j9_ := fun j9_ => by (rw [(hFx11_.2.2 62 rfl 0 j9_).1, rd_eq, rd_eq, rd_ne (by decide), rd_ne (by decide)])
  have D44_ : ∀ j9_, Sx9_.2.2.1 63 0 j9_ = S0_.2.2.1 63 0 j9_ := fun j9_ => by (rw [(hFx11_.2.2 63 rfl 0 j9_).1, rd_ne (by decide), rd_ne (by decide), rd_ne (by decide), rd_ne (by decide)])
  have E44_ : ∀ j9_, Sx9_.2.2.1 64 0 j9_ = S0_.2.2.1 64 0 j9_ := fun j9_ => by (rw [(hFx11_.2.2 64 rfl 0 j9_).1, rd_ne (by decide), rd_ne (by decide), rd_ne (by decide), rd_ne (by decide)])
  have u44_ : wo3 (1 + S0_.1 3 dd_ 1 + S0_.1 3 dd_ 2) a1_ ll_ Sx9_ (2 * a1_).toNat := Or.inl ⟨by rw [B44_, if_neg (by omega), if_pos rfl], by rw [A44_, if_neg (by omega), if_pos rfl]⟩
  have v44_ : wo3 (1 + S0_.1 3 dd_ 1 + S0_.1 3 dd_ 2) a1_ ll_ Sx9_ (2 * a1_ + 1).toNat := Or.inl ⟨by rw [B44_, if_pos rfl], by rw [A44_, if_pos rfl]⟩
  have w44_ : wfn a1_.toNat S0_ Sx9_ := ⟨fun j9_ p9_ q9_ => ⟨by rw [A44_, if_neg (by omega), if_neg (by omega)], by rw [B44_, if_neg (by omega), if_neg (by omega)], D44_ j9_⟩, fun j9_ _ => E44_ j9_⟩
  refine sm_T_go 1 (c1 := (48, [some (.inr (.inr (some (6, 0)))), some (.inl a1_), none, none, none], [.inr (.inr (some (6, 0)))], Sx9_)) rfl ?_
  refine sm_T_cal (d1 := 1) (Q1 := vq_103  Sx9_) rfl rfl (by decide) (vc_103  Sx9_ hIx10_ ) (fun u_ Sx14_ px17_ => ?_)
  obtain ⟨rfl, hIx15_, hFx16_, px17_⟩ := px17_
  have hFx18_ : ai_fr (sx_W vw_99) S0_ Sx14_ := ai_fr_tr hFx13_ (fr_le hFx16_ rfl)
  have o48_ := px17_
  have k48_ := hFx16_.1 6 0 11 rfl
  have u48_ := wo3_fr u44_ hFx16_
  have v48_ := wo3_fr v44_ hFx16_
  have w48_ := wfn_tr w44_ (wfn_fr (n_ := a1_.toNat) hFx16_)
  have c48_ : mcs (npd a1_ (S0_.2.2.1 59 0)) Sx14_ := mcs_fr c44_ hFx16_
  refine sm_T_go 2 (c1 := (53, [some (.inr (.inr (some (6, 0)))), some (.inl a1_), some (.inl 0), none, none], [], Sx14_)) rfl ?_
  refine (vl_99 a1_ dd_ F_ ll_ S0_ hd_ hc_ hg_ hs_ hk_ h1_ hn_ _).1 0 Sx14_ hIx15_ hFx18_ ⟨?_, ?_, ?_, ?_, ?_, ?_, trivial⟩ (Nat.lt_succ_self _)
  · omega
  · exact u48_
  · exact v48_
  · exact w48_
  · exact c48_
  · (intro i_ q9_; rw [k48_] at q9_ ⊢; exact o48_ i_ q9_)
