/-! ways by a cut; written by wip/p55/gen/vg -/

/-! all_ ways of_ a_ node -/
/-- only the_ two_ literals of_ node n_ have changed -/
def wfn (n_ : Nat) (S_ S'_ : sm_S) : Prop := (∀ j_, j_ ≠ 2 * n_ → j_ ≠ 2 * n_ + 1 → S'_.2.2.1 61 0 j_ = S_.2.2.1 61 0 j_ ∧ S'_.2.2.1 62 0 j_ = S_.2.2.1 62 0 j_ ∧ S'_.2.2.1 63 0 j_ = S_.2.2.1 63 0 j_) ∧ ∀ j_, (j_ < 6 * n_ ∨ 6 * n_ + 6 ≤ j_) → S'_.2.2.1 64 0 j_ = S_.2.2.1 64 0 j_
theorem wfn_rf {n_ : Nat} {S_ : sm_S} : wfn n_ S_ S_ := ⟨fun _ _ _ => ⟨rfl, rfl, rfl⟩, fun _ _ => rfl⟩
theorem wfn_tr {n_ : Nat} {S_ S'_ S2_ : sm_S} (h_ : wfn n_ S_ S'_) (g_ : wfn n_ S'_ S2_) : wfn n_ S_ S2_ := ⟨fun j_ h1_ h2_ => ⟨(g_.1 j_ h1_ h2_).1.trans (h_.1 j_ h1_ h2_).1, (g_.1 j_ h1_ h2_).2.1.trans (h_.1 j_ h1_ h2_).2.1, (g_.1 j_ h1_ h2_).2.2.trans (h_.1 j_ h1_ h2_).2.2⟩, fun j_ hj_ => (g_.2 j_ hj_).trans (h_.2 j_ hj_)⟩
theorem wfn_l {n_ l_ : Nat} {S_ S'_ : sm_S} (h_ : wfl l_ S_ S'_) (e_ : l_ = 2 * n_ ∨ l_ = 2 * n_ + 1) : wfn n_ S_ S'_ := ⟨fun j_ h1_ h2_ => h_.1 j_ (by omega), fun j_ hj_ => h_.2 j_ (by omega)⟩
theorem wfn_fr {w_ : sx_Wl} {n_ : Nat} {S_ S'_ : sm_S} (g_ : ai_fr (sx_W w_) S_ S'_) (a1_ : (sx_W w_).2.1 61 = false := by rfl) (a2_ : (sx_W w_).2.1 62 = false := by rfl) (a3_ : (sx_W w_).2.1 63 = false := by rfl) (a4_ : (sx_W w_).2.1 64 = false := by rfl) : wfn n_ S_ S'_ := ⟨fun j_ _ _ => ⟨(g_.2.2 61 a1_ 0 j_).1, (g_.2.2 62 a2_ 0 j_).1, (g_.2.2 63 a3_ 0 j_).1⟩, fun j_ _ => (g_.2.2 64 a4_ 0 j_).1⟩
/-- a_ literal's way_, whatever it_ is_ -/
def wok (F_ n_ : Int) (ll_ : Nat) (S_ : sm_S) (l_ m_ : Nat) : Prop := wo3 F_ n_ ll_ S_ l_ ∨ (S_.2.2.1 62 0 l_ = -2 ∧ S_.2.2.1 61 0 l_ < 268435456 ∧ S_.1 5 ll_ 2 ≠ -1 ∧ 0 ≤ S_.2.2.1 62 0 m_)
theorem wo3_fr {w_ : sx_Wl} {F_ n_ : Int} {ll_ l_ : Nat} {S_ S'_ : sm_S} (h_ : wo3 F_ n_ ll_ S_ l_) (g_ : ai_fr (sx_W w_) S_ S'_) (a1_ : (sx_W w_).2.1 61 = false := by rfl) (a2_ : (sx_W w_).2.1 62 = false := by rfl) (a3_ : (sx_W w_).2.1 63 = false := by rfl) (a4_ : (sx_W w_).2.1 64 = false := by rfl) (a5_ : (sx_W w_).2.1 55 = false := by rfl) (a6_ : (sx_W w_).2.1 59 = false := by rfl) (a7_ : (sx_W w_).2.1 60 = false := by rfl) (f5_ : (sx_W w_).1 5 2 = false := by rfl) : wo3 F_ n_ ll_ S'_ l_ := by
  unfold wo3
  rw [fr_arr g_ a1_, fr_arr g_ a2_, fr_arr g_ a3_, fr_arr g_ a4_, fr_arr g_ a5_, fr_arr g_ a6_, fr_arr g_ a7_, g_.1 5 ll_ 2 f5_]
  exact h_
/-! Mapper.tryCut -/
def vw_107 : sx_Wl := ([], [61, 62, 63, 64], [])
def vq_107 (a1_ : Int) (a2_ : Int) (a3_ : Int) (dd_ : Nat) (ll_ : Nat) (S0_ : sm_S) (u_ : Option sm_V) (S1_ : sm_S) : Prop := u_ = none ∧ gi S1_ ∧ ai_fr (sx_W vw_107) S0_ S1_ ∧ (wo3 (1 + S0_.1 3 dd_ 1 + S0_.1 3 dd_ 2) a1_ ll_ S1_ (2 * a1_).toNat ∧ wo3 (1 + S0_.1 3 dd_ 1 + S0_.1 3 dd_ 2) a1_ ll_ S1_ (2 * a1_ + 1).toNat ∧ wfn a1_.toNat S0_ S1_)
set_option maxHeartbeats 3000000 in
theorem vl_107 {sc_ : Nat × (Nat → Int)} (a1_ : Int) (a2_ : Int) (a3_ : Int) (dd_ : Nat) (ll_ : Nat) (S0_ : sm_S) (hd_ : S0_.2.1 6 0 0 = some dd_) (hc_ : S0_.2.1 6 0 1 = some ll_) (h1_ : 1 ≤ a1_ ∧ a1_ ≤ 1012) (h2_ : 0 ≤ a2_ ∧ a2_ ≤ 11) (h3_ : 0 ≤ a3_ ∧ a3_ < S0_.1 6 0 11) (his_ : (S0_.2.2.1 55 (0 + ll_) a2_.toNat) = 2 ∨ ((S0_.2.2.1 55 (0 + ll_) a2_.toNat) = 3 ∧ S0_.2.2.1 65 0 (3 * a3_ + 2).toNat ≠ -1)) (hcs_ : mcs (npd a1_ (S0_.2.2.1 59 0)) S0_) (hw0_ : wo3 (1 + S0_.1 3 dd_ 1 + S0_.1 3 dd_ 2) a1_ ll_ S0_ (2 * a1_).toNat) (hw1_ : wo3 (1 + S0_.1 3 dd_ 1 + S0_.1 3 dd_ 2) a1_ ll_ S0_ (2 * a1_ + 1).toNat) : ∀ nn_ : Nat, (∀ (is_ : Int) (mk_ : Int) (ct : Int) (vw_ : Int) (S_ : sm_S), gi S_ → ai_fr (sx_W vw_107) S0_ S_ → ((is_ = (S0_.2.2.1 55 (0 + ll_) a2_.toNat) ∧ 0 ≤ vw_ ∧ vw_ ≤ 48 ∧ ((is_ = 2 ∧ ct = 8) ∨ (is_ = 3 ∧ ct = 48))) ∧ (wo3 (1 + S0_.1 3 dd_ 1 + S0_.1 3 dd_ 2) a1_ ll_ S_ (2 * a1_).toNat) ∧ (wo3 (1 + S0_.1 3 dd_ 1 + S0_.1 3 dd_ 2) a1_ ll_ S_ (2 * a1_ + 1).toNat) ∧ (wfn a1_.toNat S0_ S_) ∧ True) → ((2 * (100 - vw_) + 1).toNat) < nn_ → sm_T (mt_P sc_) 3 107 (47, [some (.inr (.inr (some (6, 0)))), some (.inl a1_), some (.inl a2_), some (.inl a3_), some (.inl is_), some (.inl mk_), some (.inl ct), some (.inl vw_), none], [], S_) (fun ro9_ => ∃ u_ S1_, ro9_ = (.inl u_, S1_, 0) ∧ vq_107 a1_ a2_ a3_ dd_ ll_ S0_ u_ S1_)) ∧ (∀ (is_ : Int) (mk_ : Int) (ct : Int) (vw_ : Int) (tb_ : Int) (S_ : sm_S), gi S_ → ai_fr (sx_W vw_107) S0_ S_ → ((is_ = (S0_.2.2.1 55 (0 + ll_) a2_.toNat) ∧ 0 ≤ vw_ ∧ vw_ < 48 ∧ vw_ < ct ∧ ((is_ = 2 ∧ ct = 8) ∨ (is_ = 3 ∧ ct = 48))) ∧ (wo3 (1 + S0_.1 3 dd_ 1 + S0_.1 3 dd_ 2) a1_ ll_ S_ (2 * a1_).toNat) ∧ (wo3 (1 + S0_.1 3 dd_ 1 + S0_.1 3 dd_ 2) a1_ ll_ S_ (2 * a1_ + 1).toNat) ∧ (wfn a1_.toNat S0_ S_) ∧ True) → ((2 * (100 - vw_)).toNat) < nn_ → sm_T (mt_P sc_) 3 107 (90, [some (.inr (.inr (some (6, 0)))), some (.inl a1_), some (.inl a2_), some (.inl a3_), some (.inl is_), some (.inl mk_), some (.inl ct), some (.inl vw_), some (.inl tb_)], [], S_) (fun ro9_ => ∃ u_ S1_, ro9_ = (.inl u_, S1_, 0) ∧ vq_107 a1_ a2_ a3_ dd_ ll_ S0_ u_ S1_)) := by
  intro nn_
  induction nn_ with
  | zero => exact ⟨fun _ _ _ _ _ _ _ _ h_ => absurd h_ (Nat.not_lt_zero _), fun _ _ _ _ _ _ _ _ _ h_ => absurd h_ (Nat.not_lt_zero _)⟩
  | succ nn_ ih_ =>
    refine ⟨?_, ?_⟩
    · rintro is_ mk_ ct vw_ S_ hI_ hF_ ⟨h0_, hv0_, hv1_, hf_, -⟩ hm_
      have f55_ : S_.2.2.1 55 (0 + ll_) = S0_.2.2.1 55 (0 + ll_) := fr_arr hF_ rfl
      have f65_ : S_.2.2.1 65 0 = S0_.2.2.1 65 0 := fr_arr hF_ rfl
      have f59_ : S_.2.2.1 59 0 = S0_.2.2.1 59 0 := fr_arr hF_ rfl
      have f60_ : S_.2.2.1 60 0 = S0_.2.2.1 60 0 := fr_arr hF_ rfl
      have f1_ : S_.1 3 dd_ 1 = S0_.1 3 dd_ 1 := hF_.1 3 dd_ 1 rfl
      have f2_ : S_.1 3 dd_ 2 = S0_.1 3 dd_ 2 := hF_.1 3 dd_ 2 rfl
      have f5_ : S_.1 5 ll_ 2 = S0_.1 5 ll_ 2 := hF_.1 5 ll_ 2 rfl
      have ek_ : S_.1 6 0 11 = S0_.1 6 0 11 := hF_.1 6 0 11 rfl
      have ck_ : 0 ≤ S_.1 6 0 11 ∧ S_.1 6 0 11 ≤ 1024 := hI_.1 6 0 11 rfl
      refine sm_T_go 2 (c1 := (51, [some (.inr (.inr (some (6, 0)))), some (.inl a1_), some (.inl a2_), some (.inl a3_), some (.inl is_), some (.inl mk_), some (.inl ct), some (.inl vw_), none], [.inl ct, .inl vw_], S_)) rfl ?_
      refine sm_T_br (a := 3) (z := 72) rfl (fun cx1_ => ?_) (fun cx1_ => ?_)
      · have cx1_ : ct ≤ vw_ := of_decide_eq_true cx1_
        refine sm_T_rv rfl ⟨_, _, rfl, rfl, hI_, hF_, ?_⟩
        exact ⟨hv0_, hv1_, hf_⟩
      · have cx1_ : ¬ (ct ≤ vw_) := of_decide_eq_false cx1_
        refine sm_T_go 4 (c1 := (61, [some (.inr (.inr (some (6, 0)))), some (.inl a1_), some (.inl a2_), some (.inl a3_), some (.inl is_), some (.inl mk_), some (.inl ct), some (.inl vw_), none], [.inl 48, .inl a2_, .inr (.inr (some (69, 0)))], S_)) rfl ?_
        refine sm_T_bin (w := 48 * a2_) rfl (bi_mul (by omega) (by omega) (by omega)) ?_ -- pc_ 61
        refine sm_T_go 1 (c1 := (64, [some (.inr (.inr (some (6, 0)))), some (.inl a1_), some (.inl a2_), some (.inl a3_), some (.inl is_), some (.inl mk_), some (.inl ct), some (.inl vw_), none], [.inl vw_, .inl (48 * a2_), .inr (.inr (some (69, 0)))], S_)) rfl ?_
        refine sm_T_bin (w := 48 * a2_ + vw_) rfl (bi_add (by omega) (by omega) (by omega)) ?_ -- pc_ 64
        refine sm_T_iald (n := 576) rfl rfl (by omega) (by omega) ?_
        have bx2_ : 0 ≤ S_.2.2.1 69 0 (48 * a2_ + vw_).toNat ∧ S_.2.2.1 69 0 (48 * a2_ + vw_).toNat ≤ 255 := hI_.2 69 0 _
        refine sm_T_go 5 (c1 := (75, [some (.inr (.inr (some (6, 0)))), some (.inl a1_), some (.inl a2_), some (.inl a3_), some (.inl is_), some (.inl mk_), some (.inl ct), some (.inl vw_), some (.inl (S_.2.2.1 69 0 (48 * a2_ + vw_).toNat))], [.inl a3_, .inr (.inr (some (67, 0))), .inl (S_.2.2.1 69 0 (48 * a2_ + vw_).toNat)], S_)) rfl ?_
        refine sm_T_iald (n := 1024) rfl rfl (by omega) (by omega) ?_
        have bx3_ : 0 ≤ S_.2.2.1 67 0 a3_.toNat ∧ S_.2.2.1 67 0 a3_.toNat ≤ 255 := hI_.2 67 0 _
        refine sm_T_br (a := 1) (z := 14) rfl (fun cx4_ => ?_) (fun cx4_ => ?_)
        · have cx4_ : (S_.2.2.1 69 0 (48 * a2_ + vw_).toNat) ≠ (S_.2.2.1 67 0 a3_.toNat) := of_decide_eq_true cx4_
          refine sm_T_go 0 (c1 := (90, [some (.inr (.inr (some (6, 0)))), some (.inl a1_), some (.inl a2_), some (.inl a3_), some (.inl is_), some (.inl mk_), some (.inl ct), some (.inl vw_), some (.inl (S_.2.2.1 69 0 (48 * a2_ + vw_).toNat))], [], S_)) rfl ?_
          refine ih_.2 is_ mk_ ct vw_ (S_.2.2.1 69 0 (48 * a2_ + vw_).toNat) S_ hI_ hF_ ⟨?_, ?_, ?_, ?_, trivial⟩ ?_
          · omega
          · first | exact hv0_ | exact o87_
          · first | exact hv1_ | exact x87_
          · first | exact hf_ | exact wfn_tr hf_ (wfn_l w87_ (by omega))
          · omega
        · have cx4_ : ¬ ((S_.2.2.1 69 0 (48 * a2_ + vw_).toNat) ≠ (S_.2.2.1 67 0 a3_.toNat)) := of_decide_eq_false cx4_
          refine sm_T_go 3 (c1 := (82, [some (.inr (.inr (some (6, 0)))), some (.inl a1_), some (.inl a2_), some (.inl a3_), some (.inl is_), some (.inl mk_), some (.inl ct), some (.inl vw_), some (.inl (S_.2.2.1 69 0 (48 * a2_ + vw_).toNat))], [.inl a1_, .inl 2, .inr (.inr (some (6, 0)))], S_)) rfl ?_
          refine sm_T_bin (w := 2 * a1_) rfl (bi_mul (by omega) (by omega) (by omega)) ?_ -- pc_ 82
          refine sm_T_go 3 (c1 := (87, [some (.inr (.inr (some (6, 0)))), some (.inl a1_), some (.inl a2_), some (.inl a3_), some (.inl is_), some (.inl mk_), some (.inl ct), some (.inl vw_), some (.inl (S_.2.2.1 69 0 (48 * a2_ + vw_).toNat))], [.inl vw_, .inl a3_, .inl a2_, .inl (2 * a1_), .inr (.inr (some (6, 0)))], S_)) rfl ?_
          refine sm_T_cal (d1 := 2) (Q1 := vq_108 (2 * a1_) a2_ a3_ vw_ dd_ ll_ a1_ S_) rfl rfl (by decide) (vc_108 (2 * a1_) a2_ a3_ vw_ dd_ ll_ a1_ S_ hI_ (by exact (hF_.2.1 6 0 0 rfl).trans hd_) (by exact (hF_.2.1 6 0 1 rfl).trans hc_) (by omega) (by omega) (by (first | omega | (rw [hF_.1 6 0 11 rfl]; omega))) (by (rw [fr_arr (t := 55) (i := 0 + ll_) hF_ rfl, fr_arr (t := 65) (i := 0) hF_ rfl]; rcases his_ with w9_ | w9_; (left; omega); (right; exact ⟨w9_.1, by omega, by omega, w9_.2⟩))) (by (rw [fr_arr (t := 59) (i := 0) hF_ rfl]; exact mcs_fr hcs_ hF_)) (by (rw [hF_.1 3 dd_ 1 rfl, hF_.1 3 dd_ 2 rfl]; exact hv0_))) (fun u_ Sx5_ px8_ => ?_)
          obtain ⟨rfl, hIx6_, hFx7_, px8_⟩ := px8_
          have hFx9_ : ai_fr (sx_W vw_107) S0_ Sx5_ := ai_fr_tr hF_ (fr_le hFx7_ rfl)
          have o87_ : wo3 (1 + S0_.1 3 dd_ 1 + S0_.1 3 dd_ 2) a1_ ll_ Sx5_ (2 * a1_).toNat := by (have z9_ := px8_.1; rw [f1_, f2_] at z9_; exact z9_)
          have w87_ := px8_.2
          have x87_ : wo3 (1 + S0_.1 3 dd_ 1 + S0_.1 3 dd_ 2) a1_ ll_ Sx5_ (2 * a1_ + 1).toNat := wo3_cg hv1_ w87_ (by omega) (by omega) (hFx7_.1 5 ll_ 2 rfl) (fr_arr hFx7_ rfl) (fr_arr hFx7_ rfl) (fr_arr hFx7_ rfl) (fun k9_ => (hI_.2 55 (0 + ll_) k9_).2)
          refine sm_T_go 0 (c1 := (90, [some (.inr (.inr (some (6, 0)))), some (.inl a1_), some (.inl a2_), some (.inl a3_), some (.inl is_), some (.inl mk_), some (.inl ct), some (.inl vw_), some (.inl (S_.2.2.1 69 0 (48 * a2_ + vw_).toNat))], [], Sx5_)) rfl ?_
          refine ih_.2 is_ mk_ ct vw_ (S_.2.2.1 69 0 (48 * a2_ + vw_).toNat) Sx5_ hIx6_ hFx9_ ⟨?_, ?_, ?_, ?_, trivial⟩ ?_
          · omega
          · first | exact hv0_ | exact o87_
          · first | exact hv1_ | exact x87_
          · first | exact hf_ | exact wfn_tr hf_ (wfn_l w87_ (by omega))
          · omega
    · rintro is_ mk_ ct vw_ tb_ S_ hI_ hF_ ⟨h0_, hv0_, hv1_, hf_, -⟩ hm_
      have f55_ : S_.2.2.1 55 (0 + ll_) = S0_.2.2.1 55 (0 + ll_) := fr_arr hF_ rfl
      have f65_ : S_.2.2.1 65 0 = S0_.2.2.1 65 0 := fr_arr hF_ rfl
      have f59_ : S_.2.2.1 59 0 = S0_.2.2.1 59 0 := fr_arr hF_ rfl
      have f60_ : S_.2.2.1 60 0 = S0_.2.2.1 60 0 := fr_arr hF_ rfl
      have f1_ : S_.1 3 dd_ 1 = S0_.1 3 dd_ 1 := hF_.1 3 dd_ 1 rfl
      have f2_ : S_.1 3 dd_ 2 = S0_.1 3 dd_ 2 := hF_.1 3 dd_ 2 rfl
      have f5_ : S_.1 5 ll_ 2 = S0_.1 5 ll_ 2 := hF_.1 5 ll_ 2 rfl
      have ek_ : S_.1 6 0 11 = S0_.1 6 0 11 := hF_.1 6 0 11 rfl
      have ck_ : 0 ≤ S_.1 6 0 11 ∧ S_.1 6 0 11 ≤ 1024 := hI_.1 6 0 11 rfl
      refine sm_T_go 4 (c1 := (97, [some (.inr (.inr (some (6, 0)))), some (.inl a1_), some (.inl a2_), some (.inl a3_), some (.inl is_), some (.inl mk_), some (.inl ct), some (.inl vw_), some (.inl tb_)], [.inl a3_, .inr (.inr (some (67, 0))), .inl tb_], S_)) rfl ?_
      refine sm_T_iald (n := 1024) rfl rfl (by omega) (by omega) ?_
      have bx1_ : 0 ≤ S_.2.2.1 67 0 a3_.toNat ∧ S_.2.2.1 67 0 a3_.toNat ≤ 255 := hI_.2 67 0 _
      refine sm_T_go 1 (c1 := (100, [some (.inr (.inr (some (6, 0)))), some (.inl a1_), some (.inl a2_), some (.inl a3_), some (.inl is_), some (.inl mk_), some (.inl ct), some (.inl vw_), some (.inl tb_)], [.inl mk_, .inl (S_.2.2.1 67 0 a3_.toNat), .inl tb_], S_)) rfl ?_
      refine sm_T_bin (w := (i_xor (S_.2.2.1 67 0 a3_.toNat) mk_)) rfl rfl ?_ -- pc_ 100
      first | have bx2_ := i_xrp (x_ := (S_.2.2.1 67 0 a3_.toNat)) (y_ := mk_) (k_ := 1) (by decide) (by omega) (by omega) | have bx2_ := i_xrp (x_ := (S_.2.2.1 67 0 a3_.toNat)) (y_ := mk_) (k_ := 3) (by decide) (by omega) (by omega) | have bx2_ := i_xrp (x_ := (S_.2.2.1 67 0 a3_.toNat)) (y_ := mk_) (k_ := 4) (by decide) (by omega) (by omega) | have bx2_ := i_xrp (x_ := (S_.2.2.1 67 0 a3_.toNat)) (y_ := mk_) (k_ := 6) (by decide) (by omega) (by omega) | have bx2_ := i_xrp (x_ := (S_.2.2.1 67 0 a3_.toNat)) (y_ := mk_) (k_ := 8) (by decide) (by omega) (by omega) | have bx2_ := i_xrp (x_ := (S_.2.2.1 67 0 a3_.toNat)) (y_ := mk_) (k_ := 11) (by decide) (by omega) (by omega) | have bx2_ := i_xrp (x_ := (S_.2.2.1 67 0 a3_.toNat)) (y_ := mk_) (k_ := 12) (by decide) (by omega) (by omega) | have bx2_ := i_xrp (x_ := (S_.2.2.1 67 0 a3_.toNat)) (y_ := mk_) (k_ := 16) (by decide) (by omega) (by omega) | have bx2_ := i_xrp (x_ := (S_.2.2.1 67 0 a3_.toNat)) (y_ := mk_) (k_ := 22) (by decide) (by omega) (by omega) | have bx2_ := i_xrp (x_ := (S_.2.2.1 67 0 a3_.toNat)) (y_ := mk_) (k_ := 31) (by decide) (by omega) (by omega) | have bx2_ := i_xor_n (S_.2.2.1 67 0 a3_.toNat) mk_
      refine sm_T_br (a := 1) (z := 16) rfl (fun cx3_ => ?_) (fun cx3_ => ?_)
      · have cx3_ : tb_ ≠ (i_xor (S_.2.2.1 67 0 a3_.toNat) mk_) := of_decide_eq_true cx3_
        refine sm_T_inc (a := 7) (z := 1) (v := vw_) (w := vw_ + 1) rfl rfl (by omega) (by omega) (by omega) ?_ -- pc_ 117
        refine sm_T_go 1 (c1 := (47, [some (.inr (.inr (some (6, 0)))), some (.inl a1_), some (.inl a2_), some (.inl a3_), some (.inl is_), some (.inl mk_), some (.inl ct), some (.inl (vw_ + 1)), some (.inl tb_)], [], S_)) rfl ?_
        refine sm_T_wk [some (.inr (.inr (some (6, 0)))), some (.inl a1_), some (.inl a2_), some (.inl a3_), some (.inl is_), some (.inl mk_), some (.inl ct), some (.inl (vw_ + 1)), none] (by exact ⟨rfl, rfl, rfl, rfl, rfl, rfl, rfl, rfl, trivial⟩) ?_
        refine ih_.1 is_ mk_ ct (vw_ + 1) S_ hI_ hF_ ⟨?_, ?_, ?_, ?_, trivial⟩ ?_
        · omega
        · first | exact hv0_ | exact x114_
        · first | exact hv1_ | exact o114_
        · first | exact hf_ | exact wfn_tr hf_ (wfn_l w114_ (by omega))
        · omega
      · have cx3_ : ¬ (tb_ ≠ (i_xor (S_.2.2.1 67 0 a3_.toNat) mk_)) := of_decide_eq_false cx3_
        refine sm_T_go 3 (c1 := (107, [some (.inr (.inr (some (6, 0)))), some (.inl a1_), some (.inl a2_), some (.inl a3_), some (.inl is_), some (.inl mk_), some (.inl ct), some (.inl vw_), some (.inl tb_)], [.inl a1_, .inl 2, .inr (.inr (some (6, 0)))], S_)) rfl ?_
        refine sm_T_bin (w := 2 * a1_) rfl (bi_mul (by omega) (by omega) (by omega)) ?_ -- pc_ 107
        refine sm_T_go 1 (c1 := (109, [some (.inr (.inr (some (6, 0)))), some (.inl a1_), some (.inl a2_), some (.inl a3_), some (.inl is_), some (.inl mk_), some (.inl ct), some (.inl vw_), some (.inl tb_)], [.inl 1, .inl (2 * a1_), .inr (.inr (some (6, 0)))], S_)) rfl ?_
        refine sm_T_bin (w := 2 * a1_ + 1) rfl (bi_add (by omega) (by omega) (by omega)) ?_ -- pc_ 109
        refine sm_T_go 3 (c1 := (114, [some (.inr (.inr (some (6, 0)))), some (.inl a1_), some (.inl a2_), some (.inl a3_), some (.inl is_), some (.inl mk_), some (.inl ct), some (.inl vw_), some (.inl tb_)], [.inl vw_, .inl a3_, .inl a2_, .inl (2 * a1_ + 1), .inr (.inr (some (6, 0)))], S_)) rfl ?_
        refine sm_T_cal (d1 := 2) (Q1 := vq_108 (2 * a1_ + 1) a2_ a3_ vw_ dd_ ll_ a1_ S_) rfl rfl (by decide) (vc_108 (2 * a1_ + 1) a2_ a3_ vw_ dd_ ll_ a1_ S_ hI_ (by exact (hF_.2.1 6 0 0 rfl).trans hd_) (by exact (hF_.2.1 6 0 1 rfl).trans hc_) (by omega) (by omega) (by (first | omega | (rw [hF_.1 6 0 11 rfl]; omega))) (by (rw [fr_arr (t := 55) (i := 0 + ll_) hF_ rfl, fr_arr (t := 65) (i := 0) hF_ rfl]; rcases his_ with w9_ | w9_; (left; omega); (right; exact ⟨w9_.1, by omega, by omega, w9_.2⟩))) (by (rw [fr_arr (t := 59) (i := 0) hF_ rfl]; exact mcs_fr hcs_ hF_)) (by (rw [hF_.1 3 dd_ 1 rfl, hF_.1 3 dd_ 2 rfl]; exact hv1_))) (fun u_ Sx4_ px7_ => ?_)
        obtain ⟨rfl, hIx5_, hFx6_, px7_⟩ := px7_
        have hFx8_ : ai_fr (sx_W vw_107) S0_ Sx4_ := ai_fr_tr hF_ (fr_le hFx6_ rfl)
        have o114_ : wo3 (1 + S0_.1 3 dd_ 1 + S0_.1 3 dd_ 2) a1_ ll_ Sx4_ (2 * a1_ + 1).toNat := by (have z9_ := px7_.1; rw [f1_, f2_] at z9_; exact z9_)
        have w114_ := px7_.2
        have x114_ : wo3 (1 + S0_.1 3 dd_ 1 + S0_.1 3 dd_ 2) a1_ ll_ Sx4_ (2 * a1_).toNat := wo3_cg hv0_ w114_ (by omega) (by omega) (hFx6_.1 5 ll_ 2 rfl) (fr_arr hFx6_ rfl) (fr_arr hFx6_ rfl) (fr_arr hFx6_ rfl) (fun k9_ => (hI_.2 55 (0 + ll_) k9_).2)
        refine sm_T_inc (a := 7) (z := 1) (v := vw_) (w := vw_ + 1) rfl rfl (by omega) (by omega) (by omega) ?_ -- pc_ 117
        refine sm_T_go 1 (c1 := (47, [some (.inr (.inr (some (6, 0)))), some (.inl a1_), some (.inl a2_), some (.inl a3_), some (.inl is_), some (.inl mk_), some (.inl ct), some (.inl (vw_ + 1)), some (.inl tb_)], [], Sx4_)) rfl ?_
        refine sm_T_wk [some (.inr (.inr (some (6, 0)))), some (.inl a1_), some (.inl a2_), some (.inl a3_), some (.inl is_), some (.inl mk_), some (.inl ct), some (.inl (vw_ + 1)), none] (by exact ⟨rfl, rfl, rfl, rfl, rfl, rfl, rfl, rfl, trivial⟩) ?_
        refine ih_.1 is_ mk_ ct (vw_ + 1) Sx4_ hIx5_ hFx8_ ⟨?_, ?_, ?_, ?_, trivial⟩ ?_
        · omega
        · first | exact hv0_ | exact x114_
        · first | exact hv1_ | exact o114_
        · first | exact hf_ | exact wfn_tr hf_ (wfn_l w114_ (by omega))
        · omega
set_option maxHeartbeats 3000000 in
theorem vc_107 {sc_ : Nat × (Nat → Int)} (a1_ : Int) (a2_ : Int) (a3_ : Int) (dd_ : Nat) (ll_ : Nat) (S0_ : sm_S) (hI_ : gi S0_) (hd_ : S0_.2.1 6 0 0 = some dd_) (hc_ : S0_.2.1 6 0 1 = some ll_) (h1_ : 1 ≤ a1_ ∧ a1_ ≤ 1012) (h2_ : 0 ≤ a2_ ∧ a2_ ≤ 11) (h3_ : 0 ≤ a3_ ∧ a3_ < S0_.1 6 0 11) (his_ : (S0_.2.2.1 55 (0 + ll_) a2_.toNat) = 2 ∨ ((S0_.2.2.1 55 (0 + ll_) a2_.toNat) = 3 ∧ S0_.2.2.1 65 0 (3 * a3_ + 2).toNat ≠ -1)) (hcs_ : mcs (npd a1_ (S0_.2.2.1 59 0)) S0_) (hw0_ : wo3 (1 + S0_.1 3 dd_ 1 + S0_.1 3 dd_ 2) a1_ ll_ S0_ (2 * a1_).toNat) (hw1_ : wo3 (1 + S0_.1 3 dd_ 1 + S0_.1 3 dd_ 2) a1_ ll_ S0_ (2 * a1_ + 1).toNat) : sm_T (mt_P sc_) 3 107 (0, [some (.inr (.inr (some (6, 0)))), some (.inl a1_), some (.inl a2_), some (.inl a3_), none, none, none, none, none], [], S0_) (fun ro9_ => ∃ u_ S1_, ro9_ = (.inl u_, S1_, 0) ∧ vq_107 a1_ a2_ a3_ dd_ ll_ S0_ u_ S1_) := by
  have hF_ : ai_fr (sx_W vw_107) S0_ S0_ := ai_fr_rf
  have ck0_ : 0 ≤ S0_.1 6 0 11 ∧ S0_.1 6 0 11 ≤ 1024 := hI_.1 6 0 11 rfl
  refine sm_T_go 1 (c1 := (1, [some (.inr (.inr (some (6, 0)))), some (.inl a1_), some (.inl a2_), some (.inl a3_), none, none, none, none, none], [.inr (.inr (some (6, 0)))], S0_)) rfl ?_
  refine sm_T_gr rfl rfl ((hF_.2.1 6 0 1 rfl).trans hc_) ?_
  refine sm_T_go 2 (c1 := (8, [some (.inr (.inr (some (6, 0)))), some (.inl a1_), some (.inl a2_), some (.inl a3_), none, none, none, none, none], [.inl a2_, .inr (.inr (some (55, (0 + ll_))))], S0_)) rfl ?_
  refine sm_T_iald (n := 12) rfl rfl (by omega) (by omega) ?_
  have bx1_ : 0 ≤ S0_.2.2.1 55 (0 + ll_) a2_.toNat ∧ S0_.2.2.1 55 (0 + ll_) a2_.toNat ≤ 3 := hI_.2 55 (0 + ll_) _
  refine sm_T_go 3 (c1 := (14, [some (.inr (.inr (some (6, 0)))), some (.inl a1_), some (.inl a2_), some (.inl a3_), some (.inl (S0_.2.2.1 55 (0 + ll_) a2_.toNat)), none, none, none, none], [.inl 2, .inl (S0_.2.2.1 55 (0 + ll_) a2_.toNat)], S0_)) rfl ?_
  refine sm_T_br (a := 1) (z := 8) rfl (fun cx2_ => ?_) (fun cx2_ => ?_)
  · have cx2_ : (S0_.2.2.1 55 (0 + ll_) a2_.toNat) ≠ 2 := of_decide_eq_true cx2_
    refine sm_T_go 4 (c1 := (30, [some (.inr (.inr (some (6, 0)))), some (.inl a1_), some (.inl a2_), some (.inl a3_), some (.inl (S0_.2.2.1 55 (0 + ll_) a2_.toNat)), some (.inl 255), none, none, none], [.inl 2, .inl (S0_.2.2.1 55 (0 + ll_) a2_.toNat)], S0_)) rfl ?_
    refine sm_T_br (a := 1) (z := 7) rfl (fun cx3_ => ?_) (fun cx3_ => ?_)
    · have cx3_ : (S0_.2.2.1 55 (0 + ll_) a2_.toNat) ≠ 2 := of_decide_eq_true cx3_
      refine sm_T_go 2 (c1 := (41, [some (.inr (.inr (some (6, 0)))), some (.inl a1_), some (.inl a2_), some (.inl a3_), some (.inl (S0_.2.2.1 55 (0 + ll_) a2_.toNat)), some (.inl 255), none, none, none], [.inl (S0_.2.2.1 55 (0 + ll_) a2_.toNat), .inl 6], S0_)) rfl ?_
      refine sm_T_bin (w := (i_shl 6 (S0_.2.2.1 55 (0 + ll_) a2_.toNat))) rfl rfl ?_ -- pc_ 41
      have vp9_ := vpw (e_ := (S0_.2.2.1 55 (0 + ll_) a2_.toNat)) (by omega)
      refine sm_T_go 3 (c1 := (47, [some (.inr (.inr (some (6, 0)))), some (.inl a1_), some (.inl a2_), some (.inl a3_), some (.inl (S0_.2.2.1 55 (0 + ll_) a2_.toNat)), some (.inl 255), some (.inl (i_shl 6 (S0_.2.2.1 55 (0 + ll_) a2_.toNat))), some (.inl 0), none], [], S0_)) rfl ?_
      refine (vl_107 a1_ a2_ a3_ dd_ ll_ S0_ hd_ hc_ h1_ h2_ h3_ his_ hcs_ hw0_ hw1_ _).1 (S0_.2.2.1 55 (0 + ll_) a2_.toNat) 255 (i_shl 6 (S0_.2.2.1 55 (0 + ll_) a2_.toNat)) 0 S0_ hI_ hF_ ⟨?_, ?_, ?_, ?_, trivial⟩ (Nat.lt_succ_self _)
      · omega
      · exact hw0_
      · exact hw1_
      · exact wfn_rf
    · have cx3_ : ¬ ((S0_.2.2.1 55 (0 + ll_) a2_.toNat) ≠ 2) := of_decide_eq_false cx3_
      refine sm_T_go 3 (c1 := (41, [some (.inr (.inr (some (6, 0)))), some (.inl a1_), some (.inl a2_), some (.inl a3_), some (.inl (S0_.2.2.1 55 (0 + ll_) a2_.toNat)), some (.inl 255), none, none, none], [.inl (S0_.2.2.1 55 (0 + ll_) a2_.toNat), .inl 2], S0_)) rfl ?_
      refine sm_T_bin (w := (i_shl 2 (S0_.2.2.1 55 (0 + ll_) a2_.toNat))) rfl rfl ?_ -- pc_ 41
      have vp9_ := vpw (e_ := (S0_.2.2.1 55 (0 + ll_) a2_.toNat)) (by omega)
      refine sm_T_go 3 (c1 := (47, [some (.inr (.inr (some (6, 0)))), some (.inl a1_), some (.inl a2_), some (.inl a3_), some (.inl (S0_.2.2.1 55 (0 + ll_) a2_.toNat)), some (.inl 255), some (.inl (i_shl 2 (S0_.2.2.1 55 (0 + ll_) a2_.toNat))), some (.inl 0), none], [], S0_)) rfl ?_
      refine (vl_107 a1_ a2_ a3_ dd_ ll_ S0_ hd_ hc_ h1_ h2_ h3_ his_ hcs_ hw0_ hw1_ _).1 (S0_.2.2.1 55 (0 + ll_) a2_.toNat) 255 (i_shl 2 (S0_.2.2.1 55 (0 + ll_) a2_.toNat)) 0 S0_ hI_ hF_ ⟨?_, ?_, ?_, ?_, trivial⟩ (Nat.lt_succ_self _)
      · omega
      · exact hw0_
      · exact hw1_
      · exact wfn_rf
  · have cx2_ : ¬ ((S0_.2.2.1 55 (0 + ll_) a2_.toNat) ≠ 2) := of_decide_eq_false cx2_
    refine sm_T_go 5 (c1 := (30, [some (.inr (.inr (some (6, 0)))), some (.inl a1_), some (.inl a2_), some (.inl a3_), some (.inl (S0_.2.2.1 55 (0 + ll_) a2_.toNat)), some (.inl 15), none, none, none], [.inl 2, .inl (S0_.2.2.1 55 (0 + ll_) a2_.toNat)], S0_)) rfl ?_
    refine sm_T_br (a := 1) (z := 7) rfl (fun cx6_ => ?_) (fun cx6_ => ?_)
    · have cx6_ : (S0_.2.2.1 55 (0 + ll_) a2_.toNat) ≠ 2 := of_decide_eq_true cx6_
      exfalso; omega
    · have cx6_ : ¬ ((S0_.2.2.1 55 (0 + ll_) a2_.toNat) ≠ 2) := of_decide_eq_false cx6_
      refine sm_T_go 3 (c1 := (41, [some (.inr (.inr (some (6, 0)))), some (.inl a1_), some (.inl a2_), some (.inl a3_), some (.inl (S0_.2.2.1 55 (0 + ll_) a2_.toNat)), some (.inl 15), none, none, none], [.inl (S0_.2.2.1 55 (0 + ll_) a2_.toNat), .inl 2], S0_)) rfl ?_
      refine sm_T_bin (w := (i_shl 2 (S0_.2.2.1 55 (0 + ll_) a2_.toNat))) rfl rfl ?_ -- pc_ 41
      have vp9_ := vpw (e_ := (S0_.2.2.1 55 (0 + ll_) a2_.toNat)) (by omega)
      refine sm_T_go 3 (c1 := (47, [some (.inr (.inr (some (6, 0)))), some (.inl a1_), some (.inl a2_), some (.inl a3_), some (.inl (S0_.2.2.1 55 (0 + ll_) a2_.toNat)), some (.inl 15), some (.inl (i_shl 2 (S0_.2.2.1 55 (0 + ll_) a2_.toNat))), some (.inl 0), none], [], S0_)) rfl ?_
      refine (vl_107 a1_ a2_ a3_ dd_ ll_ S0_ hd_ hc_ h1_ h2_ h3_ his_ hcs_ hw0_ hw1_ _).1 (S0_.2.2.1 55 (0 + ll_) a2_.toNat) 15 (i_shl 2 (S0_.2.2.1 55 (0 + ll_) a2_.toNat)) 0 S0_ hI_ hF_ ⟨?_, ?_, ?_, ?_, trivial⟩ (Nat.lt_succ_self _)
      · omega
      · exact hw0_
      · exact hw1_
      · exact wfn_rf
