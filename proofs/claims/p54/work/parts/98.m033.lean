/-! 99.ztZB -/
section
/-! the mapper: collecting cuts; written by wip/p55/gen/vg -/

/-! collecting cuts -/
theorem ins_k {x_ : Nat} : ∀ {l_ : List Nat}, (ins x_ l_).length ≤ l_.length + 1
  | [] => Nat.le_refl _
  | y_ :: l_ => by
    have ih_ := ins_k (x_ := x_) (l_ := l_)
    rw [ins_c]
    split
    · exact Nat.le_refl _
    · split
      · exact Nat.le_succ _
      · show (ins x_ l_).length + 1 ≤ l_.length + 1 + 1
        omega
theorem ins_2 {a_ b_ : Nat} : ins b_ (ins a_ []) = ins a_ [b_] := ris_u (ins_r (ins_r trivial)) (ins_r (ins_r (l_ := []) trivial)) (fun z_ => by
  show z_ ∈ ins b_ [a_] ↔ z_ ∈ ins a_ [b_]
  rw [ins_m, ins_m, List.mem_singleton, List.mem_singleton]
  constructor
  · rintro (h_ | h_)
    · exact Or.inr h_
    · exact Or.inl h_
  · rintro (h_ | h_)
    · exact Or.inr h_
    · exact Or.inl h_)
theorem mbl_0 {S_ : sm_S} (h_ : S_.1 6 0 13 = 0) : mbl [] S_ ∧ ris [] := ⟨⟨h_, fun j_ x_ q_ => by
  have q_ : (none : Option Nat) = some x_ := q_
  cases q_⟩, trivial⟩
theorem cbl_0 {S_ : sm_S} (h_ : S_.1 6 0 11 = 0) : cbl [] S_ ∧ ([] : List (List Nat)).length ≤ 1000 := ⟨⟨h_, fun i_ c_ q_ => by
  have q_ : (none : Option (List Nat)) = some c_ := q_
  cases q_⟩, by decide⟩
theorem cbl_fr {w_ : sx_Wl} {L_ : List (List Nat)} {S_ S'_ : sm_S} (h_ : cbl L_ S_) (g_ : ai_fr (sx_W w_) S_ S'_) (a_ : (sx_W w_).1 6 11 = false := by rfl) (b_ : (sx_W w_).2.1 65 = false := by rfl) : cbl L_ S'_ := by
  unfold cbl
  rw [g_.1 6 0 11 a_, fr_arr (t := 65) g_ b_]
  exact h_

/-! Mapper.collectCuts -/
def vw_100n : sx_Wl := ([(6, 11), (6, 13)], [65, 68], [])
def vq_100n (a1_ : Int) (dd_ : Nat) (F_ : Nat) (S0_ : sm_S) (u_ : Option sm_V) (S1_ : sm_S) : Prop := u_ = none ∧ gi S1_ ∧ ai_fr (sx_W vw_100n) S0_ S1_ ∧ (mcs (npd a1_ (S0_.2.2.1 59 0)) S1_ ∧ ∃ m_ : Nat, cbl (crn (fun x_ => decide (F_ ≤ x_ ∧ S0_.2.2.1 60 0 x_ = 0)) (fun x_ => srp dd_ S0_ (S0_.2.2.1 42 (0 + dd_) x_)) (fun x_ => srp dd_ S0_ (S0_.2.2.1 43 (0 + dd_) x_)) a1_.toNat (m_)) S1_ ∧ (crn (fun x_ => decide (F_ ≤ x_ ∧ S0_.2.2.1 60 0 x_ = 0)) (fun x_ => srp dd_ S0_ (S0_.2.2.1 42 (0 + dd_) x_)) (fun x_ => srp dd_ S0_ (S0_.2.2.1 43 (0 + dd_) x_)) a1_.toNat (m_)).length ≤ m_ / 3)
set_option maxHeartbeats 3000000 in
theorem vl_100n {sc_ : Nat × (Nat → Int)} (a1_ : Int) (dd_ : Nat) (F_ : Nat) (S0_ : sm_S) (hd_ : S0_.2.1 6 0 0 = some dd_) (hg_ : dgr dd_ F_ S0_) (hs_ : swp dd_ F_ S0_) (hk_ : mkd dd_ F_ S0_ (S0_.2.2.1 59 0)) (h1_ : (F_ : Int) ≤ a1_ ∧ a1_ < S0_.1 3 dd_ 4) (hn_ : S0_.2.2.1 59 0 a1_.toNat = 1) (hlm_ : ∀ m_ : Nat, (crn (fun x_ => decide (F_ ≤ x_ ∧ S0_.2.2.1 60 0 x_ = 0)) (fun x_ => srp dd_ S0_ (S0_.2.2.1 42 (0 + dd_) x_)) (fun x_ => srp dd_ S0_ (S0_.2.2.1 43 (0 + dd_) x_)) a1_.toNat (m_)).length ≤ 1000) : ∀ nn_ : Nat, (∀ (i9_ : Int) (S_ : sm_S), gi S_ → ai_fr (sx_W vw_100n) S0_ S_ → ((cbl (crn (fun x_ => decide (F_ ≤ x_ ∧ S0_.2.2.1 60 0 x_ = 0)) (fun x_ => srp dd_ S0_ (S0_.2.2.1 42 (0 + dd_) x_)) (fun x_ => srp dd_ S0_ (S0_.2.2.1 43 (0 + dd_) x_)) a1_.toNat (3 * i9_.toNat)) S_) ∧ (0 ≤ i9_ ∧ i9_ ≤ 1024) ∧ (mcs (npd a1_ (S0_.2.2.1 59 0)) S_) ∧ True) → ((10 * (2000 - i9_) + 9).toNat) < nn_ → sm_T (mt_P sc_) 2 100 (34, [some (.inr (.inr (some (6, 0)))), some (.inl a1_), some (.inl i9_), none, none], [], S_) (fun ro9_ => ∃ u_ S1_, ro9_ = (.inl u_, S1_, 0) ∧ vq_100n a1_ dd_ F_ S0_ u_ S1_)) ∧ (∀ (i9_ : Int) (k_ : Int) (S_ : sm_S), gi S_ → ai_fr (sx_W vw_100n) S0_ S_ → ((cbl (crn (fun x_ => decide (F_ ≤ x_ ∧ S0_.2.2.1 60 0 x_ = 0)) (fun x_ => srp dd_ S0_ (S0_.2.2.1 42 (0 + dd_) x_)) (fun x_ => srp dd_ S0_ (S0_.2.2.1 43 (0 + dd_) x_)) a1_.toNat (3 * i9_.toNat + k_.toNat)) S_) ∧ (0 ≤ i9_ ∧ i9_ < 1024 ∧ 0 ≤ k_ ∧ k_ ≤ 3 ∧ i9_ < S_.1 6 0 11) ∧ (mcs (npd a1_ (S0_.2.2.1 59 0)) S_) ∧ True) → ((10 * (2000 - i9_) + 8 - k_).toNat) < nn_ → sm_T (mt_P sc_) 2 100 (51, [some (.inr (.inr (some (6, 0)))), some (.inl a1_), some (.inl i9_), some (.inl k_), none], [], S_) (fun ro9_ => ∃ u_ S1_, ro9_ = (.inl u_, S1_, 0) ∧ vq_100n a1_ dd_ F_ S0_ u_ S1_)) := by
  intro nn_
  induction nn_ with
  | zero => exact ⟨fun _ _ _ _ _ h_ => absurd h_ (Nat.not_lt_zero _), fun _ _ _ _ _ _ h_ => absurd h_ (Nat.not_lt_zero _)⟩
  | succ nn_ ih_ =>
    refine ⟨?_, ?_⟩
    · rintro i9_ S_ hI_ hF_ ⟨hcb_, h0_, hcs_, -⟩ hm_
      have f59_ : S_.2.2.1 59 0 = S0_.2.2.1 59 0 := fr_arr hF_ rfl
      have f42_ : S_.2.2.1 42 (0 + dd_) = S0_.2.2.1 42 (0 + dd_) := fr_arr hF_ rfl
      have f43_ : S_.2.2.1 43 (0 + dd_) = S0_.2.2.1 43 (0 + dd_) := fr_arr hF_ rfl
      have f44_ : S_.2.2.1 44 (0 + dd_) = S0_.2.2.1 44 (0 + dd_) := fr_arr hF_ rfl
      have f4_ : S_.1 3 dd_ 4 = S0_.1 3 dd_ 4 := hF_.1 3 dd_ 4 rfl
      have f1_ : S_.1 3 dd_ 1 = S0_.1 3 dd_ 1 := hF_.1 3 dd_ 1 rfl
      have f2_ : S_.1 3 dd_ 2 = S0_.1 3 dd_ 2 := hF_.1 3 dd_ 2 rfl
      have ck_ : 0 ≤ S_.1 6 0 11 ∧ S_.1 6 0 11 ≤ 1024 := hI_.1 6 0 11 rfl
      have g1_ := hg_.1
      have g2_ := hg_.2.1
      have n13_ : 0 ≤ S_.1 3 dd_ 4 ∧ S_.1 3 dd_ 4 ≤ 1013 := hI_.1 3 dd_ 4 rfl
      have bx1_ : 0 ≤ S_.1 6 0 11 ∧ S_.1 6 0 11 ≤ 1024 := hI_.1 6 0 11 rfl
      refine sm_T_go 3 (c1 := (39, [some (.inr (.inr (some (6, 0)))), some (.inl a1_), some (.inl i9_), none, none], [.inl (S_.1 6 0 11), .inl i9_], S_)) rfl ?_
      refine sm_T_br (a := 3) (z := 121) rfl (fun cx2_ => ?_) (fun cx2_ => ?_)
      · have cx2_ : (S_.1 6 0 11) ≤ i9_ := of_decide_eq_true cx2_
        refine sm_T_rv rfl ⟨_, _, rfl, rfl, hI_, hF_, ?_⟩
        exact ⟨hcs_, 3 * i9_.toNat, hcb_, by (have z9_ := hcb_.1; omega)⟩
      · have cx2_ : ¬ ((S_.1 6 0 11) ≤ i9_) := of_decide_eq_false cx2_
        refine sm_T_go 2 (c1 := (46, [some (.inr (.inr (some (6, 0)))), some (.inl a1_), some (.inl i9_), none, none], [.inl 1024, .inl i9_], S_)) rfl ?_
        refine sm_T_br (a := 3) (z := 114) rfl (fun cx3_ => ?_) (fun cx3_ => ?_)
        · have cx3_ : 1024 ≤ i9_ := of_decide_eq_true cx3_
          refine sm_T_rv rfl ⟨_, _, rfl, rfl, hI_, hF_, ?_⟩
          exact ⟨hcs_, 3 * i9_.toNat, hcb_, by (have z9_ := hcb_.1; omega)⟩
        · have cx3_ : ¬ (1024 ≤ i9_) := of_decide_eq_false cx3_
          refine sm_T_go 2 (c1 := (51, [some (.inr (.inr (some (6, 0)))), some (.inl a1_), some (.inl i9_), some (.inl 0), none], [], S_)) rfl ?_
          refine ih_.2 i9_ 0 S_ hI_ hF_ ⟨?_, ?_, ?_, trivial⟩ ?_
          · exact hcb_
          · omega
          · exact hcs_
          · omega
    · rintro i9_ k_ S_ hI_ hF_ ⟨hcb_, h0_, hcs_, -⟩ hm_
      have f59_ : S_.2.2.1 59 0 = S0_.2.2.1 59 0 := fr_arr hF_ rfl
      have f42_ : S_.2.2.1 42 (0 + dd_) = S0_.2.2.1 42 (0 + dd_) := fr_arr hF_ rfl
      have f43_ : S_.2.2.1 43 (0 + dd_) = S0_.2.2.1 43 (0 + dd_) := fr_arr hF_ rfl
      have f44_ : S_.2.2.1 44 (0 + dd_) = S0_.2.2.1 44 (0 + dd_) := fr_arr hF_ rfl
      have f4_ : S_.1 3 dd_ 4 = S0_.1 3 dd_ 4 := hF_.1 3 dd_ 4 rfl
      have f1_ : S_.1 3 dd_ 1 = S0_.1 3 dd_ 1 := hF_.1 3 dd_ 1 rfl
      have f2_ : S_.1 3 dd_ 2 = S0_.1 3 dd_ 2 := hF_.1 3 dd_ 2 rfl
      have ck_ : 0 ≤ S_.1 6 0 11 ∧ S_.1 6 0 11 ≤ 1024 := hI_.1 6 0 11 rfl
      have g1_ := hg_.1
      have g2_ := hg_.2.1
      have n13_ : 0 ≤ S_.1 3 dd_ 4 ∧ S_.1 3 dd_ 4 ≤ 1013 := hI_.1 3 dd_ 4 rfl
      refine sm_T_go 2 (c1 := (53, [some (.inr (.inr (some (6, 0)))), some (.inl a1_), some (.inl i9_), some (.inl k_), none], [.inl 3, .inl k_], S_)) rfl ?_
      refine sm_T_br (a := 3) (z := 101) rfl (fun cx1_ => ?_) (fun cx1_ => ?_)
      · have cx1_ : 3 ≤ k_ := of_decide_eq_true cx1_
        refine sm_T_inc (a := 2) (z := 1) (v := i9_) (w := i9_ + 1) rfl rfl (by omega) (by omega) (by omega) ?_ -- pc_ 154
        refine sm_T_go 1 (c1 := (34, [some (.inr (.inr (some (6, 0)))), some (.inl a1_), some (.inl (i9_ + 1)), some (.inl k_), none], [], S_)) rfl ?_
        refine sm_T_wk [some (.inr (.inr (some (6, 0)))), some (.inl a1_), some (.inl (i9_ + 1)), none, none] (by exact ⟨rfl, rfl, rfl, trivial⟩) ?_
        refine ih_.1 (i9_ + 1) S_ hI_ hF_ ⟨?_, ?_, ?_, trivial⟩ ?_
        · rw [show 3 * (i9_ + 1).toNat = 3 * i9_.toNat + k_.toNat by omega]
          exact hcb_
        · omega
        · exact hcs_
        · omega
      · have cx1_ : ¬ (3 ≤ k_) := of_decide_eq_false cx1_
        refine sm_T_go 4 (c1 := (62, [some (.inr (.inr (some (6, 0)))), some (.inl a1_), some (.inl i9_), some (.inl k_), none], [.inl i9_, .inl 3, .inr (.inr (some (65, 0)))], S_)) rfl ?_
        refine sm_T_bin (w := 3 * i9_) rfl (bi_mul (by omega) (by omega) (by omega)) ?_ -- pc_ 62
        refine sm_T_go 1 (c1 := (64, [some (.inr (.inr (some (6, 0)))), some (.inl a1_), some (.inl i9_), some (.inl k_), none], [.inl k_, .inl (3 * i9_), .inr (.inr (some (65, 0)))], S_)) rfl ?_
        refine sm_T_bin (w := 3 * i9_ + k_) rfl (bi_add (by omega) (by omega) (by omega)) ?_ -- pc_ 64
        refine sm_T_iald (n := 3072) rfl rfl (by omega) (by omega) ?_
        have bx2_ : (-1) ≤ S_.2.2.1 65 0 (3 * i9_ + k_).toNat ∧ S_.2.2.1 65 0 (3 * i9_ + k_).toNat ≤ 1012 := hI_.2 65 0 _
        refine sm_T_go 3 (c1 := (71, [some (.inr (.inr (some (6, 0)))), some (.inl a1_), some (.inl i9_), some (.inl k_), some (.inl (S_.2.2.1 65 0 (3 * i9_ + k_).toNat))], [.inl (-1), .inl (S_.2.2.1 65 0 (3 * i9_ + k_).toNat)], S_)) rfl ?_
        refine sm_T_br (a := 0) (z := 77) rfl (fun cx3_ => ?_) (fun cx3_ => ?_)
        · have cx3_ : (S_.2.2.1 65 0 (3 * i9_ + k_).toNat) = (-1) := of_decide_eq_true cx3_
          refine sm_T_inc (a := 3) (z := 1) (v := k_) (w := k_ + 1) rfl rfl (by omega) (by omega) (by omega) ?_ -- pc_ 148
          refine sm_T_go 1 (c1 := (51, [some (.inr (.inr (some (6, 0)))), some (.inl a1_), some (.inl i9_), some (.inl (k_ + 1)), some (.inl (S_.2.2.1 65 0 (3 * i9_ + k_).toNat))], [], S_)) rfl ?_
          refine sm_T_wk [some (.inr (.inr (some (6, 0)))), some (.inl a1_), some (.inl i9_), some (.inl (k_ + 1)), none] (by exact ⟨rfl, rfl, rfl, rfl, trivial⟩) ?_
          refine ih_.2 i9_ (k_ + 1) S_ hI_ hF_ ⟨?_, ?_, ?_, trivial⟩ ?_
          · first | (obtain ⟨c9_, hc9_, hl9_, hv9_⟩ := cbl_g (i_ := i9_.toNat) (k_ := k_.toNat) hcb_ (by omega) (by omega); have vk9_ := hv9_ k_.toNat (by omega); rw [show 3 * i9_.toNat + k_.toNat = (3 * i9_ + k_).toNat by omega] at vk9_; rw [show (k_ + 1).toNat = k_.toNat + 1 by omega, crn_o (by omega) hc9_ (Or.inl (cva_z (by omega)))]; exact hcb_) | (rw [show (k_ + 1).toNat = k_.toNat + 1 by omega, crn_o (by omega) hc9_ (Or.inr ⟨_, xk9_, decide_eq_false (by (rw [← f60_]; omega))⟩)]; exact hcb_) | (rw [show (k_ + 1).toNat = k_.toNat + 1 by omega, crn_a (by omega) hc9_ xk9_ (decide_eq_true (by (rw [← f60_]; omega)))]; rw [new_e hl9_.1 hl9_.2 xk9_ m19_ m29_] at d145_; exact d145_)
          · first | omega | (have q9_ := a145_.2; omega)
          · first | exact hcs_ | exact a145_.1
          · omega
        · have cx3_ : ¬ ((S_.2.2.1 65 0 (3 * i9_ + k_).toNat) = (-1)) := of_decide_eq_false cx3_
          obtain ⟨c9_, hc9_, hl9_, hv9_⟩ := cbl_g (i_ := i9_.toNat) (k_ := k_.toNat) hcb_ (by omega) (by omega)
          have vk9_ := hv9_ k_.toNat (by omega)
          rw [show 3 * i9_.toNat + k_.toNat = (3 * i9_ + k_).toNat by omega] at vk9_
          have xk9_ := cva_x vk9_.symm (by omega)
          have g19_ : S_.2.2.1 65 0 (3 * i9_ + (k_ + 1) % 3).toNat = cva c9_ ((k_.toNat + 1) % 3) := by (have z9_ := hv9_ ((k_.toNat + 1) % 3) (by omega); rw [show 3 * i9_.toNat + (k_.toNat + 1) % 3 = (3 * i9_ + (k_ + 1) % 3).toNat by omega] at z9_; exact z9_)
          have g29_ : S_.2.2.1 65 0 (3 * i9_ + (k_ + 2) % 3).toNat = cva c9_ ((k_.toNat + 2) % 3) := by (have z9_ := hv9_ ((k_.toNat + 2) % 3) (by omega); rw [show 3 * i9_.toNat + (k_.toNat + 2) % 3 = (3 * i9_ + (k_ + 2) % 3).toNat by omega] at z9_; exact z9_)
          have m19_ : (-1) ≤ cva c9_ ((k_.toNat + 1) % 3) := by (have z9_ : (-1) ≤ S_.2.2.1 65 0 (3 * i9_ + (k_ + 1) % 3).toNat ∧ S_.2.2.1 65 0 (3 * i9_ + (k_ + 1) % 3).toNat ≤ 1012 := hI_.2 65 0 _; rw [g19_] at z9_; exact z9_.1)
          have m29_ : (-1) ≤ cva c9_ ((k_.toNat + 2) % 3) := by (have z9_ : (-1) ≤ S_.2.2.1 65 0 (3 * i9_ + (k_ + 2) % 3).toNat ∧ S_.2.2.1 65 0 (3 * i9_ + (k_ + 2) % 3).toNat ≤ 1012 := hI_.2 65 0 _; rw [g29_] at z9_; exact z9_.1)
          have f60_ : S_.2.2.1 60 0 = S0_.2.2.1 60 0 := fr_arr hF_ rfl
          have pn9_ := mcs_a hcs_ (i_ := i9_) (k_ := k_) (by omega) (by omega) (by omega)
          have pn8_ := pn9_.1
          have pn7_ := pn9_.2.1
          have pn6_ := pn9_.2.2
          refine sm_T_go 2 (c1 := (77, [some (.inr (.inr (some (6, 0)))), some (.inl a1_), some (.inl i9_), some (.inl k_), some (.inl (S_.2.2.1 65 0 (3 * i9_ + k_).toNat))], [.inl (S_.2.2.1 65 0 (3 * i9_ + k_).toNat), .inr (.inr (some (6, 0)))], S_)) rfl ?_
          refine sm_T_cal (d1 := 1) (Q1 := vq_94 (S_.2.2.1 65 0 (3 * i9_ + k_).toNat) dd_ S_) rfl rfl (by decide) (vc_94 (S_.2.2.1 65 0 (3 * i9_ + k_).toNat) dd_ S_ hI_ (by exact (hF_.2.1 6 0 0 rfl).trans hd_) (by omega)) (fun u_ Sx4_ px7_ => ?_)
          obtain ⟨rfl, vx9_, rfl, px7_⟩ := px7_
          have lf9_ := px7_
          rw [f1_, f2_] at lf9_
          refine sm_T_b0 (a := 1) (z := 68) rfl (fun cx10_ => ?_) (fun cx10_ => ?_)
          · have cx10_ : vx9_ ≠ 0 := of_decide_eq_true cx10_
            refine sm_T_inc (a := 3) (z := 1) (v := k_) (w := k_ + 1) rfl rfl (by omega) (by omega) (by omega) ?_ -- pc_ 148
            refine sm_T_go 1 (c1 := (51, [some (.inr (.inr (some (6, 0)))), some (.inl a1_), some (.inl i9_), some (.inl (k_ + 1)), some (.inl (S_.2.2.1 65 0 (3 * i9_ + k_).toNat))], [], S_)) rfl ?_
            refine sm_T_wk [some (.inr (.inr (some (6, 0)))), some (.inl a1_), some (.inl i9_), some (.inl (k_ + 1)), none] (by exact ⟨rfl, rfl, rfl, rfl, trivial⟩) ?_
            refine ih_.2 i9_ (k_ + 1) S_ hI_ hF_ ⟨?_, ?_, ?_, trivial⟩ ?_
            · first | (obtain ⟨c9_, hc9_, hl9_, hv9_⟩ := cbl_g (i_ := i9_.toNat) (k_ := k_.toNat) hcb_ (by omega) (by omega); have vk9_ := hv9_ k_.toNat (by omega); rw [show 3 * i9_.toNat + k_.toNat = (3 * i9_ + k_).toNat by omega] at vk9_; rw [show (k_ + 1).toNat = k_.toNat + 1 by omega, crn_o (by omega) hc9_ (Or.inl (cva_z (by omega)))]; exact hcb_) | (rw [show (k_ + 1).toNat = k_.toNat + 1 by omega, crn_o (by omega) hc9_ (Or.inr ⟨_, xk9_, decide_eq_false (by (rw [← f60_]; omega))⟩)]; exact hcb_) | (rw [show (k_ + 1).toNat = k_.toNat + 1 by omega, crn_a (by omega) hc9_ xk9_ (decide_eq_true (by (rw [← f60_]; omega)))]; rw [new_e hl9_.1 hl9_.2 xk9_ m19_ m29_] at d145_; exact d145_)
            · first | omega | (have q9_ := a145_.2; omega)
            · first | exact hcs_ | exact a145_.1
            · omega
          · have cx10_ : ¬ (vx9_ ≠ 0) := of_decide_eq_false cx10_
            have nd9_ := nd_p hg_ hs_ hk_ (by omega) (x_ := (S_.2.2.1 65 0 (3 * i9_ + k_).toNat).toNat) (by omega) (by omega) pn6_
            have hIx11_ : gi (sm_pI S_ 6 0 13 0) := gi_pI hI_ (show 0 ≤ 0 ∧ 0 ≤ 4 from ⟨by omega, by omega⟩)
            have hFx12_ : ai_fr (sx_W vw_100n) S0_ (sm_pI S_ 6 0 13 0) := ai_fr_tr hF_ (ai_fr_pI rfl)
            refine sm_T_go 6 (c1 := (92, [some (.inr (.inr (some (6, 0)))), some (.inl a1_), some (.inl i9_), some (.inl k_), some (.inl (S_.2.2.1 65 0 (3 * i9_ + k_).toNat))], [.inl (S_.2.2.1 65 0 (3 * i9_ + k_).toNat), .inr (.inr (some (6, 0))), .inr (.inr (some (6, 0)))], sm_pI S_ 6 0 13 0)) rfl ?_
            refine sm_T_cal (d1 := 1) (Q1 := vq_92 (S_.2.2.1 65 0 (3 * i9_ + k_).toNat) dd_ (sm_pI S_ 6 0 13 0)) rfl rfl (by decide) (vc_92 (S_.2.2.1 65 0 (3 * i9_ + k_).toNat) dd_ (sm_pI S_ 6 0 13 0) hIx11_ (by exact (hFx12_.2.1 6 0 0 rfl).trans hd_) (by omega)) (fun u_ Sx13_ px16_ => ?_)
            obtain ⟨rfl, vx18_, rfl, px16_⟩ := px16_
            have l92_ := px16_.1
            have v92_ : vx18_ = (srp dd_ S0_ (S0_.2.2.1 42 (0 + dd_) (S_.2.2.1 65 0 (3 * i9_ + k_).toNat).toNat) : Int) := by (have q9_ := px16_.2 F_ (dgr_fr hg_ hFx12_ rfl rfl rfl rfl rfl) (swp_fr hs_ hFx12_ rfl rfl rfl rfl) (by omega) (by rw [hFx12_.1 3 dd_ 4 rfl]; omega); unfold srp at q9_ ⊢; rw [fr_arr (t := 44) (i := 0 + dd_) hFx12_ rfl, fr_arr (t := 42) (i := 0 + dd_) hFx12_ rfl] at q9_; exact q9_)
            have w92_ : (npd a1_ (S0_.2.2.1 59 0)) vx18_ := ⟨by omega, by omega, by (rw [show (vx18_).toNat = srp dd_ S0_ (S0_.2.2.1 42 (0 + dd_) (S_.2.2.1 65 0 (3 * i9_ + k_).toNat).toNat) by omega]; exact nd9_.1.2.2)⟩
            refine sm_T_cal (d1 := 0) (Q1 := vq_101n vx18_ (npd a1_ (S0_.2.2.1 59 0)) [] (sm_pI S_ 6 0 13 0)) rfl rfl (by decide) (vc_101n vx18_ (npd a1_ (S0_.2.2.1 59 0)) [] (sm_pI S_ 6 0 13 0) hIx11_ (by exact mbl_0 rf_eq) (by omega) (by (rw [rf_eq]; decide)) (by (rw [rf_eq]; exact mms_0)) (by (intro _; exact w92_))) (fun u_ Sx19_ px22_ => ?_)
            obtain ⟨rfl, hIx20_, hFx21_, px22_⟩ := px22_
            have hFx23_ : ai_fr (sx_W vw_100n) S0_ Sx19_ := ai_fr_tr hFx12_ (fr_le hFx21_ rfl)
            have a95_ := px22_
            have b95_ : mbl (ins (srp dd_ S0_ (S0_.2.2.1 42 (0 + dd_) (S_.2.2.1 65 0 (3 * i9_ + k_).toNat).toNat)) []) Sx19_ := by (have z9_ := (px22_).2.2.2.2.2.2; rw [v92_, if_neg (by omega), Int.toNat_natCast] at z9_; exact z9_)
            have s95_ : Sx19_.1 6 0 13 = 1 := by (have q9_ := a95_.1; have q8_ := a95_.2.1; have q7_ := a95_.2.2.2.1 (by omega); rw [rf_eq] at q9_ q8_; omega)
            have z95_ := a95_.2.2.2.2.1 ⟨by omega, by rw [rf_eq]⟩
            have k95_ : Sx19_.1 6 0 11 = S_.1 6 0 11 := hFx21_.1 6 0 11 rfl
            have j95_ : Sx19_.2.2.1 65 0 = S_.2.2.1 65 0 := funext fun q9_ => (hFx21_.2.2 65 rfl 0 q9_).1
            refine sm_T_go 3 (c1 := (102, [some (.inr (.inr (some (6, 0)))), some (.inl a1_), some (.inl i9_), some (.inl k_), some (.inl (S_.2.2.1 65 0 (3 * i9_ + k_).toNat))], [.inl (S_.2.2.1 65 0 (3 * i9_ + k_).toNat), .inr (.inr (some (6, 0))), .inr (.inr (some (6, 0)))], Sx19_)) rfl ?_
            refine sm_T_cal (d1 := 1) (Q1 := vq_93 (S_.2.2.1 65 0 (3 * i9_ + k_).toNat) dd_ Sx19_) rfl rfl (by decide) (vc_93 (S_.2.2.1 65 0 (3 * i9_ + k_).toNat) dd_ Sx19_ hIx20_ (by exact (hFx23_.2.1 6 0 0 rfl).trans hd_) (by omega)) (fun u_ Sx24_ px27_ => ?_)
            obtain ⟨rfl, vx29_, rfl, px27_⟩ := px27_
            have l102_ := px27_.1
            have v102_ : vx29_ = (srp dd_ S0_ (S0_.2.2.1 43 (0 + dd_) (S_.2.2.1 65 0 (3 * i9_ + k_).toNat).toNat) : Int) := by (have q9_ := px27_.2 F_ (dgr_fr hg_ hFx23_ rfl rfl rfl rfl rfl) (swp_fr hs_ hFx23_ rfl rfl rfl rfl) (by omega) (by rw [hFx23_.1 3 dd_ 4 rfl]; omega); unfold srp at q9_ ⊢; rw [fr_arr (t := 44) (i := 0 + dd_) hFx23_ rfl, fr_arr (t := 43) (i := 0 + dd_) hFx23_ rfl] at q9_; exact q9_)
            have w102_ : (npd a1_ (S0_.2.2.1 59 0)) vx29_ := ⟨by omega, by omega, by (rw [show (vx29_).toNat = srp dd_ S0_ (S0_.2.2.1 43 (0 + dd_) (S_.2.2.1 65 0 (3 * i9_ + k_).toNat).toNat) by omega]; exact nd9_.2.1.2.2)⟩
            refine sm_T_cal (d1 := 0) (Q1 := vq_101n vx29_ (npd a1_ (S0_.2.2.1 59 0)) (ins (srp dd_ S0_ (S0_.2.2.1 42 (0 + dd_) (S_.2.2.1 65 0 (3 * i9_ + k_).toNat).toNat)) []) Sx19_) rfl rfl (by decide) (vc_101n vx29_ (npd a1_ (S0_.2.2.1 59 0)) (ins (srp dd_ S0_ (S0_.2.2.1 42 (0 + dd_) (S_.2.2.1 65 0 (3 * i9_ + k_).toNat).toNat)) []) Sx19_ hIx20_ (by exact ⟨b95_, ins_r trivial⟩) (by omega) (by omega) (by exact a95_.2.2.1) (by (intro _; exact w102_))) (fun u_ Sx30_ px33_ => ?_)
            obtain ⟨rfl, hIx31_, hFx32_, px33_⟩ := px33_
            have hFx34_ : ai_fr (sx_W vw_100n) S0_ Sx30_ := ai_fr_tr hFx23_ (fr_le hFx32_ rfl)
            have a105_ := px33_
            have b105_ : mbl (ins (srp dd_ S0_ (S0_.2.2.1 43 (0 + dd_) (S_.2.2.1 65 0 (3 * i9_ + k_).toNat).toNat)) (ins (srp dd_ S0_ (S0_.2.2.1 42 (0 + dd_) (S_.2.2.1 65 0 (3 * i9_ + k_).toNat).toNat)) [])) Sx30_ := by (have z9_ := (px33_).2.2.2.2.2.2; rw [v102_, if_neg (by omega), Int.toNat_natCast] at z9_; exact z9_)
            have s105_ : Sx30_.1 6 0 13 = 2 := a105_.2.2.2.2.2.1 ⟨by omega, s95_, by rw [z95_]; omega⟩
            have k105_ : Sx30_.1 6 0 11 = S_.1 6 0 11 := (hFx32_.1 6 0 11 rfl).trans k95_
            have j105_ : Sx30_.2.2.1 65 0 = S_.2.2.1 65 0 := (fr_arr hFx32_ rfl).trans j95_
            refine sm_T_go 5 (c1 := (115, [some (.inr (.inr (some (6, 0)))), some (.inl a1_), some (.inl i9_), some (.inl k_), some (.inl (S_.2.2.1 65 0 (3 * i9_ + k_).toNat))], [.inl i9_, .inl 3, .inr (.inr (some (65, 0))), .inr (.inr (some (6, 0)))], Sx30_)) rfl ?_
            refine sm_T_bin (w := 3 * i9_) rfl (bi_mul (by omega) (by omega) (by omega)) ?_ -- pc_ 115
            refine sm_T_go 2 (c1 := (118, [some (.inr (.inr (some (6, 0)))), some (.inl a1_), some (.inl i9_), some (.inl k_), some (.inl (S_.2.2.1 65 0 (3 * i9_ + k_).toNat))], [.inl 1, .inl k_, .inl (3 * i9_), .inr (.inr (some (65, 0))), .inr (.inr (some (6, 0)))], Sx30_)) rfl ?_
            refine sm_T_bin (w := k_ + 1) rfl (bi_add (by omega) (by omega) (by omega)) ?_ -- pc_ 118
            refine sm_T_go 1 (c1 := (120, [some (.inr (.inr (some (6, 0)))), some (.inl a1_), some (.inl i9_), some (.inl k_), some (.inl (S_.2.2.1 65 0 (3 * i9_ + k_).toNat))], [.inl 3, .inl (k_ + 1), .inl (3 * i9_), .inr (.inr (some (65, 0))), .inr (.inr (some (6, 0)))], Sx30_)) rfl ?_
            refine sm_T_bin (w := ((k_ + 1) % 3)) rfl (bi_rem (by omega) (by omega) (by omega) (by omega)) ?_ -- pc_ 120
            refine sm_T_bin (w := 3 * i9_ + ((k_ + 1) % 3)) rfl (bi_add (by omega) (by omega) (by omega)) ?_ -- pc_ 121
            refine sm_T_iald (n := 3072) rfl rfl (by omega) (by omega) ?_
            have bx35_ : (-1) ≤ Sx30_.2.2.1 65 0 (3 * i9_ + ((k_ + 1) % 3)).toNat ∧ Sx30_.2.2.1 65 0 (3 * i9_ + ((k_ + 1) % 3)).toNat ≤ 1012 := hIx31_.2 65 0 _
            refine sm_T_cal (d1 := 0) (Q1 := vq_101n (Sx30_.2.2.1 65 0 (3 * i9_ + ((k_ + 1) % 3)).toNat) (npd a1_ (S0_.2.2.1 59 0)) (ins (srp dd_ S0_ (S0_.2.2.1 43 (0 + dd_) (S_.2.2.1 65 0 (3 * i9_ + k_).toNat).toNat)) (ins (srp dd_ S0_ (S0_.2.2.1 42 (0 + dd_) (S_.2.2.1 65 0 (3 * i9_ + k_).toNat).toNat)) [])) Sx30_) rfl rfl (by decide) (vc_101n (Sx30_.2.2.1 65 0 (3 * i9_ + ((k_ + 1) % 3)).toNat) (npd a1_ (S0_.2.2.1 59 0)) (ins (srp dd_ S0_ (S0_.2.2.1 43 (0 + dd_) (S_.2.2.1 65 0 (3 * i9_ + k_).toNat).toNat)) (ins (srp dd_ S0_ (S0_.2.2.1 42 (0 + dd_) (S_.2.2.1 65 0 (3 * i9_ + k_).toNat).toNat)) [])) Sx30_ hIx31_ (by exact ⟨b105_, ins_r (ins_r trivial)⟩) (by omega) (by omega) (by exact a105_.2.2.1) (by (rw [j105_]; intro u9_; exact mcs_a hcs_ (i_ := i9_) (k_ := (k_ + 1) % 3) (by omega) (by omega) u9_))) (fun u_ Sx36_ px39_ => ?_)
            obtain ⟨rfl, hIx37_, hFx38_, px39_⟩ := px39_
            have hFx40_ : ai_fr (sx_W vw_100n) S0_ Sx36_ := ai_fr_tr hFx34_ (fr_le hFx38_ rfl)
            have a123_ := px39_
            have b123_ : mbl (oinn (cva c9_ ((k_.toNat + 1) % 3)) (ins (srp dd_ S0_ (S0_.2.2.1 43 (0 + dd_) (S_.2.2.1 65 0 (3 * i9_ + k_).toNat).toNat)) (ins (srp dd_ S0_ (S0_.2.2.1 42 (0 + dd_) (S_.2.2.1 65 0 (3 * i9_ + k_).toNat).toNat)) []))) Sx36_ := by (have z9_ := (px39_).2.2.2.2.2.2; rw [j105_, g19_] at z9_; exact z9_)
            have k123_ : Sx36_.1 6 0 11 = S_.1 6 0 11 := (hFx38_.1 6 0 11 rfl).trans k105_
            have j123_ : Sx36_.2.2.1 65 0 = S_.2.2.1 65 0 := (fr_arr hFx38_ rfl).trans j105_
            refine sm_T_go 5 (c1 := (133, [some (.inr (.inr (some (6, 0)))), some (.inl a1_), some (.inl i9_), some (.inl k_), some (.inl (S_.2.2.1 65 0 (3 * i9_ + k_).toNat))], [.inl i9_, .inl 3, .inr (.inr (some (65, 0))), .inr (.inr (some (6, 0)))], Sx36_)) rfl ?_
            refine sm_T_bin (w := 3 * i9_) rfl (bi_mul (by omega) (by omega) (by omega)) ?_ -- pc_ 133
            refine sm_T_go 2 (c1 := (136, [some (.inr (.inr (some (6, 0)))), some (.inl a1_), some (.inl i9_), some (.inl k_), some (.inl (S_.2.2.1 65 0 (3 * i9_ + k_).toNat))], [.inl 2, .inl k_, .inl (3 * i9_), .inr (.inr (some (65, 0))), .inr (.inr (some (6, 0)))], Sx36_)) rfl ?_
            refine sm_T_bin (w := k_ + 2) rfl (bi_add (by omega) (by omega) (by omega)) ?_ -- pc_ 136
            refine sm_T_go 1 (c1 := (138, [some (.inr (.inr (some (6, 0)))), some (.inl a1_), some (.inl i9_), some (.inl k_), some (.inl (S_.2.2.1 65 0 (3 * i9_ + k_).toNat))], [.inl 3, .inl (k_ + 2), .inl (3 * i9_), .inr (.inr (some (65, 0))), .inr (.inr (some (6, 0)))], Sx36_)) rfl ?_
            refine sm_T_bin (w := ((k_ + 2) % 3)) rfl (bi_rem (by omega) (by omega) (by omega) (by omega)) ?_ -- pc_ 138
            refine sm_T_bin (w := 3 * i9_ + ((k_ + 2) % 3)) rfl (bi_add (by omega) (by omega) (by omega)) ?_ -- pc_ 139
            refine sm_T_iald (n := 3072) rfl rfl (by omega) (by omega) ?_
            have bx41_ : (-1) ≤ Sx36_.2.2.1 65 0 (3 * i9_ + ((k_ + 2) % 3)).toNat ∧ Sx36_.2.2.1 65 0 (3 * i9_ + ((k_ + 2) % 3)).toNat ≤ 1012 := hIx37_.2 65 0 _
            refine sm_T_cal (d1 := 0) (Q1 := vq_101n (Sx36_.2.2.1 65 0 (3 * i9_ + ((k_ + 2) % 3)).toNat) (npd a1_ (S0_.2.2.1 59 0)) (oinn (cva c9_ ((k_.toNat + 1) % 3)) (ins (srp dd_ S0_ (S0_.2.2.1 43 (0 + dd_) (S_.2.2.1 65 0 (3 * i9_ + k_).toNat).toNat)) (ins (srp dd_ S0_ (S0_.2.2.1 42 (0 + dd_) (S_.2.2.1 65 0 (3 * i9_ + k_).toNat).toNat)) []))) Sx36_) rfl rfl (by decide) (vc_101n (Sx36_.2.2.1 65 0 (3 * i9_ + ((k_ + 2) % 3)).toNat) (npd a1_ (S0_.2.2.1 59 0)) (oinn (cva c9_ ((k_.toNat + 1) % 3)) (ins (srp dd_ S0_ (S0_.2.2.1 43 (0 + dd_) (S_.2.2.1 65 0 (3 * i9_ + k_).toNat).toNat)) (ins (srp dd_ S0_ (S0_.2.2.1 42 (0 + dd_) (S_.2.2.1 65 0 (3 * i9_ + k_).toNat).toNat)) []))) Sx36_ hIx37_ (by exact ⟨b123_, oinn_r (ins_r (ins_r trivial))⟩) (by omega) (by omega) (by exact a123_.2.2.1) (by (rw [j123_]; intro u9_; exact mcs_a hcs_ (i_ := i9_) (k_ := (k_ + 2) % 3) (by omega) (by omega) u9_))) (fun u_ Sx42_ px45_ => ?_)
            obtain ⟨rfl, hIx43_, hFx44_, px45_⟩ := px45_
            have hFx46_ : ai_fr (sx_W vw_100n) S0_ Sx42_ := ai_fr_tr hFx40_ (fr_le hFx44_ rfl)
            have a141_ := px45_
            have b141_ : mbl (oinn (cva c9_ ((k_.toNat + 2) % 3)) (oinn (cva c9_ ((k_.toNat + 1) % 3)) (ins (srp dd_ S0_ (S0_.2.2.1 43 (0 + dd_) (S_.2.2.1 65 0 (3 * i9_ + k_).toNat).toNat)) (ins (srp dd_ S0_ (S0_.2.2.1 42 (0 + dd_) (S_.2.2.1 65 0 (3 * i9_ + k_).toNat).toNat)) [])))) Sx42_ := by (have z9_ := (px45_).2.2.2.2.2.2; rw [j123_, g29_] at z9_; exact z9_)
            have k141_ : Sx42_.1 6 0 11 = S_.1 6 0 11 := (hFx44_.1 6 0 11 rfl).trans k123_
            have j141_ : Sx42_.2.2.1 65 0 = S_.2.2.1 65 0 := (fr_arr hFx44_ rfl).trans j123_
            have m141_ : mcs (npd a1_ (S0_.2.2.1 59 0)) Sx42_ := by (intro c_ hc_; rw [k141_] at hc_; rw [j141_]; exact hcs_ c_ hc_)
            refine sm_T_go 1 (c1 := (145, [some (.inr (.inr (some (6, 0)))), some (.inl a1_), some (.inl i9_), some (.inl k_), some (.inl (S_.2.2.1 65 0 (3 * i9_ + k_).toNat))], [.inr (.inr (some (6, 0)))], Sx42_)) rfl ?_
            refine sm_T_cal (d1 := 0) (Q1 := vq_102n (npd a1_ (S0_.2.2.1 59 0)) (oinn (cva c9_ ((k_.toNat + 2) % 3)) (oinn (cva c9_ ((k_.toNat + 1) % 3)) (ins (srp dd_ S0_ (S0_.2.2.1 43 (0 + dd_) (S_.2.2.1 65 0 (3 * i9_ + k_).toNat).toNat)) (ins (srp dd_ S0_ (S0_.2.2.1 42 (0 + dd_) (S_.2.2.1 65 0 (3 * i9_ + k_).toNat).toNat)) [])))) (crn (fun x_ => decide (F_ ≤ x_ ∧ S0_.2.2.1 60 0 x_ = 0)) (fun x_ => srp dd_ S0_ (S0_.2.2.1 42 (0 + dd_) x_)) (fun x_ => srp dd_ S0_ (S0_.2.2.1 43 (0 + dd_) x_)) a1_.toNat (3 * i9_.toNat + k_.toNat)) Sx42_) rfl rfl (by decide) (vc_102n (npd a1_ (S0_.2.2.1 59 0)) (oinn (cva c9_ ((k_.toNat + 2) % 3)) (oinn (cva c9_ ((k_.toNat + 1) % 3)) (ins (srp dd_ S0_ (S0_.2.2.1 43 (0 + dd_) (S_.2.2.1 65 0 (3 * i9_ + k_).toNat).toNat)) (ins (srp dd_ S0_ (S0_.2.2.1 42 (0 + dd_) (S_.2.2.1 65 0 (3 * i9_ + k_).toNat).toNat)) [])))) (crn (fun x_ => decide (F_ ≤ x_ ∧ S0_.2.2.1 60 0 x_ = 0)) (fun x_ => srp dd_ S0_ (S0_.2.2.1 42 (0 + dd_) x_)) (fun x_ => srp dd_ S0_ (S0_.2.2.1 43 (0 + dd_) x_)) a1_.toNat (3 * i9_.toNat + k_.toNat)) Sx42_ hIx43_ (by exact b141_) (by exact oinn_r (oinn_r (ins_r (ins_r trivial)))) (by exact ⟨by (refine ⟨k141_.trans hcb_.1, fun i_ c_ q_ => ?_⟩; rw [j141_]; exact hcb_.2 i_ c_ q_), hlm_ _⟩) (by omega) (by exact a141_.2.2.1) (by exact m141_)) (fun u_ Sx47_ px50_ => ?_)
            obtain ⟨rfl, hIx48_, hFx49_, px50_⟩ := px50_
            have hFx51_ : ai_fr (sx_W vw_100n) S0_ Sx47_ := ai_fr_tr hFx46_ (fr_le hFx49_ rfl)
            have a145_ := px50_
            have d145_ := (px50_).2.2
            refine sm_T_inc (a := 3) (z := 1) (v := k_) (w := k_ + 1) rfl rfl (by omega) (by omega) (by omega) ?_ -- pc_ 148
            refine sm_T_go 1 (c1 := (51, [some (.inr (.inr (some (6, 0)))), some (.inl a1_), some (.inl i9_), some (.inl (k_ + 1)), some (.inl (S_.2.2.1 65 0 (3 * i9_ + k_).toNat))], [], Sx47_)) rfl ?_
            refine sm_T_wk [some (.inr (.inr (some (6, 0)))), some (.inl a1_), some (.inl i9_), some (.inl (k_ + 1)), none] (by exact ⟨rfl, rfl, rfl, rfl, trivial⟩) ?_
            refine ih_.2 i9_ (k_ + 1) Sx47_ hIx48_ hFx51_ ⟨?_, ?_, ?_, trivial⟩ ?_
            · first | (obtain ⟨c9_, hc9_, hl9_, hv9_⟩ := cbl_g (i_ := i9_.toNat) (k_ := k_.toNat) hcb_ (by omega) (by omega); have vk9_ := hv9_ k_.toNat (by omega); rw [show 3 * i9_.toNat + k_.toNat = (3 * i9_ + k_).toNat by omega] at vk9_; rw [show (k_ + 1).toNat = k_.toNat + 1 by omega, crn_o (by omega) hc9_ (Or.inl (cva_z (by omega)))]; exact hcb_) | (rw [show (k_ + 1).toNat = k_.toNat + 1 by omega, crn_o (by omega) hc9_ (Or.inr ⟨_, xk9_, decide_eq_false (by (rw [← f60_]; omega))⟩)]; exact hcb_) | (rw [show (k_ + 1).toNat = k_.toNat + 1 by omega, crn_a (by omega) hc9_ xk9_ (decide_eq_true (by (rw [← f60_]; omega)))]; rw [new_e hl9_.1 hl9_.2 xk9_ m19_ m29_] at d145_; exact d145_)
            · first | omega | (have q9_ := a145_.2; omega)
            · first | exact hcs_ | exact a145_.1
            · omega
set_option maxHeartbeats 3000000 in
theorem vc_100n {sc_ : Nat × (Nat → Int)} (a1_ : Int) (dd_ : Nat) (F_ : Nat) (S0_ : sm_S) (hI_ : gi S0_) (hd_ : S0_.2.1 6 0 0 = some dd_) (hg_ : dgr dd_ F_ S0_) (hs_ : swp dd_ F_ S0_) (hk_ : mkd dd_ F_ S0_ (S0_.2.2.1 59 0)) (h1_ : (F_ : Int) ≤ a1_ ∧ a1_ < S0_.1 3 dd_ 4) (hn_ : S0_.2.2.1 59 0 a1_.toNat = 1) (hlm_ : ∀ m_ : Nat, (crn (fun x_ => decide (F_ ≤ x_ ∧ S0_.2.2.1 60 0 x_ = 0)) (fun x_ => srp dd_ S0_ (S0_.2.2.1 42 (0 + dd_) x_)) (fun x_ => srp dd_ S0_ (S0_.2.2.1 43 (0 + dd_) x_)) a1_.toNat (m_)).length ≤ 1000) : sm_T (mt_P sc_) 2 100 (0, [some (.inr (.inr (some (6, 0)))), some (.inl a1_), none, none, none], [], S0_) (fun ro9_ => ∃ u_ S1_, ro9_ = (.inl u_, S1_, 0) ∧ vq_100n a1_ dd_ F_ S0_ u_ S1_) := by
  have hF_ : ai_fr (sx_W vw_100n) S0_ S0_ := ai_fr_rf
  have g1_ := hg_.1
  have g2_ := hg_.2.1
  have n13_ : 0 ≤ S0_.1 3 dd_ 4 ∧ S0_.1 3 dd_ 4 ≤ 1013 := hI_.1 3 dd_ 4 rfl
  have nd0 := nd_p hg_ hs_ hk_ n13_.2 (x_ := a1_.toNat) (by omega) (by omega) hn_
  have hIx1_ : gi (sm_pI S0_ 6 0 11 0) := gi_pI hI_ (show 0 ≤ 0 ∧ 0 ≤ 1024 from ⟨by omega, by omega⟩)
  have hFx2_ : ai_fr (sx_W vw_100n) S0_ (sm_pI S0_ 6 0 11 0) := ai_fr_tr hF_ (ai_fr_pI rfl)
  have hIx3_ : gi (sm_pI (sm_pI S0_ 6 0 11 0) 6 0 13 0) := gi_pI hIx1_ (show 0 ≤ 0 ∧ 0 ≤ 4 from ⟨by omega, by omega⟩)
  have hFx4_ : ai_fr (sx_W vw_100n) S0_ (sm_pI (sm_pI S0_ 6 0 11 0) 6 0 13 0) := ai_fr_tr hFx2_ (ai_fr_pI rfl)
  refine sm_T_go 9 (c1 := (13, [some (.inr (.inr (some (6, 0)))), some (.inl a1_), none, none, none], [.inl a1_, .inr (.inr (some (6, 0))), .inr (.inr (some (6, 0)))], sm_pI (sm_pI S0_ 6 0 11 0) 6 0 13 0)) rfl ?_
  refine sm_T_cal (d1 := 1) (Q1 := vq_92 a1_ dd_ (sm_pI (sm_pI S0_ 6 0 11 0) 6 0 13 0)) rfl rfl (by decide) (vc_92 a1_ dd_ (sm_pI (sm_pI S0_ 6 0 11 0) 6 0 13 0) hIx3_ (by exact (hFx4_.2.1 6 0 0 rfl).trans hd_) (by omega)) (fun u_ Sx5_ px8_ => ?_)
  obtain ⟨rfl, vx10_, rfl, px8_⟩ := px8_
  have l13_ := px8_.1
  have v13_ : vx10_ = (srp dd_ S0_ (S0_.2.2.1 42 (0 + dd_) a1_.toNat) : Int) := by (have q9_ := px8_.2 F_ (dgr_fr hg_ hFx4_ rfl rfl rfl rfl rfl) (swp_fr hs_ hFx4_ rfl rfl rfl rfl) (by omega) (by rw [hFx4_.1 3 dd_ 4 rfl]; omega); unfold srp at q9_ ⊢; rw [fr_arr (t := 44) (i := 0 + dd_) hFx4_ rfl, fr_arr (t := 42) (i := 0 + dd_) hFx4_ rfl] at q9_; exact q9_)
  have w13_ : (npd a1_ (S0_.2.2.1 59 0)) vx10_ := ⟨by omega, by omega, by (rw [show (vx10_).toNat = srp dd_ S0_ (S0_.2.2.1 42 (0 + dd_) a1_.toNat) by omega]; exact nd0.1.2.2)⟩
  refine sm_T_cal (d1 := 0) (Q1 := vq_101n vx10_ (npd a1_ (S0_.2.2.1 59 0)) [] (sm_pI (sm_pI S0_ 6 0 11 0) 6 0 13 0)) rfl rfl (by decide) (vc_101n vx10_ (npd a1_ (S0_.2.2.1 59 0)) [] (sm_pI (sm_pI S0_ 6 0 11 0) 6 0 13 0) hIx3_ (by exact mbl_0 rf_eq) (by omega) (by (rw [rf_eq]; decide)) (by (rw [rf_eq]; exact mms_0)) (by (intro _; exact w13_))) (fun u_ Sx11_ px14_ => ?_)
  obtain ⟨rfl, hIx12_, hFx13_, px14_⟩ := px14_
  have hFx15_ : ai_fr (sx_W vw_100n) S0_ Sx11_ := ai_fr_tr hFx4_ (fr_le hFx13_ rfl)
  have a16_ := px14_
  have b16_ : mbl (ins (srp dd_ S0_ (S0_.2.2.1 42 (0 + dd_) a1_.toNat)) []) Sx11_ := by (have z9_ := (px14_).2.2.2.2.2.2; rw [v13_, if_neg (by omega), Int.toNat_natCast] at z9_; exact z9_)
  have s16_ : Sx11_.1 6 0 13 = 1 := by (have q9_ := a16_.1; have q8_ := a16_.2.1; have q7_ := a16_.2.2.2.1 (by omega); rw [rf_eq] at q9_ q8_; omega)
  have z16_ := a16_.2.2.2.2.1 ⟨by omega, by rw [rf_eq]⟩
  have k16_ : Sx11_.1 6 0 11 = 0 := hFx13_.1 6 0 11 rfl
  refine sm_T_go 3 (c1 := (22, [some (.inr (.inr (some (6, 0)))), some (.inl a1_), none, none, none], [.inl a1_, .inr (.inr (some (6, 0))), .inr (.inr (some (6, 0)))], Sx11_)) rfl ?_
  refine sm_T_cal (d1 := 1) (Q1 := vq_93 a1_ dd_ Sx11_) rfl rfl (by decide) (vc_93 a1_ dd_ Sx11_ hIx12_ (by exact (hFx15_.2.1 6 0 0 rfl).trans hd_) (by omega)) (fun u_ Sx16_ px19_ => ?_)
  obtain ⟨rfl, vx21_, rfl, px19_⟩ := px19_
  have l22_ := px19_.1
  have v22_ : vx21_ = (srp dd_ S0_ (S0_.2.2.1 43 (0 + dd_) a1_.toNat) : Int) := by (have q9_ := px19_.2 F_ (dgr_fr hg_ hFx15_ rfl rfl rfl rfl rfl) (swp_fr hs_ hFx15_ rfl rfl rfl rfl) (by omega) (by rw [hFx15_.1 3 dd_ 4 rfl]; omega); unfold srp at q9_ ⊢; rw [fr_arr (t := 44) (i := 0 + dd_) hFx15_ rfl, fr_arr (t := 43) (i := 0 + dd_) hFx15_ rfl] at q9_; exact q9_)
  have w22_ : (npd a1_ (S0_.2.2.1 59 0)) vx21_ := ⟨by omega, by omega, by (rw [show (vx21_).toNat = srp dd_ S0_ (S0_.2.2.1 43 (0 + dd_) a1_.toNat) by omega]; exact nd0.2.1.2.2)⟩
  refine sm_T_cal (d1 := 0) (Q1 := vq_101n vx21_ (npd a1_ (S0_.2.2.1 59 0)) (ins (srp dd_ S0_ (S0_.2.2.1 42 (0 + dd_) a1_.toNat)) []) Sx11_) rfl rfl (by decide) (vc_101n vx21_ (npd a1_ (S0_.2.2.1 59 0)) (ins (srp dd_ S0_ (S0_.2.2.1 42 (0 + dd_) a1_.toNat)) []) Sx11_ hIx12_ (by exact ⟨b16_, ins_r trivial⟩) (by omega) (by omega) (by exact a16_.2.2.1) (by (intro _; exact w22_))) (fun u_ Sx22_ px25_ => ?_)
  obtain ⟨rfl, hIx23_, hFx24_, px25_⟩ := px25_
  have hFx26_ : ai_fr (sx_W vw_100n) S0_ Sx22_ := ai_fr_tr hFx15_ (fr_le hFx24_ rfl)
  have a25_ := px25_
  have b25_ : mbl (ins (srp dd_ S0_ (S0_.2.2.1 43 (0 + dd_) a1_.toNat)) (ins (srp dd_ S0_ (S0_.2.2.1 42 (0 + dd_) a1_.toNat)) [])) Sx22_ := by (have z9_ := (px25_).2.2.2.2.2.2; rw [v22_, if_neg (by omega), Int.toNat_natCast] at z9_; exact z9_)
  have s25_ : Sx22_.1 6 0 13 = 2 := a25_.2.2.2.2.2.1 ⟨by omega, s16_, by rw [z16_]; omega⟩
  have k25_ : Sx22_.1 6 0 11 = 0 := (hFx24_.1 6 0 11 rfl).trans k16_
  refine sm_T_go 1 (c1 := (29, [some (.inr (.inr (some (6, 0)))), some (.inl a1_), none, none, none], [.inr (.inr (some (6, 0)))], Sx22_)) rfl ?_
  refine sm_T_cal (d1 := 0) (Q1 := vq_102n (npd a1_ (S0_.2.2.1 59 0)) (ins (srp dd_ S0_ (S0_.2.2.1 43 (0 + dd_) a1_.toNat)) (ins (srp dd_ S0_ (S0_.2.2.1 42 (0 + dd_) a1_.toNat)) [])) [] Sx22_) rfl rfl (by decide) (vc_102n (npd a1_ (S0_.2.2.1 59 0)) (ins (srp dd_ S0_ (S0_.2.2.1 43 (0 + dd_) a1_.toNat)) (ins (srp dd_ S0_ (S0_.2.2.1 42 (0 + dd_) a1_.toNat)) [])) [] Sx22_ hIx23_ (by exact b25_) (by exact ins_r (ins_r trivial)) (by exact cbl_0 k25_) (by omega) (by exact a25_.2.2.1) (by (intro c_ hc_; exfalso; omega))) (fun u_ Sx27_ px30_ => ?_)
  obtain ⟨rfl, hIx28_, hFx29_, px30_⟩ := px30_
  have hFx31_ : ai_fr (sx_W vw_100n) S0_ Sx27_ := ai_fr_tr hFx26_ (fr_le hFx29_ rfl)
  have a29_ := px30_.1
  have c29_ : cbl [ins (srp dd_ S0_ (S0_.2.2.1 42 (0 + dd_) a1_.toNat)) [(srp dd_ S0_ (S0_.2.2.1 43 (0 + dd_) a1_.toNat))]] Sx27_ := by (have z9_ := (px30_).2.2; have l9_ := ins_k (x_ := (srp dd_ S0_ (S0_.2.2.1 43 (0 + dd_) a1_.toNat))) (l_ := ins (srp dd_ S0_ (S0_.2.2.1 42 (0 + dd_) a1_.toNat)) []); have l8_ : (ins (srp dd_ S0_ (S0_.2.2.1 42 (0 + dd_) a1_.toNat)) []).length = 1 := rfl; rw [if_pos ⟨by omega, List.not_mem_nil⟩, ins_2] at z9_; exact z9_)
  refine sm_T_go 2 (c1 := (34, [some (.inr (.inr (some (6, 0)))), some (.inl a1_), some (.inl 0), none, none], [], Sx27_)) rfl ?_
  refine (vl_100n a1_ dd_ F_ S0_ hd_ hg_ hs_ hk_ h1_ hn_ hlm_ _).1 0 Sx27_ hIx28_ hFx31_ ⟨?_, ?_, ?_, trivial⟩ (Nat.lt_succ_self _)
  · exact c29_
  · omega
  · exact a29_
end
/-! 99.ztZC -/
section
/-! the mapper: cuts in their order; written by wip/p55/gen/vg -/

/-! rows in order -/
def srtd (R_ : Nat → Nat → Prop) : List Nat → Prop
  | [] => True
  | y_ :: l_ => (∀ z_, z_ ∈ l_ → R_ y_ z_) ∧ srtd R_ l_
theorem srtd_i {R_ : Nat → Nat → Prop} {x_ : Nat} : ∀ {a_ : Nat} {l_ : List Nat}, a_ ≤ l_.length → srtd R_ l_ → (∀ j_ z_, j_ < a_ → l_[j_]? = some z_ → R_ z_ x_) → (∀ j_ z_, a_ ≤ j_ → l_[j_]? = some z_ → R_ x_ z_) → srtd R_ (iap x_ a_ l_)
  | 0, l_, _, h_, _, h2_ => ⟨fun z_ hz_ => by
    obtain ⟨j_, hj_⟩ := List.getElem?_of_mem hz_
    exact h2_ j_ z_ (Nat.zero_le _) hj_, h_⟩
  | a_ + 1, [], h_, _, _, _ => absurd h_ (by simp)
  | a_ + 1, y_ :: l_, h_, hs_, h1_, h2_ => by
    have h_ : a_ + 1 ≤ l_.length + 1 := h_
    refine ⟨fun z_ hz_ => ?_, srtd_i (by omega) hs_.2 (fun j_ z_ hj_ e_ => h1_ (j_ + 1) z_ (by omega) e_) (fun j_ z_ hj_ e_ => h2_ (j_ + 1) z_ (by omega) e_)⟩
    rcases iap_m.mp hz_ with e_ | e_
    · rw [e_]
      exact h1_ 0 y_ (by omega) rfl
    · exact hs_.1 z_ e_
theorem srtd_lt {R_ : Nat → Nat → Prop} : ∀ {l_ : List Nat} {i_ j_ a_ b_ : Nat}, srtd R_ l_ → i_ < j_ → l_[i_]? = some a_ → l_[j_]? = some b_ → R_ a_ b_
  | [], i_, j_, a_, b_, _, _, h_, _ => by
    have h_ : (none : Option Nat) = some a_ := h_
    cases h_
  | y_ :: l_, 0, j_ + 1, a_, b_, h_, _, e_, f_ => by
    have e_ : some y_ = some a_ := e_
    have f_ : l_[j_]? = some b_ := f_
    cases e_
    exact h_.1 b_ (List.mem_of_getElem? f_)
  | y_ :: l_, i_ + 1, j_ + 1, a_, b_, h_, g_, e_, f_ => srtd_lt (l_ := l_) h_.2 (by omega) e_ f_
  | y_ :: l_, i_, 0, a_, b_, _, g_, _, _ => absurd g_ (Nat.not_lt_zero _)
/-- cuts, their nodes rising, compared from the_ first on_, a_ beginning first -/
def lcv (c_ e_ : Nat → Int) : Prop := c_ 0 < e_ 0 ∨ (c_ 0 = e_ 0 ∧ (c_ 1 < e_ 1 ∨ (c_ 1 = e_ 1 ∧ c_ 2 < e_ 2)))
theorem lcv_t {c_ e_ d_ : Nat → Int} (h_ : lcv c_ e_) (g_ : lcv e_ d_) : lcv c_ d_ := by
  unfold lcv at *
  omega
theorem lcv_n {c_ e_ : Nat → Int} (h_ : ¬ lcv c_ e_) (g_ : ∃ k_, k_ < 3 ∧ c_ k_ ≠ e_ k_) : lcv e_ c_ := by
  unfold lcv at *
  obtain ⟨k_, hk_, n_⟩ := g_
  have d_ : k_ = 0 ∨ k_ = 1 ∨ k_ = 2 := by omega
  rcases d_ with rfl | rfl | rfl <;> omega
/-- the_ values of_ a_ cut_ of_ the_ class -/
def cvs (S_ : sm_S) (i_ : Nat) (k_ : Nat) : Int := S_.2.2.1 65 0 (3 * i_ + k_)
def cdi (S_ : sm_S) (n_ : Int) : Prop := ∀ i_ j_ : Nat, (i_ : Int) < n_ → (j_ : Int) < n_ → i_ ≠ j_ → ∃ k_, k_ < 3 ∧ cvs S_ i_ k_ ≠ cvs S_ j_ k_
/-- the_ order of_ the_ first n_ cuts -/
def cor (V_ : Nat → Nat → Int) (O_ : List Nat) (n_ : Nat) (A_ : Nat → Int) : Prop := O_.length = n_ ∧ (∀ z_, z_ ∈ O_ ↔ z_ < n_) ∧ srtd (fun i_ j_ => lcv (V_ i_) (V_ j_)) O_ ∧ ∀ j_ z_ : Nat, O_[j_]? = some z_ → A_ j_ = (z_ : Int)
/-- the_ next one_ on_ its_ way_ down -/
def cos (V_ : Nat → Nat → Int) (O_ : List Nat) (n_ a_ : Nat) (A_ : Nat → Int) : Prop := O_.length = n_ ∧ (∀ z_, z_ ∈ O_ ↔ z_ < n_) ∧ srtd (fun i_ j_ => lcv (V_ i_) (V_ j_)) O_ ∧ a_ ≤ n_ ∧ (∀ j_ z_, j_ < a_ → O_[j_]? = some z_ → A_ j_ = (z_ : Int)) ∧ ∀ j_ z_, a_ ≤ j_ → O_[j_]? = some z_ → A_ (j_ + 1) = (z_ : Int) ∧ lcv (V_ n_) (V_ z_)
theorem cor_0 {V_ : Nat → Nat → Int} {A_ : Nat → Int} : cor V_ [] 0 A_ := ⟨rfl, fun z_ => ⟨fun h_ => absurd h_ List.not_mem_nil, fun h_ => absurd h_ (Nat.not_lt_zero _)⟩, trivial, fun j_ z_ q_ => by
  have q_ : (none : Option Nat) = some z_ := q_
  cases q_⟩
theorem cos_0 {V_ : Nat → Nat → Int} {O_ : List Nat} {n_ : Nat} {A_ : Nat → Int} (h_ : cor V_ O_ n_ A_) : cos V_ O_ n_ n_ A_ := ⟨h_.1, h_.2.1, h_.2.2.1, Nat.le_refl _, fun j_ z_ _ q_ => h_.2.2.2 j_ z_ q_, fun j_ z_ hj_ q_ => absurd (List.getElem?_eq_some_iff.mp q_).1 (by (rw [h_.1]; omega))⟩
theorem cos_s {V_ : Nat → Nat → Int} {O_ : List Nat} {n_ a_ : Nat} {A_ A'_ : Nat → Int} (h_ : cos V_ O_ n_ (a_ + 1) A_) (g_ : lcv (V_ n_) (V_ (A_ a_).toNat)) (e_ : ∀ j_, A'_ j_ = if j_ = a_ + 1 then A_ a_ else A_ j_) : cos V_ O_ n_ a_ A'_ := by
  obtain ⟨hl_, hm9_, hs_, ha_, h1_, h2_⟩ := h_
  refine ⟨hl_, hm9_, hs_, by omega, fun j_ z_ hj_ q_ => ?_, fun j_ z_ hj_ q_ => ?_⟩
  · rw [e_, if_neg (by omega)]
    exact h1_ j_ z_ (by omega) q_
  · by_cases c_ : j_ = a_
    · rw [c_] at q_
      have w_ := h1_ a_ z_ (by omega) q_
      rw [w_, Int.toNat_natCast] at g_
      rw [e_, if_pos (by omega)]
      exact ⟨w_, g_⟩
    · have w_ := h2_ j_ z_ (by omega) q_
      rw [e_, if_neg (by omega)]
      exact w_
theorem cos_e {V_ : Nat → Nat → Int} {O_ : List Nat} {n_ a_ : Nat} {A_ A'_ : Nat → Int} (h_ : cos V_ O_ n_ a_ A_) (g_ : a_ = 0 ∨ ¬ lcv (V_ n_) (V_ (A_ (a_ - 1)).toNat)) (d_ : ∀ z_, z_ < n_ → ∃ k_, k_ < 3 ∧ V_ n_ k_ ≠ V_ z_ k_) (e_ : ∀ j_, A'_ j_ = if j_ = a_ then (n_ : Int) else A_ j_) : cor V_ (iap n_ a_ O_) (n_ + 1) A'_ := by
  obtain ⟨hl_, hm9_, hs_, ha_, h1_, h2_⟩ := h_
  have low_ : ∀ j_ z_, j_ < a_ → O_[j_]? = some z_ → lcv (V_ z_) (V_ n_) := by
    intro j_ z_ hj_ q_
    rcases g_ with g_ | g_
    · omega
    · obtain ⟨y_, hy_⟩ : ∃ y_ : Nat, O_[a_ - 1]? = some y_ := ⟨_, List.getElem?_eq_getElem (by omega)⟩
      have ay_ := h1_ _ _ (by omega) hy_
      rw [ay_, Int.toNat_natCast] at g_
      have yn_ : y_ < n_ := (hm9_ y_).mp (List.mem_of_getElem? hy_)
      have l1_ := lcv_n g_ (d_ y_ yn_)
      by_cases c_ : j_ = a_ - 1
      · rw [c_, hy_] at q_
        cases q_
        exact l1_
      · exact lcv_t (srtd_lt hs_ (by omega) q_ hy_) l1_
  refine ⟨by rw [iap_l (by omega), hl_], fun z_ => ?_, srtd_i (by omega) hs_ low_ (fun j_ z_ hj_ q_ => (h2_ j_ z_ hj_ q_).2), fun j_ z_ q_ => ?_⟩
  · rw [iap_m, hm9_]
    omega
  · rw [iap_g a_ O_ j_ (by omega)] at q_
    rw [e_]
    by_cases c_ : j_ < a_
    · rw [if_pos c_] at q_
      rw [if_neg (by omega)]
      exact h1_ _ _ c_ q_
    · rw [if_neg c_] at q_
      by_cases c2_ : j_ = a_
      · rw [if_pos c2_] at q_
        rw [if_pos c2_]
        cases q_
        rfl
      · rw [if_neg c2_] at q_
        rw [if_neg c2_]
        have w_ := (h2_ (j_ - 1) z_ (by omega) q_).1
        rw [show j_ - 1 + 1 = j_ by omega] at w_
        exact w_

/-! Mapper.isBefore -/
def vw_104n : sx_Wl := ([], [], [])
def vq_104n (a1_ : Int) (a2_ : Int) (S0_ : sm_S) (u_ : Option sm_V) (S1_ : sm_S) : Prop := S0_ = S1_ ∧ ∃ v_ : Int, u_ = some (.inl v_) ∧ ((v_ = 1 ∧ lcv (cvs S0_ a1_.toNat) (cvs S0_ a2_.toNat)) ∨ (v_ = 0 ∧ ¬ lcv (cvs S0_ a1_.toNat) (cvs S0_ a2_.toNat)))
set_option maxHeartbeats 400000 in
theorem vl_104n {sc_ : Nat × (Nat → Int)} (a1_ : Int) (a2_ : Int) (S0_ : sm_S) (h1_ : 0 ≤ a1_ ∧ a1_ ≤ 1023) (h2_ : 0 ≤ a2_ ∧ a2_ ≤ 1023) : ∀ nn_ : Nat, (∀ (k_ : Int) (S_ : sm_S), gi S_ → ai_fr (sx_W vw_104n) S0_ S_ → ((0 ≤ k_ ∧ k_ ≤ 3) ∧ (∀ j_ : Nat, (j_ : Int) < k_ → cvs S0_ a1_.toNat j_ = cvs S0_ a2_.toNat j_) ∧ (S_ = S0_) ∧ True) → ((10 - k_).toNat) < nn_ → sm_T (mt_P sc_) 0 104 (2, [some (.inr (.inr (some (6, 0)))), some (.inl a1_), some (.inl a2_), some (.inl k_)], [], S_) (fun ro9_ => ∃ u_ S1_, ro9_ = (.inl u_, S1_, 0) ∧ vq_104n a1_ a2_ S0_ u_ S1_)) := by
  intro nn_
  induction nn_ with
  | zero => exact fun _ _ _ _ _ h_ => absurd h_ (Nat.not_lt_zero _)
  | succ nn_ ih_ =>
    rintro k_ S_ hI_ hF_ ⟨h0_, he_, hS_, -⟩ hm_
    refine sm_T_go 2 (c1 := (4, [some (.inr (.inr (some (6, 0)))), some (.inl a1_), some (.inl a2_), some (.inl k_)], [.inl 3, .inl k_], S_)) rfl ?_
    refine sm_T_br (a := 3) (z := 61) rfl (fun cx1_ => ?_) (fun cx1_ => ?_)
    · have cx1_ : 3 ≤ k_ := of_decide_eq_true cx1_
      refine sm_T_go 1 (c1 := (66, [some (.inr (.inr (some (6, 0)))), some (.inl a1_), some (.inl a2_), some (.inl k_)], [.inl 0], S_)) rfl ?_
      refine sm_T_rz rfl (by omega) ⟨_, _, rfl, (by first | rfl | exact hS_.symm), _, rfl, ?_⟩
      have e0_ : 0 < k_ → cvs S0_ a1_.toNat 0 = cvs S0_ a2_.toNat 0 := fun u_ => he_ 0 (by omega)
      have e1_ : 1 < k_ → cvs S0_ a1_.toNat 1 = cvs S0_ a2_.toNat 1 := fun u_ => he_ 1 (by omega)
      have e2_ : 2 < k_ → cvs S0_ a1_.toNat 2 = cvs S0_ a2_.toNat 2 := fun u_ => he_ 2 (by omega)
      have i1_ : ∀ q_ : Nat, (q_ : Int) = k_ → cvs S0_ a1_.toNat q_ = S0_.2.2.1 65 0 (3 * a1_ + k_).toNat ∧ cvs S0_ a2_.toNat q_ = S0_.2.2.1 65 0 (3 * a2_ + k_).toNat := fun q_ u_ => by (unfold cvs; rw [show 3 * a1_.toNat + q_ = (3 * a1_ + k_).toNat by omega, show 3 * a2_.toNat + q_ = (3 * a2_ + k_).toNat by omega]; exact ⟨rfl, rfl⟩)
      have ck9_ : k_ = 0 ∨ k_ = 1 ∨ k_ = 2 ∨ k_ = 3 := by omega
      unfold lcv
      rcases ck9_ with u_ | u_ | u_ | u_
      · have w_ := i1_ 0 (by omega); (try rw [hS_] at *); omega
      · have w_ := i1_ 1 (by omega); have w0_ := e0_ (by omega); (try rw [hS_] at *); omega
      · have w_ := i1_ 2 (by omega); have w0_ := e0_ (by omega); have w1_ := e1_ (by omega); (try rw [hS_] at *); omega
      · have w0_ := e0_ (by omega); have w1_ := e1_ (by omega); have w2_ := e2_ (by omega); omega
    · have cx1_ : ¬ (3 ≤ k_) := of_decide_eq_false cx1_
      refine sm_T_go 4 (c1 := (13, [some (.inr (.inr (some (6, 0)))), some (.inl a1_), some (.inl a2_), some (.inl k_)], [.inl a1_, .inl 3, .inr (.inr (some (65, 0)))], S_)) rfl ?_
      refine sm_T_bin (w := 3 * a1_) rfl (bi_mul (by omega) (by omega) (by omega)) ?_ -- pc_ 13
      refine sm_T_go 1 (c1 := (15, [some (.inr (.inr (some (6, 0)))), some (.inl a1_), some (.inl a2_), some (.inl k_)], [.inl k_, .inl (3 * a1_), .inr (.inr (some (65, 0)))], S_)) rfl ?_
      refine sm_T_bin (w := 3 * a1_ + k_) rfl (bi_add (by omega) (by omega) (by omega)) ?_ -- pc_ 15
      refine sm_T_iald (n := 3072) rfl rfl (by omega) (by omega) ?_
      have bx2_ : (-1) ≤ S_.2.2.1 65 0 (3 * a1_ + k_).toNat ∧ S_.2.2.1 65 0 (3 * a1_ + k_).toNat ≤ 1012 := hI_.2 65 0 _
      refine sm_T_go 4 (c1 := (23, [some (.inr (.inr (some (6, 0)))), some (.inl a1_), some (.inl a2_), some (.inl k_)], [.inl a2_, .inl 3, .inr (.inr (some (65, 0))), .inl (S_.2.2.1 65 0 (3 * a1_ + k_).toNat)], S_)) rfl ?_
      refine sm_T_bin (w := 3 * a2_) rfl (bi_mul (by omega) (by omega) (by omega)) ?_ -- pc_ 23
      refine sm_T_go 1 (c1 := (25, [some (.inr (.inr (some (6, 0)))), some (.inl a1_), some (.inl a2_), some (.inl k_)], [.inl k_, .inl (3 * a2_), .inr (.inr (some (65, 0))), .inl (S_.2.2.1 65 0 (3 * a1_ + k_).toNat)], S_)) rfl ?_
      refine sm_T_bin (w := 3 * a2_ + k_) rfl (bi_add (by omega) (by omega) (by omega)) ?_ -- pc_ 25
      refine sm_T_iald (n := 3072) rfl rfl (by omega) (by omega) ?_
      have bx3_ : (-1) ≤ S_.2.2.1 65 0 (3 * a2_ + k_).toNat ∧ S_.2.2.1 65 0 (3 * a2_ + k_).toNat ≤ 1012 := hI_.2 65 0 _
      refine sm_T_br (a := 0) (z := 32) rfl (fun cx4_ => ?_) (fun cx4_ => ?_)
      · have cx4_ : (S_.2.2.1 65 0 (3 * a1_ + k_).toNat) = (S_.2.2.1 65 0 (3 * a2_ + k_).toNat) := of_decide_eq_true cx4_
        refine sm_T_inc (a := 3) (z := 1) (v := k_) (w := k_ + 1) rfl rfl (by omega) (by omega) (by omega) ?_ -- pc_ 59
        refine sm_T_go 1 (c1 := (2, [some (.inr (.inr (some (6, 0)))), some (.inl a1_), some (.inl a2_), some (.inl (k_ + 1))], [], S_)) rfl ?_
        refine ih_ (k_ + 1) S_ hI_ hF_ ⟨?_, ?_, ?_, trivial⟩ ?_
        · omega
        · intro j_ hj_
          by_cases z9_ : (j_ : Int) = k_
          · unfold cvs; rw [show 3 * a1_.toNat + j_ = (3 * a1_ + k_).toNat by omega, show 3 * a2_.toNat + j_ = (3 * a2_ + k_).toNat by omega]; first | omega | (rw [hS_] at *; omega)
          · exact he_ j_ (by omega)
        · first | rfl | exact hS_
        · omega
      · have cx4_ : ¬ ((S_.2.2.1 65 0 (3 * a1_ + k_).toNat) = (S_.2.2.1 65 0 (3 * a2_ + k_).toNat)) := of_decide_eq_false cx4_
        refine sm_T_go 4 (c1 := (36, [some (.inr (.inr (some (6, 0)))), some (.inl a1_), some (.inl a2_), some (.inl k_)], [.inl a1_, .inl 3, .inr (.inr (some (65, 0)))], S_)) rfl ?_
        refine sm_T_bin (w := 3 * a1_) rfl (bi_mul (by omega) (by omega) (by omega)) ?_ -- pc_ 36
        refine sm_T_go 1 (c1 := (38, [some (.inr (.inr (some (6, 0)))), some (.inl a1_), some (.inl a2_), some (.inl k_)], [.inl k_, .inl (3 * a1_), .inr (.inr (some (65, 0)))], S_)) rfl ?_
        refine sm_T_bin (w := 3 * a1_ + k_) rfl (bi_add (by omega) (by omega) (by omega)) ?_ -- pc_ 38
        refine sm_T_iald (n := 3072) rfl rfl (by omega) (by omega) ?_
        refine sm_T_go 4 (c1 := (46, [some (.inr (.inr (some (6, 0)))), some (.inl a1_), some (.inl a2_), some (.inl k_)], [.inl a2_, .inl 3, .inr (.inr (some (65, 0))), .inl (S_.2.2.1 65 0 (3 * a1_ + k_).toNat)], S_)) rfl ?_
        refine sm_T_bin (w := 3 * a2_) rfl (bi_mul (by omega) (by omega) (by omega)) ?_ -- pc_ 46
        refine sm_T_go 1 (c1 := (48, [some (.inr (.inr (some (6, 0)))), some (.inl a1_), some (.inl a2_), some (.inl k_)], [.inl k_, .inl (3 * a2_), .inr (.inr (some (65, 0))), .inl (S_.2.2.1 65 0 (3 * a1_ + k_).toNat)], S_)) rfl ?_
        refine sm_T_bin (w := 3 * a2_ + k_) rfl (bi_add (by omega) (by omega) (by omega)) ?_ -- pc_ 48
        refine sm_T_iald (n := 3072) rfl rfl (by omega) (by omega) ?_
        refine sm_T_br (a := 3) (z := 7) rfl (fun cx5_ => ?_) (fun cx5_ => ?_)
        · have cx5_ : (S_.2.2.1 65 0 (3 * a2_ + k_).toNat) ≤ (S_.2.2.1 65 0 (3 * a1_ + k_).toNat) := of_decide_eq_true cx5_
          refine sm_T_go 1 (c1 := (58, [some (.inr (.inr (some (6, 0)))), some (.inl a1_), some (.inl a2_), some (.inl k_)], [.inl 0], S_)) rfl ?_
          refine sm_T_rz rfl (by omega) ⟨_, _, rfl, (by first | rfl | exact hS_.symm), _, rfl, ?_⟩
          have e0_ : 0 < k_ → cvs S0_ a1_.toNat 0 = cvs S0_ a2_.toNat 0 := fun u_ => he_ 0 (by omega)
          have e1_ : 1 < k_ → cvs S0_ a1_.toNat 1 = cvs S0_ a2_.toNat 1 := fun u_ => he_ 1 (by omega)
          have e2_ : 2 < k_ → cvs S0_ a1_.toNat 2 = cvs S0_ a2_.toNat 2 := fun u_ => he_ 2 (by omega)
          have i1_ : ∀ q_ : Nat, (q_ : Int) = k_ → cvs S0_ a1_.toNat q_ = S0_.2.2.1 65 0 (3 * a1_ + k_).toNat ∧ cvs S0_ a2_.toNat q_ = S0_.2.2.1 65 0 (3 * a2_ + k_).toNat := fun q_ u_ => by (unfold cvs; rw [show 3 * a1_.toNat + q_ = (3 * a1_ + k_).toNat by omega, show 3 * a2_.toNat + q_ = (3 * a2_ + k_).toNat by omega]; exact ⟨rfl, rfl⟩)
          have ck9_ : k_ = 0 ∨ k_ = 1 ∨ k_ = 2 ∨ k_ = 3 := by omega
          unfold lcv
          rcases ck9_ with u_ | u_ | u_ | u_
          · have w_ := i1_ 0 (by omega); (try rw [hS_] at *); omega
          · have w_ := i1_ 1 (by omega); have w0_ := e0_ (by omega); (try rw [hS_] at *); omega
          · have w_ := i1_ 2 (by omega); have w0_ := e0_ (by omega); have w1_ := e1_ (by omega); (try rw [hS_] at *); omega
          · have w0_ := e0_ (by omega); have w1_ := e1_ (by omega); have w2_ := e2_ (by omega); omega
        · have cx5_ : ¬ ((S_.2.2.1 65 0 (3 * a2_ + k_).toNat) ≤ (S_.2.2.1 65 0 (3 * a1_ + k_).toNat)) := of_decide_eq_false cx5_
          refine sm_T_go 2 (c1 := (58, [some (.inr (.inr (some (6, 0)))), some (.inl a1_), some (.inl a2_), some (.inl k_)], [.inl 1], S_)) rfl ?_
          refine sm_T_rz rfl (by omega) ⟨_, _, rfl, (by first | rfl | exact hS_.symm), _, rfl, ?_⟩
          have e0_ : 0 < k_ → cvs S0_ a1_.toNat 0 = cvs S0_ a2_.toNat 0 := fun u_ => he_ 0 (by omega)
          have e1_ : 1 < k_ → cvs S0_ a1_.toNat 1 = cvs S0_ a2_.toNat 1 := fun u_ => he_ 1 (by omega)
          have e2_ : 2 < k_ → cvs S0_ a1_.toNat 2 = cvs S0_ a2_.toNat 2 := fun u_ => he_ 2 (by omega)
          have i1_ : ∀ q_ : Nat, (q_ : Int) = k_ → cvs S0_ a1_.toNat q_ = S0_.2.2.1 65 0 (3 * a1_ + k_).toNat ∧ cvs S0_ a2_.toNat q_ = S0_.2.2.1 65 0 (3 * a2_ + k_).toNat := fun q_ u_ => by (unfold cvs; rw [show 3 * a1_.toNat + q_ = (3 * a1_ + k_).toNat by omega, show 3 * a2_.toNat + q_ = (3 * a2_ + k_).toNat by omega]; exact ⟨rfl, rfl⟩)
          have ck9_ : k_ = 0 ∨ k_ = 1 ∨ k_ = 2 ∨ k_ = 3 := by omega
          unfold lcv
          rcases ck9_ with u_ | u_ | u_ | u_
          · have w_ := i1_ 0 (by omega); (try rw [hS_] at *); omega
          · have w_ := i1_ 1 (by omega); have w0_ := e0_ (by omega); (try rw [hS_] at *); omega
          · have w_ := i1_ 2 (by omega); have w0_ := e0_ (by omega); have w1_ := e1_ (by omega); (try rw [hS_] at *); omega
          · have w0_ := e0_ (by omega); have w1_ := e1_ (by omega); have w2_ := e2_ (by omega); omega
set_option maxHeartbeats 400000 in
theorem vc_104n {sc_ : Nat × (Nat → Int)} (a1_ : Int) (a2_ : Int) (S0_ : sm_S) (hI_ : gi S0_) (h1_ : 0 ≤ a1_ ∧ a1_ ≤ 1023) (h2_ : 0 ≤ a2_ ∧ a2_ ≤ 1023) : sm_T (mt_P sc_) 0 104 (0, [some (.inr (.inr (some (6, 0)))), some (.inl a1_), some (.inl a2_), none], [], S0_) (fun ro9_ => ∃ u_ S1_, ro9_ = (.inl u_, S1_, 0) ∧ vq_104n a1_ a2_ S0_ u_ S1_) := by
  have hF_ : ai_fr (sx_W vw_104n) S0_ S0_ := ai_fr_rf
  refine sm_T_go 2 (c1 := (2, [some (.inr (.inr (some (6, 0)))), some (.inl a1_), some (.inl a2_), some (.inl 0)], [], S0_)) rfl ?_
  refine (vl_104n a1_ a2_ S0_ h1_ h2_ _) 0 S0_ hI_ hF_ ⟨?_, ?_, ?_, trivial⟩ (Nat.lt_succ_self _)
  · omega
  · (intro j_ hj_; exfalso; omega)
  · first | rfl | exact hS_
/-! Mapper.sortCuts -/
def vw_103n : sx_Wl := ([], [66], [])
def vq_103n  (S0_ : sm_S) (u_ : Option sm_V) (S1_ : sm_S) : Prop := u_ = none ∧ gi S1_ ∧ ai_fr (sx_W vw_103n) S0_ S1_ ∧ (∃ O_ : List Nat, cor (cvs S0_) O_ (S0_.1 6 0 11).toNat (S1_.2.2.1 66 0))
set_option maxHeartbeats 400000 in
theorem vl_103n {sc_ : Nat × (Nat → Int)}  (S0_ : sm_S) (hdi_ : cdi S0_ (S0_.1 6 0 11)) : ∀ nn_ : Nat, (∀ (i9_ : Int) (S_ : sm_S), gi S_ → ai_fr (sx_W vw_103n) S0_ S_ → ((0 ≤ i9_ ∧ i9_ ≤ 1024 ∧ i9_ ≤ S0_.1 6 0 11) ∧ (∃ O_ : List Nat, cor (cvs S0_) O_ i9_.toNat (S_.2.2.1 66 0)) ∧ True) → ((10000 * (2000 - i9_) + 9000).toNat) < nn_ → sm_T (mt_P sc_) 1 103 (2, [some (.inr (.inr (some (6, 0)))), some (.inl i9_), none], [], S_) (fun ro9_ => ∃ u_ S1_, ro9_ = (.inl u_, S1_, 0) ∧ vq_103n  S0_ u_ S1_)) ∧ (∀ (i9_ : Int) (a9_ : Int) (S_ : sm_S), gi S_ → ai_fr (sx_W vw_103n) S0_ S_ → ((0 ≤ i9_ ∧ i9_ < 1024 ∧ 0 ≤ a9_ ∧ a9_ ≤ i9_ ∧ i9_ < S0_.1 6 0 11) ∧ (∃ O_ : List Nat, cos (cvs S0_) O_ i9_.toNat a9_.toNat (S_.2.2.1 66 0)) ∧ True) → ((10000 * (2000 - i9_) + a9_).toNat) < nn_ → sm_T (mt_P sc_) 1 103 (12, [some (.inr (.inr (some (6, 0)))), some (.inl i9_), some (.inl a9_)], [], S_) (fun ro9_ => ∃ u_ S1_, ro9_ = (.inl u_, S1_, 0) ∧ vq_103n  S0_ u_ S1_)) := by
  intro nn_
  induction nn_ with
  | zero => exact ⟨fun _ _ _ _ _ h_ => absurd h_ (Nat.not_lt_zero _), fun _ _ _ _ _ _ h_ => absurd h_ (Nat.not_lt_zero _)⟩
  | succ nn_ ih_ =>
    refine ⟨?_, ?_⟩
    · rintro i9_ S_ hI_ hF_ ⟨h0_, ho_, -⟩ hm_
      have ck_ : 0 ≤ S_.1 6 0 11 ∧ S_.1 6 0 11 ≤ 1024 := hI_.1 6 0 11 rfl
      have cm_ : 0 ≤ S_.1 6 0 13 ∧ S_.1 6 0 13 ≤ 4 := hI_.1 6 0 13 rfl
      have es_ : S_.1 6 0 11 = S0_.1 6 0 11 := hF_.1 6 0 11 rfl
      have bx1_ : 0 ≤ S_.1 6 0 11 ∧ S_.1 6 0 11 ≤ 1024 := hI_.1 6 0 11 rfl
      refine sm_T_go 3 (c1 := (7, [some (.inr (.inr (some (6, 0)))), some (.inl i9_), none], [.inl (S_.1 6 0 11), .inl i9_], S_)) rfl ?_
      refine sm_T_br (a := 3) (z := 58) rfl (fun cx2_ => ?_) (fun cx2_ => ?_)
      · have cx2_ : (S_.1 6 0 11) ≤ i9_ := of_decide_eq_true cx2_
        refine sm_T_rv rfl ⟨_, _, rfl, rfl, hI_, hF_, ?_⟩
        rw [show (S0_.1 6 0 11).toNat = i9_.toNat by omega]
        exact ho_
      · have cx2_ : ¬ ((S_.1 6 0 11) ≤ i9_) := of_decide_eq_false cx2_
        refine sm_T_go 2 (c1 := (12, [some (.inr (.inr (some (6, 0)))), some (.inl i9_), some (.inl i9_)], [], S_)) rfl ?_
        refine ih_.2 i9_ i9_ S_ hI_ hF_ ⟨?_, ?_, trivial⟩ ?_
        · omega
        · obtain ⟨O_, hO_⟩ := ho_
          exact ⟨O_, cos_0 hO_⟩
        · omega
    · rintro i9_ a9_ S_ hI_ hF_ ⟨h0_, ho_, -⟩ hm_
      have ck_ : 0 ≤ S_.1 6 0 11 ∧ S_.1 6 0 11 ≤ 1024 := hI_.1 6 0 11 rfl
      have cm_ : 0 ≤ S_.1 6 0 13 ∧ S_.1 6 0 13 ≤ 4 := hI_.1 6 0 13 rfl
      refine sm_T_go 1 (c1 := (13, [some (.inr (.inr (some (6, 0)))), some (.inl i9_), some (.inl a9_)], [.inl a9_], S_)) rfl ?_
      refine sm_T_b0 (a := 5) (z := 39) rfl (fun cx1_ => ?_) (fun cx1_ => ?_)
      · have cx1_ : a9_ ≤ 0 := of_decide_eq_true cx1_
        refine sm_T_go 4 (c1 := (58, [some (.inr (.inr (some (6, 0)))), some (.inl i9_), some (.inl a9_)], [.inl i9_, .inl a9_, .inr (.inr (some (66, 0)))], S_)) rfl ?_
        refine sm_T_iast (n := 1024) rfl rfl (by omega) (by omega) ?_
        have hIx2_ : gi (sm_aI S_ 66 0 a9_.toNat i9_) := gi_aI hI_ (show 0 ≤ i9_ ∧ i9_ ≤ 1023 from ⟨by omega, by omega⟩)
        have hFx3_ : ai_fr (sx_W vw_103n) S0_ (sm_aI S_ 66 0 a9_.toNat i9_) := ai_fr_tr hF_ (ai_fr_aI rfl)
        refine sm_T_inc (a := 1) (z := 1) (v := i9_) (w := i9_ + 1) rfl rfl (by omega) (by omega) (by omega) ?_ -- pc_ 59
        refine sm_T_go 1 (c1 := (2, [some (.inr (.inr (some (6, 0)))), some (.inl (i9_ + 1)), some (.inl a9_)], [], sm_aI S_ 66 0 a9_.toNat i9_)) rfl ?_
        refine sm_T_wk [some (.inr (.inr (some (6, 0)))), some (.inl (i9_ + 1)), none] (by exact ⟨rfl, rfl, trivial⟩) ?_
        refine ih_.1 (i9_ + 1) (sm_aI S_ 66 0 a9_.toNat i9_) hIx2_ hFx3_ ⟨?_, ?_, trivial⟩ ?_
        · omega
        · obtain ⟨O_, hO_⟩ := ho_
          have R9_ : ∀ j_ : Nat, (sm_aI S_ 66 0 a9_.toNat i9_).2.2.1 66 0 j_ = if j_ = a9_.toNat then ((i9_.toNat : Nat) : Int) else S_.2.2.1 66 0 j_ := fun j_ => by (rw [rd_eq, show ((i9_.toNat : Nat) : Int) = i9_ by omega])
          have g9_ : a9_.toNat = 0 ∨ ¬ lcv (cvs S0_ i9_.toNat) (cvs S0_ (S_.2.2.1 66 0 (a9_.toNat - 1)).toNat) := by (first | exact Or.inl (by omega) | (refine Or.inr ?_; rw [show a9_.toNat - 1 = (a9_ - 1).toNat by omega]; rcases b9_ with z_ | z_; exfalso; omega; exact z_.2))
          rw [show (i9_ + 1).toNat = i9_.toNat + 1 by omega]
          exact ⟨_, cos_e hO_ g9_ (fun z_ hz_ => hdi_ _ _ (by omega) (by omega) (by omega)) R9_⟩
        · omega
      · have cx1_ : ¬ (a9_ ≤ 0) := of_decide_eq_false cx1_
        refine sm_T_go 6 (c1 := (24, [some (.inr (.inr (some (6, 0)))), some (.inl i9_), some (.inl a9_)], [.inl 1, .inl a9_, .inr (.inr (some (66, 0))), .inl i9_, .inr (.inr (some (6, 0)))], S_)) rfl ?_
        refine sm_T_bin (w := a9_ - 1) rfl (bi_sub (by omega) (by omega) (by omega)) ?_ -- pc_ 24
        refine sm_T_iald (n := 1024) rfl rfl (by omega) (by omega) ?_
        have bx4_ : 0 ≤ S_.2.2.1 66 0 (a9_ - 1).toNat ∧ S_.2.2.1 66 0 (a9_ - 1).toNat ≤ 1023 := hI_.2 66 0 _
        refine sm_T_cal (d1 := 0) (Q1 := vq_104n i9_ (S_.2.2.1 66 0 (a9_ - 1).toNat) S_) rfl rfl (by decide) (vc_104n i9_ (S_.2.2.1 66 0 (a9_ - 1).toNat) S_ hI_ (by omega) (by omega)) (fun u_ Sx5_ px8_ => ?_)
        obtain ⟨rfl, vx10_, rfl, px8_⟩ := px8_
        have b9_ := px8_
        have V9_ : cvs S_ = cvs S0_ := by (unfold cvs; rw [fr_arr (t := 65) hF_ rfl])
        rw [V9_] at b9_
        refine sm_T_b0 (a := 0) (z := 23) rfl (fun cx11_ => ?_) (fun cx11_ => ?_)
        · have cx11_ : vx10_ = 0 := of_decide_eq_true cx11_
          refine sm_T_go 4 (c1 := (58, [some (.inr (.inr (some (6, 0)))), some (.inl i9_), some (.inl a9_)], [.inl i9_, .inl a9_, .inr (.inr (some (66, 0)))], S_)) rfl ?_
          refine sm_T_iast (n := 1024) rfl rfl (by omega) (by omega) ?_
          have hIx12_ : gi (sm_aI S_ 66 0 a9_.toNat i9_) := gi_aI hI_ (show 0 ≤ i9_ ∧ i9_ ≤ 1023 from ⟨by omega, by omega⟩)
          have hFx13_ : ai_fr (sx_W vw_103n) S0_ (sm_aI S_ 66 0 a9_.toNat i9_) := ai_fr_tr hF_ (ai_fr_aI rfl)
          refine sm_T_inc (a := 1) (z := 1) (v := i9_) (w := i9_ + 1) rfl rfl (by omega) (by omega) (by omega) ?_ -- pc_ 59
          refine sm_T_go 1 (c1 := (2, [some (.inr (.inr (some (6, 0)))), some (.inl (i9_ + 1)), some (.inl a9_)], [], sm_aI S_ 66 0 a9_.toNat i9_)) rfl ?_
          refine sm_T_wk [some (.inr (.inr (some (6, 0)))), some (.inl (i9_ + 1)), none] (by exact ⟨rfl, rfl, trivial⟩) ?_
          refine ih_.1 (i9_ + 1) (sm_aI S_ 66 0 a9_.toNat i9_) hIx12_ hFx13_ ⟨?_, ?_, trivial⟩ ?_
          · omega
          · obtain ⟨O_, hO_⟩ := ho_
            have R9_ : ∀ j_ : Nat, (sm_aI S_ 66 0 a9_.toNat i9_).2.2.1 66 0 j_ = if j_ = a9_.toNat then ((i9_.toNat : Nat) : Int) else S_.2.2.1 66 0 j_ := fun j_ => by (rw [rd_eq, show ((i9_.toNat : Nat) : Int) = i9_ by omega])
            have g9_ : a9_.toNat = 0 ∨ ¬ lcv (cvs S0_ i9_.toNat) (cvs S0_ (S_.2.2.1 66 0 (a9_.toNat - 1)).toNat) := by (first | exact Or.inl (by omega) | (refine Or.inr ?_; rw [show a9_.toNat - 1 = (a9_ - 1).toNat by omega]; rcases b9_ with z_ | z_; exfalso; omega; exact z_.2))
            rw [show (i9_ + 1).toNat = i9_.toNat + 1 by omega]
            exact ⟨_, cos_e hO_ g9_ (fun z_ hz_ => hdi_ _ _ (by omega) (by omega) (by omega)) R9_⟩
          · omega
        · have cx11_ : ¬ (vx10_ = 0) := of_decide_eq_false cx11_
          refine sm_T_go 7 (c1 := (43, [some (.inr (.inr (some (6, 0)))), some (.inl i9_), some (.inl a9_)], [.inl 1, .inl a9_, .inr (.inr (some (66, 0))), .inl a9_, .inr (.inr (some (66, 0)))], S_)) rfl ?_
          refine sm_T_bin (w := a9_ - 1) rfl (bi_sub (by omega) (by omega) (by omega)) ?_ -- pc_ 43
          refine sm_T_iald (n := 1024) rfl rfl (by omega) (by omega) ?_
          refine sm_T_iast (n := 1024) rfl rfl (by omega) (by omega) ?_
          have hIx14_ : gi (sm_aI S_ 66 0 a9_.toNat (S_.2.2.1 66 0 (a9_ - 1).toNat)) := gi_aI hI_ (show 0 ≤ (S_.2.2.1 66 0 (a9_ - 1).toNat) ∧ (S_.2.2.1 66 0 (a9_ - 1).toNat) ≤ 1023 from ⟨by omega, by omega⟩)
          have hFx15_ : ai_fr (sx_W vw_103n) S0_ (sm_aI S_ 66 0 a9_.toNat (S_.2.2.1 66 0 (a9_ - 1).toNat)) := ai_fr_tr hF_ (ai_fr_aI rfl)
          refine sm_T_inc (a := 2) (z := (-1)) (v := a9_) (w := a9_ - 1) rfl rfl (by omega) (by omega) (by omega) ?_ -- pc_ 46
          refine sm_T_go 1 (c1 := (12, [some (.inr (.inr (some (6, 0)))), some (.inl i9_), some (.inl (a9_ - 1))], [], sm_aI S_ 66 0 a9_.toNat (S_.2.2.1 66 0 (a9_ - 1).toNat))) rfl ?_
          refine ih_.2 i9_ (a9_ - 1) (sm_aI S_ 66 0 a9_.toNat (S_.2.2.1 66 0 (a9_ - 1).toNat)) hIx14_ hFx15_ ⟨?_, ?_, trivial⟩ ?_
          · omega
          · obtain ⟨O_, hO_⟩ := ho_
            rw [show a9_.toNat = (a9_ - 1).toNat + 1 by omega] at hO_
            have R9_ : ∀ j_ : Nat, (sm_aI S_ 66 0 a9_.toNat (S_.2.2.1 66 0 (a9_ - 1).toNat)).2.2.1 66 0 j_ = if j_ = (a9_ - 1).toNat + 1 then S_.2.2.1 66 0 (a9_ - 1).toNat else S_.2.2.1 66 0 j_ := fun j_ => by (rw [rd_eq, show a9_.toNat = (a9_ - 1).toNat + 1 by omega])
            exact ⟨O_, cos_s hO_ (by (rcases b9_ with z_ | z_; exact z_.2; exfalso; omega)) R9_⟩
          · omega
set_option maxHeartbeats 400000 in
theorem vc_103n {sc_ : Nat × (Nat → Int)}  (S0_ : sm_S) (hI_ : gi S0_) (hdi_ : cdi S0_ (S0_.1 6 0 11)) : sm_T (mt_P sc_) 1 103 (0, [some (.inr (.inr (some (6, 0)))), none, none], [], S0_) (fun ro9_ => ∃ u_ S1_, ro9_ = (.inl u_, S1_, 0) ∧ vq_103n  S0_ u_ S1_) := by
  have hF_ : ai_fr (sx_W vw_103n) S0_ S0_ := ai_fr_rf
  have ck0_ : 0 ≤ S0_.1 6 0 11 ∧ S0_.1 6 0 11 ≤ 1024 := hI_.1 6 0 11 rfl
  refine sm_T_go 2 (c1 := (2, [some (.inr (.inr (some (6, 0)))), some (.inl 0), none], [], S0_)) rfl ?_
  refine (vl_103n S0_ hdi_ _).1 0 S0_ hI_ hF_ ⟨?_, ?_, trivial⟩ (Nat.lt_succ_self _)
  · omega
  · exact ⟨[], cor_0⟩
end
/-! 99.ztZD -/
section
/-! the reference: members with their meaning; written by wip/p55/gen/vg -/

/-! members and cuts of_ the_ reference -/
def mrl (ms_ : List Nat) (S_ : sm_S) : Prop := S_.1 13 0 123 = (ms_.length : Int) ∧ ∀ j_ x_ : Nat, ms_[j_]? = some x_ → S_.2.2.1 212 0 j_ = (x_ : Int)
def crl (L_ : List (List Nat)) (S_ : sm_S) : Prop := S_.1 13 0 114 = (L_.length : Int) ∧ ∀ (i_ : Nat) (c_ : List Nat), L_[i_]? = some c_ → ((2 ≤ c_.length ∧ c_.length ≤ 3) ∧ ris c_) ∧ S_.2.2.1 204 0 i_ = (c_.length : Int) ∧ ∀ k_ x_ : Nat, c_[k_]? = some x_ → S_.2.2.1 205 0 (3 * i_ + k_) = (x_ : Int)
theorem mrl_i {ms_ : List Nat} {x_ a_ : Nat} {S_ S'_ : sm_S} (h_ : mrl ms_ S_) (ha_ : a_ ≤ ms_.length) (h1_ : ∀ j_ z_, j_ < a_ → ms_[j_]? = some z_ → z_ < x_) (h2_ : ∀ j_ z_, a_ ≤ j_ → ms_[j_]? = some z_ → x_ < z_) (e1_ : S'_.1 13 0 123 = S_.1 13 0 123 + 1) (e2_ : ∀ j_ z_ : Nat, ms_[j_]? = some z_ → (j_ < a_ → S'_.2.2.1 212 0 j_ = (z_ : Int)) ∧ (a_ ≤ j_ → S'_.2.2.1 212 0 (j_ + 1) = (z_ : Int))) (e3_ : S'_.2.2.1 212 0 a_ = (x_ : Int)) : mrl (ins x_ ms_) S'_ := by
  rw [← iap_i ha_ h1_ h2_]
  refine ⟨?_, fun j_ z_ q_ => ?_⟩
  · rw [iap_l ha_, e1_, h_.1]
    omega
  · rw [iap_g a_ ms_ j_ ha_] at q_
    by_cases c_ : j_ < a_
    · rw [if_pos c_] at q_
      exact (e2_ j_ z_ q_).1 c_
    · rw [if_neg c_] at q_
      by_cases e_ : j_ = a_
      · rw [if_pos e_] at q_
        cases q_
        rw [e_]
        exact e3_
      · rw [if_neg e_] at q_
        have w_ := (e2_ (j_ - 1) z_ q_).2 (by omega)
        rw [show j_ - 1 + 1 = j_ by omega] at w_
        exact w_

/-! M_.put -/
def vw_396n : sx_Wl := ([(13, 123)], [212], [])
def vq_396n (n_ : Int) (P_ : Int → Prop) (ms_ : List Nat) (S0_ : sm_S) (u_ : Option sm_V) (S1_ : sm_S) : Prop := u_ = none ∧ gi S1_ ∧ ai_fr (sx_W vw_396n) S0_ S1_ ∧ (S1_.1 13 0 123 ≤ S0_.1 13 0 123 + 1 ∧ 1 ≤ S1_.1 13 0 123 ∧ trp P_ S1_ ∧ mrl (ins n_.toNat ms_) S1_)
set_option maxHeartbeats 400000 in
set_option maxRecDepth 20000 in
theorem vl_396n {sc_ : Nat × (Nat → Int)} (n_ : Int) (P_ : Int → Prop) (ms_ : List Nat) (S0_ : sm_S) (hmb_ : mrl ms_ S0_ ∧ ris ms_) (hn_ : 0 ≤ n_ ∧ n_ ≤ 1012) (h1_ : (S0_.1 13 0 123) ≤ 7) (hP_ : P_ n_) (ht_ : trp P_ S0_) : ∀ nn_ : Nat, (∀ (k_ : Int) (S_ : sm_S), gi S_ → ai_fr (sx_W vw_396n) S0_ S_ → ((0 ≤ k_ ∧ k_ ≤ S_.1 13 0 123 ∧ S_.1 13 0 123 = S0_.1 13 0 123) ∧ (trp P_ S_) ∧ ((∀ j_ x_ : Nat, ms_[j_]? = some x_ → S_.2.2.1 212 0 j_ = (x_ : Int)) ∧ ∀ j_ : Nat, (j_ : Int) < k_ → S_.2.2.1 212 0 j_ < n_) ∧ True) → ((500 - k_).toNat) < nn_ → sm_T (mt_P sc_) 0 396 (2, [some (.inr (.inr (some (13, 0)))), some (.inl n_), some (.inl k_), none], [], S_) (fun ro9_ => ∃ u_ S1_, ro9_ = (.inl u_, S1_, 0) ∧ vq_396n n_ P_ ms_ S0_ u_ S1_)) ∧ (∀ (k_ : Int) (i_ : Int) (S_ : sm_S), gi S_ → ai_fr (sx_W vw_396n) S0_ S_ → ((0 ≤ k_ ∧ k_ ≤ i_ ∧ i_ ≤ S_.1 13 0 123 ∧ S_.1 13 0 123 = S0_.1 13 0 123) ∧ (∀ j9_ : Int, 0 ≤ j9_ → j9_ ≤ S_.1 13 0 123 → j9_ ≠ i_ → P_ (S_.2.2.1 212 0 j9_.toNat)) ∧ (∀ j_ x_ : Nat, ms_[j_]? = some x_ → ((j_ : Int) < k_ → (x_ : Int) < n_) ∧ (k_ ≤ (j_ : Int) → n_ < (x_ : Int))) ∧ (∀ j_ x_ : Nat, ms_[j_]? = some x_ → ((j_ : Int) < i_ → S_.2.2.1 212 0 j_ = (x_ : Int)) ∧ (i_ ≤ (j_ : Int) → S_.2.2.1 212 0 (j_ + 1) = (x_ : Int))) ∧ True) → ((100 + i_).toNat) < nn_ → sm_T (mt_P sc_) 0 396 (50, [some (.inr (.inr (some (13, 0)))), some (.inl n_), some (.inl k_), some (.inl i_)], [], S_) (fun ro9_ => ∃ u_ S1_, ro9_ = (.inl u_, S1_, 0) ∧ vq_396n n_ P_ ms_ S0_ u_ S1_)) := by
  intro nn_
  induction nn_ with
  | zero => exact ⟨fun _ _ _ _ _ h_ => absurd h_ (Nat.not_lt_zero _), fun _ _ _ _ _ _ h_ => absurd h_ (Nat.not_lt_zero _)⟩
  | succ nn_ ih_ =>
    refine ⟨?_, ?_⟩
    · rintro k_ S_ hI_ hF_ ⟨h0_, h2_, hq_, -⟩ hm_
      have bx1_ : 0 ≤ S_.1 13 0 123 ∧ S_.1 13 0 123 ≤ 8 := hI_.1 13 0 123 rfl
      refine sm_T_go 3 (c1 := (7, [some (.inr (.inr (some (13, 0)))), some (.inl n_), some (.inl k_), none], [.inl (S_.1 13 0 123), .inl k_], S_)) rfl ?_
      refine sm_T_br (a := 3) (z := 19) rfl (fun cx2_ => ?_) (fun cx2_ => ?_)
      · have cx2_ : (S_.1 13 0 123) ≤ k_ := of_decide_eq_true cx2_
        refine sm_T_go 3 (c1 := (31, [some (.inr (.inr (some (13, 0)))), some (.inl n_), some (.inl k_), none], [.inl (S_.1 13 0 123), .inl k_], S_)) rfl ?_
        refine sm_T_br (a := 3) (z := 14) rfl (fun cx3_ => ?_) (fun cx3_ => ?_)
        · have cx3_ : (S_.1 13 0 123) ≤ k_ := of_decide_eq_true cx3_
          refine sm_T_go 3 (c1 := (50, [some (.inr (.inr (some (13, 0)))), some (.inl n_), some (.inl k_), some (.inl (S_.1 13 0 123))], [], S_)) rfl ?_
          refine ih_.2 k_ (S_.1 13 0 123) S_ hI_ hF_ ⟨?_, ?_, ?_, ?_, trivial⟩ ?_
          · omega
          · (intro j9_ u0_ u1_ u2_; exact h2_ j9_ u0_ (by omega))
          · have ml9_ := hmb_.1.1
            intro j_ x_ q9_
            have v9_ := hq_.1 j_ x_ q9_
            have l9_ := (List.getElem?_eq_some_iff.mp q9_).1
            refine ⟨fun u9_ => (by (have w9_ := hq_.2 j_ u9_; omega)), fun u9_ => ?_⟩
            obtain ⟨y9_, hy9_⟩ : ∃ y9_, ms_[k_.toNat]? = some y9_ := ⟨_, List.getElem?_eq_getElem (by omega)⟩
            have v8_ := hq_.1 _ _ hy9_
            by_cases z9_ : j_ = k_.toNat
            · rw [z9_, hy9_] at q9_; cases q9_; omega
            · have r9_ := ris_lt hmb_.2 (show k_.toNat < j_ by omega) hy9_ q9_; omega
          · have ml9_ := hmb_.1.1
            intro j_ x_ q9_
            have l9_ := (List.getElem?_eq_some_iff.mp q9_).1
            exact ⟨fun _ => hq_.1 j_ x_ q9_, fun u9_ => by (exfalso; omega)⟩
          · omega
        · have cx3_ : ¬ ((S_.1 13 0 123) ≤ k_) := of_decide_eq_false cx3_
          exfalso; omega
      · have cx2_ : ¬ ((S_.1 13 0 123) ≤ k_) := of_decide_eq_false cx2_
        refine sm_T_go 3 (c1 := (15, [some (.inr (.inr (some (13, 0)))), some (.inl n_), some (.inl k_), none], [.inl k_, .inr (.inr (some (212, 0)))], S_)) rfl ?_
        refine sm_T_iald (n := 8) rfl rfl (by omega) (by omega) ?_
        have bx4_ : 0 ≤ S_.2.2.1 212 0 k_.toNat ∧ S_.2.2.1 212 0 k_.toNat ≤ 1012 := hI_.2 212 0 _
        refine sm_T_go 1 (c1 := (17, [some (.inr (.inr (some (13, 0)))), some (.inl n_), some (.inl k_), none], [.inl n_, .inl (S_.2.2.1 212 0 k_.toNat)], S_)) rfl ?_
        refine sm_T_br (a := 3) (z := 9) rfl (fun cx5_ => ?_) (fun cx5_ => ?_)
        · have cx5_ : n_ ≤ (S_.2.2.1 212 0 k_.toNat) := of_decide_eq_true cx5_
          refine sm_T_go 3 (c1 := (31, [some (.inr (.inr (some (13, 0)))), some (.inl n_), some (.inl k_), none], [.inl (S_.1 13 0 123), .inl k_], S_)) rfl ?_
          refine sm_T_br (a := 3) (z := 14) rfl (fun cx6_ => ?_) (fun cx6_ => ?_)
          · have cx6_ : (S_.1 13 0 123) ≤ k_ := of_decide_eq_true cx6_
            exfalso; omega
          · have cx6_ : ¬ ((S_.1 13 0 123) ≤ k_) := of_decide_eq_false cx6_
            refine sm_T_go 3 (c1 := (39, [some (.inr (.inr (some (13, 0)))), some (.inl n_), some (.inl k_), none], [.inl k_, .inr (.inr (some (212, 0)))], S_)) rfl ?_
            refine sm_T_iald (n := 8) rfl rfl (by omega) (by omega) ?_
            refine sm_T_go 1 (c1 := (41, [some (.inr (.inr (some (13, 0)))), some (.inl n_), some (.inl k_), none], [.inl n_, .inl (S_.2.2.1 212 0 k_.toNat)], S_)) rfl ?_
            refine sm_T_br (a := 1) (z := 4) rfl (fun cx7_ => ?_) (fun cx7_ => ?_)
            · have cx7_ : (S_.2.2.1 212 0 k_.toNat) ≠ n_ := of_decide_eq_true cx7_
              refine sm_T_go 3 (c1 := (50, [some (.inr (.inr (some (13, 0)))), some (.inl n_), some (.inl k_), some (.inl (S_.1 13 0 123))], [], S_)) rfl ?_
              refine ih_.2 k_ (S_.1 13 0 123) S_ hI_ hF_ ⟨?_, ?_, ?_, ?_, trivial⟩ ?_
              · omega
              · (intro j9_ u0_ u1_ u2_; exact h2_ j9_ u0_ (by omega))
              · have ml9_ := hmb_.1.1
                intro j_ x_ q9_
                have v9_ := hq_.1 j_ x_ q9_
                have l9_ := (List.getElem?_eq_some_iff.mp q9_).1
                refine ⟨fun u9_ => (by (have w9_ := hq_.2 j_ u9_; omega)), fun u9_ => ?_⟩
                obtain ⟨y9_, hy9_⟩ : ∃ y9_, ms_[k_.toNat]? = some y9_ := ⟨_, List.getElem?_eq_getElem (by omega)⟩
                have v8_ := hq_.1 _ _ hy9_
                by_cases z9_ : j_ = k_.toNat
                · rw [z9_, hy9_] at q9_; cases q9_; omega
                · have r9_ := ris_lt hmb_.2 (show k_.toNat < j_ by omega) hy9_ q9_; omega
              · have ml9_ := hmb_.1.1
                intro j_ x_ q9_
                have l9_ := (List.getElem?_eq_some_iff.mp q9_).1
                exact ⟨fun _ => hq_.1 j_ x_ q9_, fun u9_ => by (exfalso; omega)⟩
              · omega
            · have cx7_ : ¬ ((S_.2.2.1 212 0 k_.toNat) ≠ n_) := of_decide_eq_false cx7_
              refine sm_T_rv rfl ⟨_, _, rfl, rfl, hI_, hF_, ?_⟩
              have ml9_ := hmb_.1.1
              obtain ⟨x9_, hx9_⟩ : ∃ x9_, ms_[k_.toNat]? = some x9_ := ⟨_, List.getElem?_eq_getElem (by omega)⟩
              have v9_ := hq_.1 _ _ hx9_
              refine ⟨by omega, by omega, h2_, ?_⟩
              rw [ins_o hmb_.2 (by (rw [show n_.toNat = x9_ by omega]; exact List.mem_of_getElem? hx9_))]
              exact ⟨by omega, hq_.1⟩
        · have cx5_ : ¬ (n_ ≤ (S_.2.2.1 212 0 k_.toNat)) := of_decide_eq_false cx5_
          refine sm_T_inc (a := 2) (z := 1) (v := k_) (w := k_ + 1) rfl rfl (by omega) (by omega) (by omega) ?_ -- pc_ 20
          refine sm_T_go 1 (c1 := (2, [some (.inr (.inr (some (13, 0)))), some (.inl n_), some (.inl (k_ + 1)), none], [], S_)) rfl ?_
          refine ih_.1 (k_ + 1) S_ hI_ hF_ ⟨?_, ?_, ?_, trivial⟩ ?_
          · omega
          · exact h2_
          · refine ⟨hq_.1, fun j_ hj_ => ?_⟩
            by_cases z9_ : (j_ : Int) = k_
            · have w9_ : j_ = k_.toNat := by omega
              rw [w9_]; omega
            · exact hq_.2 j_ (by omega)
          · omega
    · rintro k_ i_ S_ hI_ hF_ ⟨h0_, h2_, hlo_, hmv_, -⟩ hm_
      refine sm_T_go 2 (c1 := (52, [some (.inr (.inr (some (13, 0)))), some (.inl n_), some (.inl k_), some (.inl i_)], [.inl k_, .inl i_], S_)) rfl ?_
      refine sm_T_br (a := 5) (z := 23) rfl (fun cx1_ => ?_) (fun cx1_ => ?_)
      · have cx1_ : i_ ≤ k_ := of_decide_eq_true cx1_
        refine sm_T_go 4 (c1 := (81, [some (.inr (.inr (some (13, 0)))), some (.inl n_), some (.inl k_), some (.inl i_)], [.inl n_, .inl k_, .inr (.inr (some (212, 0)))], S_)) rfl ?_
        refine sm_T_iast (n := 8) rfl rfl (by omega) (by omega) ?_
        have hIx2_ : gi (sm_aI S_ 212 0 k_.toNat n_) := gi_aI hI_ (show 0 ≤ n_ ∧ n_ ≤ 1012 from ⟨by omega, by omega⟩)
        have hFx3_ : ai_fr (sx_W vw_396n) S0_ (sm_aI S_ 212 0 k_.toNat n_) := ai_fr_tr hF_ (ai_fr_aI rfl)
        have bx4_ : 0 ≤ S_.1 13 0 123 ∧ S_.1 13 0 123 ≤ 8 := hI_.1 13 0 123 rfl
        refine sm_T_go 4 (c1 := (88, [some (.inr (.inr (some (13, 0)))), some (.inl n_), some (.inl k_), some (.inl i_)], [.inl 1, .inl (S_.1 13 0 123), .inr (.inr (some (13, 0)))], sm_aI S_ 212 0 k_.toNat n_)) rfl ?_
        refine sm_T_bin (w := (S_.1 13 0 123) + 1) rfl (bi_add (by omega) (by omega) (by omega)) ?_ -- pc_ 88
        have hIx5_ : gi (sm_pI (sm_aI S_ 212 0 k_.toNat n_) 13 0 123 ((S_.1 13 0 123) + 1)) := gi_pI hIx2_ (show 0 ≤ (S_.1 13 0 123) + 1 ∧ (S_.1 13 0 123) + 1 ≤ 8 from ⟨by omega, by omega⟩)
        have hFx6_ : ai_fr (sx_W vw_396n) S0_ (sm_pI (sm_aI S_ 212 0 k_.toNat n_) 13 0 123 ((S_.1 13 0 123) + 1)) := ai_fr_tr hFx3_ (ai_fr_pI rfl)
        refine sm_T_go 1 (c1 := (92, [some (.inr (.inr (some (13, 0)))), some (.inl n_), some (.inl k_), some (.inl i_)], [], sm_pI (sm_aI S_ 212 0 k_.toNat n_) 13 0 123 ((S_.1 13 0 123) + 1))) rfl ?_
        refine sm_T_rv rfl ⟨_, _, rfl, rfl, hIx5_, hFx6_, ?_⟩
        have ml9_ := hmb_.1.1
        refine ⟨by (rw [rf_eq]; omega), by (rw [rf_eq]; omega), fun j9_ u0_ u1_ => ?_, ?_⟩
        · rw [rf_eq] at u1_
          (try simp only [rd_eq, rd_ne, rf_eq, rf_nk, rf_nt, rd_fa, rd_af, rd_fl, rd_al, rd_lf, rd_la, rd_leq, rd_lne, rd_fr, rd_ar, ne_eq, Nat.reduceEqDiff, not_false_eq_true])
          by_cases z9_ : j9_.toNat = k_.toNat
          · rw [if_pos z9_]; exact hP_
          · rw [if_neg z9_]; exact h2_ j9_ u0_ (by omega) (by omega)
        · refine mrl_i (a_ := k_.toNat) hmb_.1 (by omega) (fun j_ z_ q1_ q2_ => ?_) (fun j_ z_ q1_ q2_ => ?_) (by (rw [rf_eq]; omega)) (fun j_ z_ q2_ => ⟨fun q1_ => ?_, fun q1_ => ?_⟩) (by (rw [rd_fa, rd_eq, if_pos rfl]; omega))
          · have w9_ := (hlo_ j_ z_ q2_).1 (by omega); omega
          · have w9_ := (hlo_ j_ z_ q2_).2 (by omega); omega
          · have w9_ := (hmv_ j_ z_ q2_).1 (by omega); (try simp only [rd_eq, rd_ne, rf_eq, rf_nk, rf_nt, rd_fa, rd_af, rd_fl, rd_al, rd_lf, rd_la, rd_leq, rd_lne, rd_fr, rd_ar, ne_eq, Nat.reduceEqDiff, not_false_eq_true]); rw [if_neg (by omega)]; exact w9_
          · have w9_ := (hmv_ j_ z_ q2_).2 (by omega); (try simp only [rd_eq, rd_ne, rf_eq, rf_nk, rf_nt, rd_fa, rd_af, rd_fl, rd_al, rd_lf, rd_la, rd_leq, rd_lne, rd_fr, rd_ar, ne_eq, Nat.reduceEqDiff, not_false_eq_true]); rw [if_neg (by omega)]; exact w9_
      · have cx1_ : ¬ (i_ ≤ k_) := of_decide_eq_false cx1_
        refine sm_T_go 7 (c1 := (66, [some (.inr (.inr (some (13, 0)))), some (.inl n_), some (.inl k_), some (.inl i_)], [.inl 1, .inl i_, .inr (.inr (some (212, 0))), .inl i_, .inr (.inr (some (212, 0)))], S_)) rfl ?_
        refine sm_T_bin (w := i_ - 1) rfl (bi_sub (by omega) (by omega) (by omega)) ?_ -- pc_ 66
        refine sm_T_iald (n := 8) rfl rfl (by omega) (by omega) ?_
        have bx7_ : 0 ≤ S_.2.2.1 212 0 (i_ - 1).toNat ∧ S_.2.2.1 212 0 (i_ - 1).toNat ≤ 1012 := hI_.2 212 0 _
        refine sm_T_iast (n := 8) rfl rfl (by omega) (by omega) ?_
        have hIx8_ : gi (sm_aI S_ 212 0 i_.toNat (S_.2.2.1 212 0 (i_ - 1).toNat)) := gi_aI hI_ (show 0 ≤ (S_.2.2.1 212 0 (i_ - 1).toNat) ∧ (S_.2.2.1 212 0 (i_ - 1).toNat) ≤ 1012 from ⟨by omega, by omega⟩)
        have hFx9_ : ai_fr (sx_W vw_396n) S0_ (sm_aI S_ 212 0 i_.toNat (S_.2.2.1 212 0 (i_ - 1).toNat)) := ai_fr_tr hF_ (ai_fr_aI rfl)
        refine sm_T_inc (a := 3) (z := (-1)) (v := i_) (w := i_ - 1) rfl rfl (by omega) (by omega) (by omega) ?_ -- pc_ 69
        refine sm_T_go 1 (c1 := (50, [some (.inr (.inr (some (13, 0)))), some (.inl n_), some (.inl k_), some (.inl (i_ - 1))], [], sm_aI S_ 212 0 i_.toNat (S_.2.2.1 212 0 (i_ - 1).toNat))) rfl ?_
        refine ih_.2 k_ (i_ - 1) (sm_aI S_ 212 0 i_.toNat (S_.2.2.1 212 0 (i_ - 1).toNat)) hIx8_ hFx9_ ⟨?_, ?_, ?_, ?_, trivial⟩ ?_
        · ((try simp only [rd_eq, rd_ne, rf_eq, rf_nk, rf_nt, rd_fa, rd_af, rd_fl, rd_al, rd_lf, rd_la, rd_leq, rd_lne, rd_fr, rd_ar, ne_eq, Nat.reduceEqDiff, not_false_eq_true]); omega)
        · intro j9_ u0_ u1_ u2_
          rw [rd_eq]
          by_cases z9_ : j9_.toNat = i_.toNat
          · rw [if_pos z9_]; exact h2_ (i_ - 1) (by omega) (by omega) (by omega)
          · rw [if_neg z9_]; exact h2_ j9_ u0_ u1_ (by omega)
        · exact hlo_
        · have ml9_ := hmb_.1.1
          intro j_ x_ q9_
          have w9_ := hmv_ j_ x_ q9_
          refine ⟨fun u9_ => ?_, fun u9_ => ?_⟩
          · rw [rd_eq, if_neg (by omega)]; exact w9_.1 (by omega)
          · by_cases z9_ : (j_ : Int) = i_ - 1
            · have v9_ := w9_.1 (by omega)
              rw [rd_eq, if_pos (by omega), show (i_ - 1).toNat = j_ by omega]
              exact v9_
            · rw [rd_eq, if_neg (by omega)]; exact w9_.2 (by omega)
        · omega
set_option maxHeartbeats 400000 in
set_option maxRecDepth 20000 in
theorem vc_396n {sc_ : Nat × (Nat → Int)} (n_ : Int) (P_ : Int → Prop) (ms_ : List Nat) (S0_ : sm_S) (hI_ : gi S0_) (hmb_ : mrl ms_ S0_ ∧ ris ms_) (hn_ : 0 ≤ n_ ∧ n_ ≤ 1012) (h1_ : (S0_.1 13 0 123) ≤ 7) (hP_ : P_ n_) (ht_ : trp P_ S0_) : sm_T (mt_P sc_) 0 396 (0, [some (.inr (.inr (some (13, 0)))), some (.inl n_), none, none], [], S0_) (fun ro9_ => ∃ u_ S1_, ro9_ = (.inl u_, S1_, 0) ∧ vq_396n n_ P_ ms_ S0_ u_ S1_) := by
  have hF_ : ai_fr (sx_W vw_396n) S0_ S0_ := ai_fr_rf
  refine sm_T_go 2 (c1 := (2, [some (.inr (.inr (some (13, 0)))), some (.inl n_), some (.inl 0), none], [], S0_)) rfl ?_
  refine (vl_396n n_ P_ ms_ S0_ hmb_ hn_ h1_ hP_ ht_ _).1 0 S0_ hI_ hF_ ⟨?_, ?_, ?_, trivial⟩ (Nat.lt_succ_self _)
  · (have c9_ : 0 ≤ S0_.1 13 0 123 := (hI_.1 13 0 123 rfl).1; omega)
  · exact ht_
  · exact ⟨hmb_.1.2, fun j_ hj_ => by (exfalso; omega)⟩
end
/-! 99.ztZE -/
section
/-! the reference: cuts kept, with their meaning; written by wip/p55/gen/vg -/
/-! M_.keepCut -/
def vw_397n : sx_Wl := ([(13, 114)], [204, 205], [])
def vq_397n (P_ : Int → Prop) (ms_ : List Nat) (L_ : List (List Nat)) (S0_ : sm_S) (u_ : Option sm_V) (S1_ : sm_S) : Prop := u_ = none ∧ gi S1_ ∧ ai_fr (sx_W vw_397n) S0_ S1_ ∧ (S0_.1 13 0 114 ≤ S1_.1 13 0 114 ∧ ctp P_ S1_ ∧ crl (if ms_.length ≤ 3 ∧ ¬ ms_ ∈ L_ then L_ ++ [ms_] else L_) S1_)
set_option maxHeartbeats 1000000 in
set_option maxRecDepth 20000 in
theorem vl_397n {sc_ : Nat × (Nat → Int)} (P_ : Int → Prop) (ms_ : List Nat) (L_ : List (List Nat)) (S0_ : sm_S) (hmb_ : mrl ms_ S0_) (hrs_ : ris ms_ ∧ 2 ≤ ms_.length) (hcb_ : crl L_ S0_ ∧ L_.length ≤ 60) (h1_ : 1 ≤ (S0_.1 13 0 123)) (ht_ : trp P_ S0_) (hc_ : ctp P_ S0_) : ∀ nn_ : Nat, (∀ (c_ : Int) (S_ : sm_S), gi S_ → ai_fr (sx_W vw_397n) S0_ S_ → ((0 ≤ c_ ∧ c_ ≤ 64 ∧ S_.1 13 0 114 ≤ 63 ∧ S_.1 13 0 123 ≤ 3 ∧ S_.1 13 0 114 = S0_.1 13 0 114) ∧ (ctp P_ S_) ∧ (crl L_ S_) ∧ (∀ (i_ : Nat) (e_ : List Nat), (i_ : Int) < c_ → L_[i_]? = some e_ → e_ ≠ ms_) ∧ True) → ((10000 * (100 - c_) + 900).toNat) < nn_ → sm_T (mt_P sc_) 0 397 (20, [some (.inr (.inr (some (13, 0)))), some (.inl c_), none, none], [], S_) (fun ro9_ => ∃ u_ S1_, ro9_ = (.inl u_, S1_, 0) ∧ vq_397n P_ ms_ L_ S0_ u_ S1_)) ∧ (∀ (c_ : Int) (sm_ : Int) (k_ : Int) (S_ : sm_S), gi S_ → ai_fr (sx_W vw_397n) S0_ S_ → ((0 ≤ c_ ∧ c_ < S_.1 13 0 114 ∧ S_.1 13 0 114 ≤ 63 ∧ S_.1 13 0 123 ≤ 3 ∧ 0 ≤ k_ ∧ k_ ≤ 3 ∧ S_.1 13 0 114 = S0_.1 13 0 114) ∧ (ctp P_ S_) ∧ (crl L_ S_) ∧ (∀ (i_ : Nat) (e_ : List Nat), (i_ : Int) < c_ → L_[i_]? = some e_ → e_ ≠ ms_) ∧ (∃ c9_ : List Nat, L_[c_.toNat]? = some c9_ ∧ ((sm_ = 1 ∧ c9_.length = ms_.length ∧ ∀ j_ : Nat, (j_ : Int) < k_ → c9_[j_]? = ms_[j_]?) ∨ (sm_ = 0 ∧ c9_ ≠ ms_))) ∧ True) → ((10000 * (100 - c_) + 800 - k_).toNat) < nn_ → sm_T (mt_P sc_) 0 397 (49, [some (.inr (.inr (some (13, 0)))), some (.inl c_), some (.inl sm_), some (.inl k_)], [], S_) (fun ro9_ => ∃ u_ S1_, ro9_ = (.inl u_, S1_, 0) ∧ vq_397n P_ ms_ L_ S0_ u_ S1_)) ∧ (∀ (k_ : Int) (S_ : sm_S), gi S_ → ai_fr (sx_W vw_397n) S0_ S_ → ((0 ≤ k_ ∧ k_ ≤ S_.1 13 0 123 ∧ S_.1 13 0 114 ≤ 63 ∧ 0 ≤ S_.1 13 0 114 ∧ S_.1 13 0 123 ≤ 3 ∧ S_.1 13 0 123 = S0_.1 13 0 123 ∧ S_.1 13 0 114 = S0_.1 13 0 114) ∧ (ctp P_ S_) ∧ (S_.2.2.1 204 0 (S_.1 13 0 114).toNat = S_.1 13 0 123) ∧ (∀ j9_ : Int, 0 ≤ j9_ → j9_ < k_ → P_ (S_.2.2.1 205 0 (3 * S_.1 13 0 114 + j9_).toNat)) ∧ (crl L_ S_) ∧ (¬ ms_ ∈ L_) ∧ (∀ j_ : Nat, (j_ : Int) < k_ → S_.2.2.1 205 0 (3 * S_.1 13 0 114 + (j_ : Int)).toNat = S_.2.2.1 212 0 j_) ∧ True) → ((500 - k_).toNat) < nn_ → sm_T (mt_P sc_) 0 397 (118, [some (.inr (.inr (some (13, 0)))), some (.inl k_), none, none], [], S_) (fun ro9_ => ∃ u_ S1_, ro9_ = (.inl u_, S1_, 0) ∧ vq_397n P_ ms_ L_ S0_ u_ S1_)) := by
  intro nn_
  induction nn_ with
  | zero => exact ⟨fun _ _ _ _ _ h_ => absurd h_ (Nat.not_lt_zero _), fun _ _ _ _ _ _ _ h_ => absurd h_ (Nat.not_lt_zero _), fun _ _ _ _ _ h_ => absurd h_ (Nat.not_lt_zero _)⟩
  | succ nn_ ih_ =>
    refine ⟨?_, ?_, ?_⟩
    · rintro c_ S_ hI_ hF_ ⟨h0_, h2_, hcl_, hne_, -⟩ hm_
      have g23_ : S_.1 13 0 123 = S0_.1 13 0 123 := hF_.1 13 0 123 rfl
      have m9_ : mrl ms_ S_ := ⟨(hF_.1 13 0 123 rfl).trans hmb_.1, fun j_ x_ q_ => by (rw [fr_arr (t := 212) hF_ rfl]; exact hmb_.2 j_ x_ q_)⟩
      have bx1_ : 0 ≤ S_.1 13 0 114 ∧ S_.1 13 0 114 ≤ 64 := hI_.1 13 0 114 rfl
      refine sm_T_go 3 (c1 := (25, [some (.inr (.inr (some (13, 0)))), some (.inl c_), none, none], [.inl (S_.1 13 0 114), .inl c_], S_)) rfl ?_
      refine sm_T_br (a := 3) (z := 78) rfl (fun cx2_ => ?_) (fun cx2_ => ?_)
      · have cx2_ : (S_.1 13 0 114) ≤ c_ := of_decide_eq_true cx2_
        have bx3_ : 0 ≤ S_.1 13 0 123 ∧ S_.1 13 0 123 ≤ 8 := hI_.1 13 0 123 rfl
        refine sm_T_go 6 (c1 := (115, [some (.inr (.inr (some (13, 0)))), some (.inl c_), none, none], [.inl (S_.1 13 0 123), .inl (S_.1 13 0 114), .inr (.inr (some (204, 0)))], S_)) rfl ?_
        refine sm_T_iast (n := 64) rfl rfl (by omega) (by omega) ?_
        have hIx4_ : gi (sm_aI S_ 204 0 (S_.1 13 0 114).toNat (S_.1 13 0 123)) := gi_aI hI_ (show 0 ≤ (S_.1 13 0 123) ∧ (S_.1 13 0 123) ≤ 3 from ⟨by omega, by omega⟩)
        have hFx5_ : ai_fr (sx_W vw_397n) S0_ (sm_aI S_ 204 0 (S_.1 13 0 114).toNat (S_.1 13 0 123)) := ai_fr_tr hF_ (ai_fr_aI rfl)
        refine sm_T_go 2 (c1 := (118, [some (.inr (.inr (some (13, 0)))), some (.inl 0), none, none], [], sm_aI S_ 204 0 (S_.1 13 0 114).toNat (S_.1 13 0 123))) rfl ?_
        refine ih_.2.2 0 (sm_aI S_ 204 0 (S_.1 13 0 114).toNat (S_.1 13 0 123)) hIx4_ hFx5_ ⟨?_, ?_, ?_, ?_, ?_, ?_, ?_, trivial⟩ ?_
        · ((try simp only [rd_eq, rd_ne, rf_eq, rf_nk, rf_nt, rd_fa, rd_af, rd_fl, rd_al, rd_lf, rd_la, rd_leq, rd_lne, rd_fr, rd_ar, ne_eq, Nat.reduceEqDiff, not_false_eq_true]); omega)
        · intro c9_ u0_ u1_
          (try simp only [rd_eq, rd_ne, rf_eq, rf_nk, rf_nt, rd_fa, rd_af, rd_fl, rd_al, rd_lf, rd_la, rd_leq, rd_lne, rd_fr, rd_ar, ne_eq, Nat.reduceEqDiff, not_false_eq_true] at *)
          (try simp only [rd_eq, rd_ne, rf_eq, rf_nk, rf_nt, rd_fa, rd_af, rd_fl, rd_al, rd_lf, rd_la, rd_leq, rd_lne, rd_fr, rd_ar, ne_eq, Nat.reduceEqDiff, not_false_eq_true])
          rw [if_neg (by omega)]
          exact h2_ c9_ u0_ u1_
        · ((try simp only [rd_eq, rd_ne, rf_eq, rf_nk, rf_nt, rd_fa, rd_af, rd_fl, rd_al, rd_lf, rd_la, rd_leq, rd_lne, rd_fr, rd_ar, ne_eq, Nat.reduceEqDiff, not_false_eq_true]); first | rw [if_pos rfl] | rfl | skip)
        · (intro j9_ u0_ u1_; exfalso; omega)
        · have cl9_ := hcl_.1
          refine ⟨by ((try simp only [rd_eq, rd_ne, rf_eq, rf_nk, rf_nt, rd_fa, rd_af, rd_fl, rd_al, rd_lf, rd_la, rd_leq, rd_lne, rd_fr, rd_ar, ne_eq, Nat.reduceEqDiff, not_false_eq_true]); exact hcl_.1), fun i_ e_ q_ => ?_⟩
          have w9_ := hcl_.2 i_ e_ q_
          have l9_ := (List.getElem?_eq_some_iff.mp q_).1
          refine ⟨w9_.1, ?_, fun k9_ x_ q2_ => ?_⟩
          · (try simp only [rd_eq, rd_ne, rf_eq, rf_nk, rf_nt, rd_fa, rd_af, rd_fl, rd_al, rd_lf, rd_la, rd_leq, rd_lne, rd_fr, rd_ar, ne_eq, Nat.reduceEqDiff, not_false_eq_true]); rw [if_neg (by omega)]; exact w9_.2.1
          · (try simp only [rd_eq, rd_ne, rf_eq, rf_nk, rf_nt, rd_fa, rd_af, rd_fl, rd_al, rd_lf, rd_la, rd_leq, rd_lne, rd_fr, rd_ar, ne_eq, Nat.reduceEqDiff, not_false_eq_true]); exact w9_.2.2 k9_ x_ q2_
        · have cl9_ := hcl_.1
          intro z_
          obtain ⟨i9_, hi9_⟩ := List.getElem?_of_mem z_
          exact hne_ i9_ ms_ (by (have l9_ := (List.getElem?_eq_some_iff.mp hi9_).1; omega)) hi9_ rfl
        · (intro j_ hj_; exfalso; omega)
        · omega
      · have cx2_ : ¬ ((S_.1 13 0 114) ≤ c_) := of_decide_eq_false cx2_
        refine sm_T_go 3 (c1 := (33, [some (.inr (.inr (some (13, 0)))), some (.inl c_), none, none], [.inl c_, .inr (.inr (some (204, 0)))], S_)) rfl ?_
        refine sm_T_iald (n := 64) rfl rfl (by omega) (by omega) ?_
        have bx6_ : 0 ≤ S_.2.2.1 204 0 c_.toNat ∧ S_.2.2.1 204 0 c_.toNat ≤ 3 := hI_.2 204 0 _
        have bx7_ : 0 ≤ S_.1 13 0 123 ∧ S_.1 13 0 123 ≤ 8 := hI_.1 13 0 123 rfl
        refine sm_T_go 2 (c1 := (38, [some (.inr (.inr (some (13, 0)))), some (.inl c_), none, none], [.inl (S_.1 13 0 123), .inl (S_.2.2.1 204 0 c_.toNat)], S_)) rfl ?_
        refine sm_T_br (a := 1) (z := 7) rfl (fun cx8_ => ?_) (fun cx8_ => ?_)
        · have cx8_ : (S_.2.2.1 204 0 c_.toNat) ≠ (S_.1 13 0 123) := of_decide_eq_true cx8_
          refine sm_T_go 4 (c1 := (49, [some (.inr (.inr (some (13, 0)))), some (.inl c_), some (.inl 0), some (.inl 0)], [], S_)) rfl ?_
          refine ih_.2.1 c_ 0 0 S_ hI_ hF_ ⟨?_, ?_, ?_, ?_, ?_, trivial⟩ ?_
          · omega
          · exact h2_
          · exact hcl_
          · exact hne_
          · have ml9_ := m9_.1
            have cl9_ := hcl_.1
            obtain ⟨c9_, hc9_⟩ : ∃ c9_, L_[c_.toNat]? = some c9_ := ⟨_, List.getElem?_eq_getElem (by omega)⟩
            have w9_ := (hcl_.2 _ _ hc9_).2.1
            refine ⟨c9_, hc9_, ?_⟩
            first | exact Or.inl ⟨by omega, by omega, fun j_ hj_ => by (exfalso; omega)⟩ | exact Or.inr ⟨by omega, fun e9_ => by (rw [e9_] at w9_; omega)⟩
          · omega
        · have cx8_ : ¬ ((S_.2.2.1 204 0 c_.toNat) ≠ (S_.1 13 0 123)) := of_decide_eq_false cx8_
          refine sm_T_go 5 (c1 := (49, [some (.inr (.inr (some (13, 0)))), some (.inl c_), some (.inl 1), some (.inl 0)], [], S_)) rfl ?_
          refine ih_.2.1 c_ 1 0 S_ hI_ hF_ ⟨?_, ?_, ?_, ?_, ?_, trivial⟩ ?_
          · omega
          · exact h2_
          · exact hcl_
          · exact hne_
          · have ml9_ := m9_.1
            have cl9_ := hcl_.1
            obtain ⟨c9_, hc9_⟩ : ∃ c9_, L_[c_.toNat]? = some c9_ := ⟨_, List.getElem?_eq_getElem (by omega)⟩
            have w9_ := (hcl_.2 _ _ hc9_).2.1
            refine ⟨c9_, hc9_, ?_⟩
            first | exact Or.inl ⟨by omega, by omega, fun j_ hj_ => by (exfalso; omega)⟩ | exact Or.inr ⟨by omega, fun e9_ => by (rw [e9_] at w9_; omega)⟩
          · omega
    · rintro c_ sm_ k_ S_ hI_ hF_ ⟨h0_, h2_, hcl_, hne_, hsm_, -⟩ hm_
      have m9_ : mrl ms_ S_ := ⟨(hF_.1 13 0 123 rfl).trans hmb_.1, fun j_ x_ q_ => by (rw [fr_arr (t := 212) hF_ rfl]; exact hmb_.2 j_ x_ q_)⟩
      have bx1_ : 0 ≤ S_.1 13 0 123 ∧ S_.1 13 0 123 ≤ 8 := hI_.1 13 0 123 rfl
      refine sm_T_go 3 (c1 := (54, [some (.inr (.inr (some (13, 0)))), some (.inl c_), some (.inl sm_), some (.inl k_)], [.inl (S_.1 13 0 123), .inl k_], S_)) rfl ?_
      refine sm_T_br (a := 3) (z := 38) rfl (fun cx2_ => ?_) (fun cx2_ => ?_)
      · have cx2_ : (S_.1 13 0 123) ≤ k_ := of_decide_eq_true cx2_
        refine sm_T_go 1 (c1 := (93, [some (.inr (.inr (some (13, 0)))), some (.inl c_), some (.inl sm_), some (.inl k_)], [.inl sm_], S_)) rfl ?_
        refine sm_T_b0 (a := 0) (z := 4) rfl (fun cx3_ => ?_) (fun cx3_ => ?_)
        · have cx3_ : sm_ = 0 := of_decide_eq_true cx3_
          refine sm_T_inc (a := 1) (z := 1) (v := c_) (w := c_ + 1) rfl rfl (by omega) (by omega) (by omega) ?_ -- pc_ 97
          refine sm_T_go 1 (c1 := (20, [some (.inr (.inr (some (13, 0)))), some (.inl (c_ + 1)), some (.inl sm_), some (.inl k_)], [], S_)) rfl ?_
          refine sm_T_wk [some (.inr (.inr (some (13, 0)))), some (.inl (c_ + 1)), none, none] (by exact ⟨rfl, rfl, trivial⟩) ?_
          refine ih_.1 (c_ + 1) S_ hI_ hF_ ⟨?_, ?_, ?_, ?_, trivial⟩ ?_
          · omega
          · exact h2_
          · exact hcl_
          · obtain ⟨c9_, hc9_, hs9_⟩ := hsm_
            intro i_ e_ u_ q_
            by_cases z9_ : (i_ : Int) = c_
            · rw [show i_ = c_.toNat by omega, hc9_] at q_
              cases q_
              rcases hs9_ with ⟨s1_, _⟩ | ⟨_, s2_⟩
              · exfalso; omega
              · exact s2_
            · exact hne_ i_ e_ (by omega) q_
          · omega
        · have cx3_ : ¬ (sm_ = 0) := of_decide_eq_false cx3_
          refine sm_T_rv rfl ⟨_, _, rfl, rfl, hI_, hF_, ?_⟩
          have ml9_ := m9_.1
          obtain ⟨c9_, hc9_, hs9_⟩ := hsm_
          rcases hs9_ with ⟨s1_, s2_, s3_⟩ | ⟨s1_, s2_⟩
          · have e9_ : c9_ = ms_ := List.ext_getElem? (fun j_ => by (by_cases z9_ : j_ < ms_.length; exact s3_ j_ (by omega); rw [List.getElem?_eq_none (by omega), List.getElem?_eq_none (by omega)]))
            refine ⟨by omega, h2_, ?_⟩
            rw [if_neg (fun z_ => z_.2 (by (rw [← e9_]; exact List.mem_of_getElem? hc9_)))]
            exact hcl_
          · exfalso; omega
      · have cx2_ : ¬ ((S_.1 13 0 123) ≤ k_) := of_decide_eq_false cx2_
        refine sm_T_go 1 (c1 := (58, [some (.inr (.inr (some (13, 0)))), some (.inl c_), some (.inl sm_), some (.inl k_)], [.inl sm_], S_)) rfl ?_
        refine sm_T_b0 (a := 0) (z := 34) rfl (fun cx4_ => ?_) (fun cx4_ => ?_)
        · have cx4_ : sm_ = 0 := of_decide_eq_true cx4_
          refine sm_T_go 1 (c1 := (93, [some (.inr (.inr (some (13, 0)))), some (.inl c_), some (.inl sm_), some (.inl k_)], [.inl sm_], S_)) rfl ?_
          refine sm_T_b0 (a := 0) (z := 4) rfl (fun cx5_ => ?_) (fun cx5_ => ?_)
          · have cx5_ : sm_ = 0 := of_decide_eq_true cx5_
            refine sm_T_inc (a := 1) (z := 1) (v := c_) (w := c_ + 1) rfl rfl (by omega) (by omega) (by omega) ?_ -- pc_ 97
            refine sm_T_go 1 (c1 := (20, [some (.inr (.inr (some (13, 0)))), some (.inl (c_ + 1)), some (.inl sm_), some (.inl k_)], [], S_)) rfl ?_
            refine sm_T_wk [some (.inr (.inr (some (13, 0)))), some (.inl (c_ + 1)), none, none] (by exact ⟨rfl, rfl, trivial⟩) ?_
            refine ih_.1 (c_ + 1) S_ hI_ hF_ ⟨?_, ?_, ?_, ?_, trivial⟩ ?_
            · omega
            · exact h2_
            · exact hcl_
            · obtain ⟨c9_, hc9_, hs9_⟩ := hsm_
              intro i_ e_ u_ q_
              by_cases z9_ : (i_ : Int) = c_
              · rw [show i_ = c_.toNat by omega, hc9_] at q_
                cases q_
                rcases hs9_ with ⟨s1_, _⟩ | ⟨_, s2_⟩
                · exfalso; omega
                · exact s2_
              · exact hne_ i_ e_ (by omega) q_
            · omega
          · have cx5_ : ¬ (sm_ = 0) := of_decide_eq_false cx5_
            exfalso; omega
        · have cx4_ : ¬ (sm_ = 0) := of_decide_eq_false cx4_
          refine sm_T_go 4 (c1 := (67, [some (.inr (.inr (some (13, 0)))), some (.inl c_), some (.inl sm_), some (.inl k_)], [.inl c_, .inl 3, .inr (.inr (some (205, 0)))], S_)) rfl ?_
          refine sm_T_bin (w := 3 * c_) rfl (bi_mul (by omega) (by omega) (by omega)) ?_ -- pc_ 67
          refine sm_T_go 1 (c1 := (69, [some (.inr (.inr (some (13, 0)))), some (.inl c_), some (.inl sm_), some (.inl k_)], [.inl k_, .inl (3 * c_), .inr (.inr (some (205, 0)))], S_)) rfl ?_
          refine sm_T_bin (w := 3 * c_ + k_) rfl (bi_add (by omega) (by omega) (by omega)) ?_ -- pc_ 69
          refine sm_T_iald (n := 192) rfl rfl (by omega) (by omega) ?_
          have bx6_ : 0 ≤ S_.2.2.1 205 0 (3 * c_ + k_).toNat ∧ S_.2.2.1 205 0 (3 * c_ + k_).toNat ≤ 1012 := hI_.2 205 0 _
          refine sm_T_go 3 (c1 := (76, [some (.inr (.inr (some (13, 0)))), some (.inl c_), some (.inl sm_), some (.inl k_)], [.inl k_, .inr (.inr (some (212, 0))), .inl (S_.2.2.1 205 0 (3 * c_ + k_).toNat)], S_)) rfl ?_
          refine sm_T_iald (n := 8) rfl rfl (by omega) (by omega) ?_
          have bx7_ : 0 ≤ S_.2.2.1 212 0 k_.toNat ∧ S_.2.2.1 212 0 k_.toNat ≤ 1012 := hI_.2 212 0 _
          refine sm_T_br (a := 1) (z := 7) rfl (fun cx8_ => ?_) (fun cx8_ => ?_)
          · have cx8_ : (S_.2.2.1 205 0 (3 * c_ + k_).toNat) ≠ (S_.2.2.1 212 0 k_.toNat) := of_decide_eq_true cx8_
            refine sm_T_go 2 (c1 := (86, [some (.inr (.inr (some (13, 0)))), some (.inl c_), some (.inl 0), some (.inl k_)], [], S_)) rfl ?_
            refine sm_T_inc (a := 3) (z := 1) (v := k_) (w := k_ + 1) rfl rfl (by omega) (by omega) (by omega) ?_ -- pc_ 86
            refine sm_T_go 1 (c1 := (49, [some (.inr (.inr (some (13, 0)))), some (.inl c_), some (.inl 0), some (.inl (k_ + 1))], [], S_)) rfl ?_
            refine ih_.2.1 c_ 0 (k_ + 1) S_ hI_ hF_ ⟨?_, ?_, ?_, ?_, ?_, trivial⟩ ?_
            · omega
            · exact h2_
            · exact hcl_
            · exact hne_
            · have ml9_ := m9_.1
              obtain ⟨c9_, hc9_, hs9_⟩ := hsm_
              have w9_ := hcl_.2 _ _ hc9_
              rcases hs9_ with ⟨s1_, s2_, s3_⟩ | ⟨s1_, s2_⟩
              · obtain ⟨x9_, hx9_⟩ : ∃ x9_, ms_[k_.toNat]? = some x9_ := ⟨_, List.getElem?_eq_getElem (by omega)⟩
                obtain ⟨y9_, hy9_⟩ : ∃ y9_, c9_[k_.toNat]? = some y9_ := ⟨_, List.getElem?_eq_getElem (by omega)⟩
                have vx_ := m9_.2 _ _ hx9_
                have vy_ := w9_.2.2 _ _ hy9_
                rw [show 3 * c_.toNat + k_.toNat = (3 * c_ + k_).toNat by omega] at vy_
                refine ⟨c9_, hc9_, ?_⟩
                first | exact Or.inl ⟨by omega, s2_, fun j_ hj_ => by (by_cases z9_ : j_ = k_.toNat; (rw [z9_, hx9_, hy9_, show y9_ = x9_ by omega]); exact s3_ j_ (by omega))⟩ | exact Or.inr ⟨by omega, fun e9_ => by (rw [e9_, hx9_] at hy9_; cases hy9_; omega)⟩
              · exfalso; omega
            · omega
          · have cx8_ : ¬ ((S_.2.2.1 205 0 (3 * c_ + k_).toNat) ≠ (S_.2.2.1 212 0 k_.toNat)) := of_decide_eq_false cx8_
            refine sm_T_go 3 (c1 := (86, [some (.inr (.inr (some (13, 0)))), some (.inl c_), some (.inl 1), some (.inl k_)], [], S_)) rfl ?_
            refine sm_T_inc (a := 3) (z := 1) (v := k_) (w := k_ + 1) rfl rfl (by omega) (by omega) (by omega) ?_ -- pc_ 86
            refine sm_T_go 1 (c1 := (49, [some (.inr (.inr (some (13, 0)))), some (.inl c_), some (.inl 1), some (.inl (k_ + 1))], [], S_)) rfl ?_
            refine ih_.2.1 c_ 1 (k_ + 1) S_ hI_ hF_ ⟨?_, ?_, ?_, ?_, ?_, trivial⟩ ?_
            · omega
            · exact h2_
            · exact hcl_
            · exact hne_
            · have ml9_ := m9_.1
              obtain ⟨c9_, hc9_, hs9_⟩ := hsm_
              have w9_ := hcl_.2 _ _ hc9_
              rcases hs9_ with ⟨s1_, s2_, s3_⟩ | ⟨s1_, s2_⟩
              · obtain ⟨x9_, hx9_⟩ : ∃ x9_, ms_[k_.toNat]? = some x9_ := ⟨_, List.getElem?_eq_getElem (by omega)⟩
                obtain ⟨y9_, hy9_⟩ : ∃ y9_, c9_[k_.toNat]? = some y9_ := ⟨_, List.getElem?_eq_getElem (by omega)⟩
                have vx_ := m9_.2 _ _ hx9_
                have vy_ := w9_.2.2 _ _ hy9_
                rw [show 3 * c_.toNat + k_.toNat = (3 * c_ + k_).toNat by omega] at vy_
                refine ⟨c9_, hc9_, ?_⟩
                first | exact Or.inl ⟨by omega, s2_, fun j_ hj_ => by (by_cases z9_ : j_ = k_.toNat; (rw [z9_, hx9_, hy9_, show y9_ = x9_ by omega]); exact s3_ j_ (by omega))⟩ | exact Or.inr ⟨by omega, fun e9_ => by (rw [e9_, hx9_] at hy9_; cases hy9_; omega)⟩
              · exfalso; omega
            · omega
    · rintro k_ S_ hI_ hF_ ⟨h0_, h2_, h4_, h5_, hcl_, hni_, hcp_, -⟩ hm_
      have t9_ := trp_fr ht_ hF_
      have m9_ : mrl ms_ S_ := ⟨(hF_.1 13 0 123 rfl).trans hmb_.1, fun j_ x_ q_ => by (rw [fr_arr (t := 212) hF_ rfl]; exact hmb_.2 j_ x_ q_)⟩
      have bx1_ : 0 ≤ S_.1 13 0 123 ∧ S_.1 13 0 123 ≤ 8 := hI_.1 13 0 123 rfl
      refine sm_T_go 3 (c1 := (123, [some (.inr (.inr (some (13, 0)))), some (.inl k_), none, none], [.inl (S_.1 13 0 123), .inl k_], S_)) rfl ?_
      refine sm_T_br (a := 3) (z := 28) rfl (fun cx2_ => ?_) (fun cx2_ => ?_)
      · have cx2_ : (S_.1 13 0 123) ≤ k_ := of_decide_eq_true cx2_
        have bx3_ : 0 ≤ S_.1 13 0 114 ∧ S_.1 13 0 114 ≤ 64 := hI_.1 13 0 114 rfl
        refine sm_T_go 4 (c1 := (157, [some (.inr (.inr (some (13, 0)))), some (.inl k_), none, none], [.inl 1, .inl (S_.1 13 0 114), .inr (.inr (some (13, 0)))], S_)) rfl ?_
        refine sm_T_bin (w := (S_.1 13 0 114) + 1) rfl (bi_add (by omega) (by omega) (by omega)) ?_ -- pc_ 157
        have hIx4_ : gi (sm_pI S_ 13 0 114 ((S_.1 13 0 114) + 1)) := gi_pI hI_ (show 0 ≤ (S_.1 13 0 114) + 1 ∧ (S_.1 13 0 114) + 1 ≤ 64 from ⟨by omega, by omega⟩)
        have hFx5_ : ai_fr (sx_W vw_397n) S0_ (sm_pI S_ 13 0 114 ((S_.1 13 0 114) + 1)) := ai_fr_tr hF_ (ai_fr_pI rfl)
        refine sm_T_go 1 (c1 := (161, [some (.inr (.inr (some (13, 0)))), some (.inl k_), none, none], [], sm_pI S_ 13 0 114 ((S_.1 13 0 114) + 1))) rfl ?_
        refine sm_T_rv rfl ⟨_, _, rfl, rfl, hIx4_, hFx5_, ?_⟩
        have ml9_ := m9_.1
        have cl9_ := hcl_.1
        refine ⟨by (rw [rf_eq]; omega), ?_, ?_⟩
        · intro c9_ u0_ u1_
          rw [rf_eq] at u1_
          (try simp only [rd_eq, rd_ne, rf_eq, rf_nk, rf_nt, rd_fa, rd_af, rd_fl, rd_al, rd_lf, rd_la, rd_leq, rd_lne, rd_fr, rd_ar, ne_eq, Nat.reduceEqDiff, not_false_eq_true])
          by_cases z9_ : c9_ = S_.1 13 0 114
          · rw [z9_, h4_]; exact ⟨by omega, fun k9_ v0_ v1_ => h5_ k9_ v0_ (by omega)⟩
          · exact h2_ c9_ u0_ (by omega)
        · rw [if_pos ⟨by omega, hni_⟩]
          refine ⟨by (rw [rf_eq, List.length_append, List.length_singleton]; omega), fun i_ e_ q_ => ?_⟩
          by_cases z9_ : i_ < L_.length
          · rw [List.getElem?_append_left z9_] at q_
            (try simp only [rd_eq, rd_ne, rf_eq, rf_nk, rf_nt, rd_fa, rd_af, rd_fl, rd_al, rd_lf, rd_la, rd_leq, rd_lne, rd_fr, rd_ar, ne_eq, Nat.reduceEqDiff, not_false_eq_true])
            exact hcl_.2 i_ e_ q_
          · rw [List.getElem?_append_right (by omega)] at q_
            have l9_ : i_ - L_.length < 1 := (List.getElem?_eq_some_iff.mp q_).1
            have e9_ := List.mem_singleton.mp (List.mem_of_getElem? q_)
            rw [e9_]
            (try simp only [rd_eq, rd_ne, rf_eq, rf_nk, rf_nt, rd_fa, rd_af, rd_fl, rd_al, rd_lf, rd_la, rd_leq, rd_lne, rd_fr, rd_ar, ne_eq, Nat.reduceEqDiff, not_false_eq_true])
            refine ⟨⟨⟨hrs_.2, by omega⟩, hrs_.1⟩, ?_, fun k9_ x_ q2_ => ?_⟩
            · rw [show i_ = (S_.1 13 0 114).toNat by omega, h4_]; omega
            · have l8_ := (List.getElem?_eq_some_iff.mp q2_).1
              have w9_ := hcp_ k9_ (by omega)
              rw [show 3 * i_ + k9_ = (3 * S_.1 13 0 114 + (k9_ : Int)).toNat by omega, w9_]
              exact m9_.2 _ _ q2_
      · have cx2_ : ¬ ((S_.1 13 0 123) ≤ k_) := of_decide_eq_false cx2_
        have bx6_ : 0 ≤ S_.1 13 0 114 ∧ S_.1 13 0 114 ≤ 64 := hI_.1 13 0 114 rfl
        refine sm_T_go 5 (c1 := (135, [some (.inr (.inr (some (13, 0)))), some (.inl k_), none, none], [.inl (S_.1 13 0 114), .inl 3, .inr (.inr (some (205, 0)))], S_)) rfl ?_
        refine sm_T_bin (w := 3 * (S_.1 13 0 114)) rfl (bi_mul (by omega) (by omega) (by omega)) ?_ -- pc_ 135
        refine sm_T_go 1 (c1 := (137, [some (.inr (.inr (some (13, 0)))), some (.inl k_), none, none], [.inl k_, .inl (3 * (S_.1 13 0 114)), .inr (.inr (some (205, 0)))], S_)) rfl ?_
        refine sm_T_bin (w := 3 * (S_.1 13 0 114) + k_) rfl (bi_add (by omega) (by omega) (by omega)) ?_ -- pc_ 137
        refine sm_T_go 3 (c1 := (143, [some (.inr (.inr (some (13, 0)))), some (.inl k_), none, none], [.inl k_, .inr (.inr (some (212, 0))), .inl (3 * (S_.1 13 0 114) + k_), .inr (.inr (some (205, 0)))], S_)) rfl ?_
        refine sm_T_iald (n := 8) rfl rfl (by omega) (by omega) ?_
        have bx7_ : 0 ≤ S_.2.2.1 212 0 k_.toNat ∧ S_.2.2.1 212 0 k_.toNat ≤ 1012 := hI_.2 212 0 _
        refine sm_T_iast (n := 192) rfl rfl (by omega) (by omega) ?_
        have hIx8_ : gi (sm_aI S_ 205 0 (3 * (S_.1 13 0 114) + k_).toNat (S_.2.2.1 212 0 k_.toNat)) := gi_aI hI_ (show 0 ≤ (S_.2.2.1 212 0 k_.toNat) ∧ (S_.2.2.1 212 0 k_.toNat) ≤ 1012 from ⟨by omega, by omega⟩)
        have hFx9_ : ai_fr (sx_W vw_397n) S0_ (sm_aI S_ 205 0 (3 * (S_.1 13 0 114) + k_).toNat (S_.2.2.1 212 0 k_.toNat)) := ai_fr_tr hF_ (ai_fr_aI rfl)
        refine sm_T_inc (a := 1) (z := 1) (v := k_) (w := k_ + 1) rfl rfl (by omega) (by omega) (by omega) ?_ -- pc_ 145
        refine sm_T_go 1 (c1 := (118, [some (.inr (.inr (some (13, 0)))), some (.inl (k_ + 1)), none, none], [], sm_aI S_ 205 0 (3 * (S_.1 13 0 114) + k_).toNat (S_.2.2.1 212 0 k_.toNat))) rfl ?_
        refine ih_.2.2 (k_ + 1) (sm_aI S_ 205 0 (3 * (S_.1 13 0 114) + k_).toNat (S_.2.2.1 212 0 k_.toNat)) hIx8_ hFx9_ ⟨?_, ?_, ?_, ?_, ?_, ?_, ?_, trivial⟩ ?_
        · ((try simp only [rd_eq, rd_ne, rf_eq, rf_nk, rf_nt, rd_fa, rd_af, rd_fl, rd_al, rd_lf, rd_la, rd_leq, rd_lne, rd_fr, rd_ar, ne_eq, Nat.reduceEqDiff, not_false_eq_true]); omega)
        · intro c9_ u0_ u1_
          have q9_ : c9_ < S_.1 13 0 114 := by ((try simp only [rd_eq, rd_ne, rf_eq, rf_nk, rf_nt, rd_fa, rd_af, rd_fl, rd_al, rd_lf, rd_la, rd_leq, rd_lne, rd_fr, rd_ar, ne_eq, Nat.reduceEqDiff, not_false_eq_true] at *); exact u1_)
          have w9_ := h2_ c9_ u0_ q9_
          have b9_ := hI_.2 204 0 c9_.toNat
          have b8_ : 0 ≤ S_.2.2.1 204 0 c9_.toNat ∧ S_.2.2.1 204 0 c9_.toNat ≤ 3 := b9_
          (try simp only [rd_eq, rd_ne, rf_eq, rf_nk, rf_nt, rd_fa, rd_af, rd_fl, rd_al, rd_lf, rd_la, rd_leq, rd_lne, rd_fr, rd_ar, ne_eq, Nat.reduceEqDiff, not_false_eq_true])
          refine ⟨w9_.1, fun k9_ v0_ v1_ => ?_⟩
          rw [if_neg (by omega)]
          exact w9_.2 k9_ v0_ v1_
        · ((try simp only [rd_eq, rd_ne, rf_eq, rf_nk, rf_nt, rd_fa, rd_af, rd_fl, rd_al, rd_lf, rd_la, rd_leq, rd_lne, rd_fr, rd_ar, ne_eq, Nat.reduceEqDiff, not_false_eq_true]); exact h4_)
        · intro j9_ u0_ u1_
          (try simp only [rd_eq, rd_ne, rf_eq, rf_nk, rf_nt, rd_fa, rd_af, rd_fl, rd_al, rd_lf, rd_la, rd_leq, rd_lne, rd_fr, rd_ar, ne_eq, Nat.reduceEqDiff, not_false_eq_true])
          by_cases z9_ : (3 * S_.1 13 0 114 + j9_).toNat = (3 * S_.1 13 0 114 + k_).toNat
          · rw [if_pos z9_]; exact t9_ k_ (by omega) (by omega)
          · rw [if_neg z9_]; exact h5_ j9_ u0_ (by omega)
        · have cl9_ := hcl_.1
          refine ⟨by ((try simp only [rd_eq, rd_ne, rf_eq, rf_nk, rf_nt, rd_fa, rd_af, rd_fl, rd_al, rd_lf, rd_la, rd_leq, rd_lne, rd_fr, rd_ar, ne_eq, Nat.reduceEqDiff, not_false_eq_true]); exact hcl_.1), fun i_ e_ q_ => ?_⟩
          have w9_ := hcl_.2 i_ e_ q_
          have l9_ := (List.getElem?_eq_some_iff.mp q_).1
          refine ⟨w9_.1, by ((try simp only [rd_eq, rd_ne, rf_eq, rf_nk, rf_nt, rd_fa, rd_af, rd_fl, rd_al, rd_lf, rd_la, rd_leq, rd_lne, rd_fr, rd_ar, ne_eq, Nat.reduceEqDiff, not_false_eq_true]); exact w9_.2.1), fun k9_ x_ q2_ => ?_⟩
          have l8_ := (List.getElem?_eq_some_iff.mp q2_).1
          have l7_ := w9_.1.1.2
          (try simp only [rd_eq, rd_ne, rf_eq, rf_nk, rf_nt, rd_fa, rd_af, rd_fl, rd_al, rd_lf, rd_la, rd_leq, rd_lne, rd_fr, rd_ar, ne_eq, Nat.reduceEqDiff, not_false_eq_true])
          rw [if_neg (by omega)]
          exact w9_.2.2 k9_ x_ q2_
        · exact hni_
        · intro j_ hj_
          (try simp only [rd_eq, rd_ne, rf_eq, rf_nk, rf_nt, rd_fa, rd_af, rd_fl, rd_al, rd_lf, rd_la, rd_leq, rd_lne, rd_fr, rd_ar, ne_eq, Nat.reduceEqDiff, not_false_eq_true])
          by_cases z9_ : (j_ : Int) = k_
          · rw [if_pos (by omega), show j_ = k_.toNat by omega]
          · rw [if_neg (by omega)]; exact hcp_ j_ (by omega)
        · omega
set_option maxHeartbeats 1000000 in
set_option maxRecDepth 20000 in
theorem vc_397n {sc_ : Nat × (Nat → Int)} (P_ : Int → Prop) (ms_ : List Nat) (L_ : List (List Nat)) (S0_ : sm_S) (hI_ : gi S0_) (hmb_ : mrl ms_ S0_) (hrs_ : ris ms_ ∧ 2 ≤ ms_.length) (hcb_ : crl L_ S0_ ∧ L_.length ≤ 60) (h1_ : 1 ≤ (S0_.1 13 0 123)) (ht_ : trp P_ S0_) (hc_ : ctp P_ S0_) : sm_T (mt_P sc_) 0 397 (0, [some (.inr (.inr (some (13, 0)))), none, none, none], [], S0_) (fun ro9_ => ∃ u_ S1_, ro9_ = (.inl u_, S1_, 0) ∧ vq_397n P_ ms_ L_ S0_ u_ S1_) := by
  have hF_ : ai_fr (sx_W vw_397n) S0_ S0_ := ai_fr_rf
  have bx1_ : 0 ≤ S0_.1 13 0 123 ∧ S0_.1 13 0 123 ≤ 8 := hI_.1 13 0 123 rfl
  refine sm_T_go 3 (c1 := (5, [some (.inr (.inr (some (13, 0)))), none, none, none], [.inl 3, .inl (S0_.1 13 0 123)], S0_)) rfl ?_
  refine sm_T_br (a := 4) (z := 12) rfl (fun cx2_ => ?_) (fun cx2_ => ?_)
  · have cx2_ : 3 < (S0_.1 13 0 123) := of_decide_eq_true cx2_
    refine sm_T_rv rfl ⟨_, _, rfl, rfl, hI_, hF_, ?_⟩
    have ml9_ := hmb_.1
    have cl9_ := hcb_.1.1
    have c29_ := hcb_.2
    exact ⟨Int.le_refl _, hc_, by (rw [if_neg (fun z_ => by (have z9_ := z_.1; omega))]; exact hcb_.1)⟩
  · have cx2_ : ¬ (3 < (S0_.1 13 0 123)) := of_decide_eq_false cx2_
    have bx3_ : 0 ≤ S0_.1 13 0 114 ∧ S0_.1 13 0 114 ≤ 64 := hI_.1 13 0 114 rfl
    refine sm_T_go 3 (c1 := (14, [some (.inr (.inr (some (13, 0)))), none, none, none], [.inl 64, .inl (S0_.1 13 0 114)], S0_)) rfl ?_
    refine sm_T_br (a := 1) (z := 4) rfl (fun cx4_ => ?_) (fun cx4_ => ?_)
    · have cx4_ : (S0_.1 13 0 114) ≠ 64 := of_decide_eq_true cx4_
      refine sm_T_go 2 (c1 := (20, [some (.inr (.inr (some (13, 0)))), some (.inl 0), none, none], [], S0_)) rfl ?_
      refine (vl_397n P_ ms_ L_ S0_ hmb_ hrs_ hcb_ h1_ ht_ hc_ _).1 0 S0_ hI_ hF_ ⟨?_, ?_, ?_, ?_, trivial⟩ (Nat.lt_succ_self _)
      · omega
      · exact hc_
      · exact hcb_.1
      · (intro i_ e_ u_ q_; exfalso; omega)
    · have cx4_ : ¬ ((S0_.1 13 0 114) ≠ 64) := of_decide_eq_false cx4_
      refine sm_T_rv rfl ⟨_, _, rfl, rfl, hI_, hF_, ?_⟩
      have ml9_ := hmb_.1
      have cl9_ := hcb_.1.1
      have c29_ := hcb_.2
      exact ⟨Int.le_refl _, hc_, by (rw [if_neg (fun z_ => by (have z9_ := z_.1; omega))]; exact hcb_.1)⟩
end
/-! 99.ztZF -/
section
/-! the reference: cuts in their order; written by wip/p55/gen/vg -/

/-! the_ order of_ cuts, the_ reference -/
def rcv (S_ : sm_S) (i_ k_ : Nat) : Int := if (k_ : Int) < S_.2.2.1 204 0 i_ then S_.2.2.1 205 0 (3 * i_ + k_) else -1
theorem rcv_y {S_ : sm_S} {i_ k_ : Nat} (h_ : (k_ : Int) < S_.2.2.1 204 0 i_) : rcv S_ i_ k_ = S_.2.2.1 205 0 (3 * i_ + k_) := by
  unfold rcv
  rw [if_pos h_]
theorem rcv_n {S_ : sm_S} {i_ k_ : Nat} (h_ : S_.2.2.1 204 0 i_ ≤ (k_ : Int)) : rcv S_ i_ k_ = -1 := by
  unfold rcv
  rw [if_neg (by omega)]
theorem lcv_s {c_ e_ : Nat → Int} (k_ : Nat) (h_ : ∀ j_, j_ < k_ → c_ j_ = e_ j_) (hk_ : k_ < 3) (g_ : c_ k_ ≠ e_ k_) : lcv c_ e_ ↔ c_ k_ < e_ k_ := by
  have d_ : k_ = 0 ∨ k_ = 1 ∨ k_ = 2 := by omega
  unfold lcv
  rcases d_ with rfl | rfl | rfl
  · omega
  · have h0_ := h_ 0 (by omega)
    omega
  · have h0_ := h_ 0 (by omega)
    have h1_ := h_ 1 (by omega)
    omega
theorem lcv_q {c_ e_ : Nat → Int} (h_ : ∀ j_, j_ < 3 → c_ j_ = e_ j_) : ¬ lcv c_ e_ := by
  have h0_ := h_ 0 (by omega)
  have h1_ := h_ 1 (by omega)
  have h2_ := h_ 2 (by omega)
  unfold lcv
  omega
def crf (n_ : Nat) (C_ : Nat → List Nat) (S_ : sm_S) : Prop := S_.1 13 0 114 = (n_ : Int) ∧ ∀ i_, i_ < n_ → ((2 ≤ (C_ i_).length ∧ (C_ i_).length ≤ 3) ∧ ris (C_ i_)) ∧ S_.2.2.1 204 0 i_ = ((C_ i_).length : Int) ∧ ∀ k_ x_ : Nat, (C_ i_)[k_]? = some x_ → S_.2.2.1 205 0 (3 * i_ + k_) = (x_ : Int)
theorem crf_l {L_ : List (List Nat)} {S_ : sm_S} (h_ : crl L_ S_) : crf L_.length (fun i_ => L_.getD i_ []) S_ := by
  refine ⟨h_.1, fun i_ hi_ => ?_⟩
  have q_ : L_[i_]? = some (L_.getD i_ []) := by
    rw [List.getD_eq_getElem?_getD, List.getElem?_eq_getElem hi_]
    rfl
  exact h_.2 i_ _ q_
theorem crf_v {n_ : Nat} {C_ : Nat → List Nat} {S_ : sm_S} (h_ : crf n_ C_ S_) {i_ : Nat} (hi_ : i_ < n_) : rcv S_ i_ = cva (C_ i_) := by
  funext k_
  have w_ := h_.2 i_ hi_
  by_cases c_ : k_ < (C_ i_).length
  · obtain ⟨x_, hx_⟩ : ∃ x_, (C_ i_)[k_]? = some x_ := ⟨_, List.getElem?_eq_getElem c_⟩
    rw [rcv_y (by omega), w_.2.2 k_ x_ hx_]
    unfold cva
    rw [hx_]
  · rw [rcv_n (by omega)]
    unfold cva
    rw [List.getElem?_eq_none (by omega)]
def swf (a_ b_ : Nat) (C_ : Nat → List Nat) (i_ : Nat) : List Nat := if i_ = b_ then C_ a_ else if i_ = a_ then C_ b_ else C_ i_
theorem swf_b {a_ b_ : Nat} {C_ : Nat → List Nat} : swf a_ b_ C_ b_ = C_ a_ := by
  unfold swf
  rw [if_pos rfl]
theorem swf_a {a_ b_ : Nat} {C_ : Nat → List Nat} (h_ : a_ ≠ b_) : swf a_ b_ C_ a_ = C_ b_ := by
  unfold swf
  rw [if_neg h_, if_pos rfl]
theorem swf_o {a_ b_ i_ : Nat} {C_ : Nat → List Nat} (h_ : i_ ≠ a_) (g_ : i_ ≠ b_) : swf a_ b_ C_ i_ = C_ i_ := by
  unfold swf
  rw [if_neg g_, if_neg h_]
theorem crf_sw {n_ a_ b_ : Nat} {C_ : Nat → List Nat} {S_ S'_ : sm_S} (h_ : crf n_ C_ S_) (ha_ : a_ < n_) (hb_ : b_ < n_) (hab_ : a_ ≠ b_) (e1_ : S'_.1 13 0 114 = S_.1 13 0 114) (e2_ : ∀ j_ : Nat, S'_.2.2.1 204 0 j_ = if j_ = b_ then S_.2.2.1 204 0 a_ else if j_ = a_ then S_.2.2.1 204 0 b_ else S_.2.2.1 204 0 j_) (e3_ : ∀ j_ : Int, 0 ≤ j_ → S'_.2.2.1 205 0 j_.toNat = if 3 * (a_ : Int) ≤ j_ ∧ j_ < 3 * (a_ : Int) + 3 then S_.2.2.1 205 0 (j_ - 3 * (a_ : Int) + 3 * (b_ : Int)).toNat else if 3 * (b_ : Int) ≤ j_ ∧ j_ < 3 * (b_ : Int) + 3 then S_.2.2.1 205 0 (j_ - 3 * (b_ : Int) + 3 * (a_ : Int)).toNat else S_.2.2.1 205 0 j_.toNat) : crf n_ (swf a_ b_ C_) S'_ := by
  refine ⟨e1_.trans h_.1, fun i_ hi_ => ?_⟩
  have f_ : ∀ k_ : Nat, S'_.2.2.1 205 0 (3 * i_ + k_) = S'_.2.2.1 205 0 (3 * (i_ : Int) + (k_ : Int)).toNat := fun k_ => by rw [show (3 * (i_ : Int) + (k_ : Int)).toNat = 3 * i_ + k_ by omega]
  by_cases c_ : i_ = b_
  · have w_ := h_.2 a_ ha_
    rw [c_, swf_b, e2_, if_pos rfl]
    refine ⟨w_.1, w_.2.1, fun k_ x_ q_ => ?_⟩
    have l_ := (List.getElem?_eq_some_iff.mp q_).1
    have l3_ := w_.1.1.2
    have v_ := w_.2.2 k_ x_ q_
    rw [← c_, f_, e3_ _ (by omega), if_neg (by omega), if_pos (by omega), show (3 * (i_ : Int) + (k_ : Int) - 3 * (b_ : Int) + 3 * (a_ : Int)).toNat = 3 * a_ + k_ by omega]
    exact v_
  · by_cases d_ : i_ = a_
    · have w_ := h_.2 b_ hb_
      rw [d_, swf_a hab_, e2_, if_neg hab_, if_pos rfl]
      refine ⟨w_.1, w_.2.1, fun k_ x_ q_ => ?_⟩
      have l_ := (List.getElem?_eq_some_iff.mp q_).1
      have l3_ := w_.1.1.2
      have v_ := w_.2.2 k_ x_ q_
      rw [← d_, f_, e3_ _ (by omega), if_pos (by omega), show (3 * (i_ : Int) + (k_ : Int) - 3 * (a_ : Int) + 3 * (b_ : Int)).toNat = 3 * b_ + k_ by omega]
      exact v_
    · have w_ := h_.2 i_ hi_
      rw [swf_o d_ c_, e2_, if_neg c_, if_neg d_]
      refine ⟨w_.1, w_.2.1, fun k_ x_ q_ => ?_⟩
      have l_ := (List.getElem?_eq_some_iff.mp q_).1
      have l3_ := w_.1.1.2
      have v_ := w_.2.2 k_ x_ q_
      rw [f_, e3_ _ (by omega), if_neg (by omega), if_neg (by omega), show (3 * (i_ : Int) + (k_ : Int)).toNat = 3 * i_ + k_ by omega]
      exact v_
/-- the_ same things in another order -/
def prm (n_ : Nat) (C_ D_ : Nat → List Nat) : Prop := (∀ i_, i_ < n_ → ∃ j_, j_ < n_ ∧ C_ i_ = D_ j_) ∧ (∀ j_, j_ < n_ → ∃ i_, i_ < n_ ∧ C_ i_ = D_ j_) ∧ ∀ i_ j_, i_ < n_ → j_ < n_ → i_ ≠ j_ → C_ i_ ≠ C_ j_
theorem prm_sw {n_ a_ b_ : Nat} {C_ D_ : Nat → List Nat} (h_ : prm n_ C_ D_) (ha_ : a_ < n_) (hb_ : b_ < n_) (hab_ : a_ ≠ b_) : prm n_ (swf a_ b_ C_) D_ := by
  obtain ⟨h1_, h2_, h3_⟩ := h_
  have ix_ : ∀ i_, i_ < n_ → ∃ i'_, i'_ < n_ ∧ swf a_ b_ C_ i_ = C_ i'_ ∧ (i_ = b_ → i'_ = a_) ∧ (i_ = a_ → i'_ = b_) ∧ (i_ ≠ a_ → i_ ≠ b_ → i'_ = i_) := by
    intro i_ hi_
    by_cases c_ : i_ = b_
    · exact ⟨a_, ha_, by rw [c_, swf_b], fun _ => rfl, fun e_ => by omega, fun _ e_ => absurd c_ e_⟩
    · by_cases d_ : i_ = a_
      · exact ⟨b_, hb_, by rw [d_, swf_a hab_], fun e_ => absurd e_ c_, fun _ => rfl, fun e_ => absurd d_ e_⟩
      · exact ⟨i_, hi_, swf_o d_ c_, fun e_ => absurd e_ c_, fun e_ => absurd e_ d_, fun _ _ => rfl⟩
  refine ⟨fun i_ hi_ => ?_, fun j_ hj_ => ?_, fun i_ j_ hi_ hj_ n_ e_ => ?_⟩
  · obtain ⟨i'_, hi'_, e_, _⟩ := ix_ i_ hi_
    rw [e_]
    exact h1_ i'_ hi'_
  · obtain ⟨i_, hi_, e_⟩ := h2_ j_ hj_
    by_cases c_ : i_ = a_
    · exact ⟨b_, hb_, by rw [swf_b, ← c_, e_]⟩
    · by_cases d_ : i_ = b_
      · exact ⟨a_, ha_, by rw [swf_a hab_, ← d_, e_]⟩
      · exact ⟨i_, hi_, by rw [swf_o c_ d_, e_]⟩
  · obtain ⟨i'_, hi'_, e1_, p1_, p2_, p3_⟩ := ix_ i_ hi_
    obtain ⟨j'_, hj'_, f1_, q1_, q2_, q3_⟩ := ix_ j_ hj_
    rw [e1_, f1_] at e_
    by_cases c_ : i'_ = j'_
    · by_cases x1_ : i_ = b_
      · have := p1_ x1_
        by_cases y1_ : j_ = b_
        · omega
        · by_cases y2_ : j_ = a_
          · have := q2_ y2_
            omega
          · have := q3_ y2_ y1_
            omega
      · by_cases x2_ : i_ = a_
        · have := p2_ x2_
          by_cases y1_ : j_ = b_
          · have := q1_ y1_
            omega
          · by_cases y2_ : j_ = a_
            · omega
            · have := q3_ y2_ y1_
              omega
        · have := p3_ x2_ x1_
          by_cases y1_ : j_ = b_
          · have := q1_ y1_
            omega
          · by_cases y2_ : j_ = a_
            · have := q2_ y2_
              omega
            · have := q3_ y2_ y1_
              omega
    · exact h3_ i'_ j'_ hi'_ hj'_ c_ e_
/-- two_ rising rows of_ the_ same things are_ one_ -/
theorem srq {A_ : Type} {R_ : A_ → A_ → Prop} (ir_ : ∀ x_, ¬ R_ x_ x_) (tr_ : ∀ x_ y_ z_, R_ x_ y_ → R_ y_ z_ → R_ x_ z_) {n_ : Nat} {f_ g_ : Nat → A_} (hf9_ : ∀ i_ j_, i_ < j_ → j_ < n_ → R_ (f_ i_) (f_ j_)) (hg9_ : ∀ i_ j_, i_ < j_ → j_ < n_ → R_ (g_ i_) (g_ j_)) (h1_ : ∀ i_, i_ < n_ → ∃ j_, j_ < n_ ∧ f_ i_ = g_ j_) (h2_ : ∀ j_, j_ < n_ → ∃ i_, i_ < n_ ∧ f_ i_ = g_ j_) : ∀ i_, i_ < n_ → f_ i_ = g_ i_ := by
  intro i_
  induction i_ using Nat.strongRecOn with
  | _ i_ ih_ =>
    intro hi_
    obtain ⟨j_, hj_, e_⟩ := h2_ i_ hi_
    obtain ⟨k_, hk_, d_⟩ := h1_ i_ hi_
    have a_ : ¬ j_ < i_ := fun c_ => ir_ (g_ i_) (by
      have w_ := ih_ j_ c_ hj_
      have u_ := hg9_ j_ i_ c_ hi_
      rw [← w_, e_] at u_
      exact u_)
    have b_ : ¬ k_ < i_ := fun c_ => ir_ (f_ i_) (by
      have w_ := ih_ k_ c_ hk_
      have u_ := hf9_ k_ i_ c_ hi_
      rw [w_, ← d_] at u_
      exact u_)
    by_cases c_ : j_ = i_
    · rw [c_] at e_
      exact e_
    · exfalso
      have u_ := hf9_ i_ j_ (by omega) hj_
      rw [e_] at u_
      by_cases q_ : k_ = i_
      · rw [q_] at d_
        rw [d_] at u_
        exact ir_ _ u_
      · have v_ := hg9_ i_ k_ (by omega) hk_
        rw [← d_] at v_
        exact ir_ _ (tr_ _ _ _ u_ v_)

/-! M_.isCutBefore -/
def vw_398n : sx_Wl := ([], [], [])
def vq_398n (a_ : Int) (b_ : Int) (S0_ : sm_S) (u_ : Option sm_V) (S1_ : sm_S) : Prop := S0_ = S1_ ∧ ∃ v_ : Int, u_ = some (.inl v_) ∧ ((v_ = 1 ∧ lcv (rcv S0_ a_.toNat) (rcv S0_ b_.toNat)) ∨ (v_ = 0 ∧ ¬ lcv (rcv S0_ a_.toNat) (rcv S0_ b_.toNat)))
set_option maxHeartbeats 400000 in
set_option maxRecDepth 20000 in
theorem vl_398n {sc_ : Nat × (Nat → Int)} (a_ : Int) (b_ : Int) (S0_ : sm_S) (ha_ : 0 ≤ a_ ∧ a_ ≤ 63 ∧ 0 ≤ b_ ∧ b_ ≤ 63) : ∀ nn_ : Nat, (∀ (k_ : Int) (S_ : sm_S), gi S_ → ai_fr (sx_W vw_398n) S0_ S_ → ((0 ≤ k_ ∧ k_ ≤ 3) ∧ (∀ j_ : Nat, (j_ : Int) < k_ → (j_ : Int) < S0_.2.2.1 204 0 a_.toNat ∧ (j_ : Int) < S0_.2.2.1 204 0 b_.toNat ∧ S0_.2.2.1 205 0 (3 * a_.toNat + j_) = S0_.2.2.1 205 0 (3 * b_.toNat + j_)) ∧ (S_ = S0_) ∧ True) → ((10 - k_).toNat) < nn_ → sm_T (mt_P sc_) 0 398 (2, [some (.inr (.inr (some (13, 0)))), some (.inl a_), some (.inl b_), some (.inl k_)], [], S_) (fun ro9_ => ∃ u_ S1_, ro9_ = (.inl u_, S1_, 0) ∧ vq_398n a_ b_ S0_ u_ S1_)) := by
  intro nn_
  induction nn_ with
  | zero => exact fun _ _ _ _ _ h_ => absurd h_ (Nat.not_lt_zero _)
  | succ nn_ ih_ =>
    rintro k_ S_ hI_ hF_ ⟨h0_, he_, hS_, -⟩ hm_
    subst hS_
    refine sm_T_go 4 (c1 := (8, [some (.inr (.inr (some (13, 0)))), some (.inl a_), some (.inl b_), some (.inl k_)], [.inl a_, .inr (.inr (some (204, 0))), .inl k_], S_)) rfl ?_
    refine sm_T_iald (n := 64) rfl rfl (by omega) (by omega) ?_
    have bx1_ : 0 ≤ S_.2.2.1 204 0 a_.toNat ∧ S_.2.2.1 204 0 a_.toNat ≤ 3 := hI_.2 204 0 _
    refine sm_T_br (a := 3) (z := 71) rfl (fun cx2_ => ?_) (fun cx2_ => ?_)
    · have cx2_ : (S_.2.2.1 204 0 a_.toNat) ≤ k_ := of_decide_eq_true cx2_
      refine sm_T_go 3 (c1 := (85, [some (.inr (.inr (some (13, 0)))), some (.inl a_), some (.inl b_), some (.inl k_)], [.inl a_, .inr (.inr (some (204, 0)))], S_)) rfl ?_
      refine sm_T_iald (n := 64) rfl rfl (by omega) (by omega) ?_
      refine sm_T_go 3 (c1 := (91, [some (.inr (.inr (some (13, 0)))), some (.inl a_), some (.inl b_), some (.inl k_)], [.inl b_, .inr (.inr (some (204, 0))), .inl (S_.2.2.1 204 0 a_.toNat)], S_)) rfl ?_
      refine sm_T_iald (n := 64) rfl rfl (by omega) (by omega) ?_
      have bx3_ : 0 ≤ S_.2.2.1 204 0 b_.toNat ∧ S_.2.2.1 204 0 b_.toNat ≤ 3 := hI_.2 204 0 _
      refine sm_T_br (a := 3) (z := 7) rfl (fun cx4_ => ?_) (fun cx4_ => ?_)
      · have cx4_ : (S_.2.2.1 204 0 b_.toNat) ≤ (S_.2.2.1 204 0 a_.toNat) := of_decide_eq_true cx4_
        refine sm_T_go 1 (c1 := (100, [some (.inr (.inr (some (13, 0)))), some (.inl a_), some (.inl b_), some (.inl k_)], [.inl 0], S_)) rfl ?_
        refine sm_T_rz rfl (by omega) ⟨_, _, rfl, (by first | rfl | exact hS_.symm), _, rfl, ?_⟩
        have a9_ : ∀ j_ : Nat, (j_ : Int) < k_ → rcv S_ a_.toNat j_ = rcv S_ b_.toNat j_ := fun j_ hj_ => by (have w_ := he_ j_ hj_; rw [rcv_y w_.1, rcv_y w_.2.1]; exact w_.2.2)
        have z4_ : 0 ≤ S_.2.2.1 204 0 a_.toNat ∧ S_.2.2.1 204 0 a_.toNat ≤ 3 := hI_.2 204 0 _
        have z5_ : 0 ≤ S_.2.2.1 204 0 b_.toNat ∧ S_.2.2.1 204 0 b_.toNat ≤ 3 := hI_.2 204 0 _
        have kab_ : k_ ≤ S_.2.2.1 204 0 a_.toNat ∧ k_ ≤ S_.2.2.1 204 0 b_.toNat := by (by_cases z_ : k_ = 0; omega; have w_ := he_ (k_ - 1).toNat (by omega); omega)
        have pa_ : k_ < S_.2.2.1 204 0 a_.toNat → rcv S_ a_.toNat k_.toNat = S_.2.2.1 205 0 (3 * a_ + k_).toNat := fun u_ => by (rw [rcv_y (by omega), show 3 * a_.toNat + k_.toNat = (3 * a_ + k_).toNat by omega])
        have pb : k_ < S_.2.2.1 204 0 b_.toNat → rcv S_ b_.toNat k_.toNat = S_.2.2.1 205 0 (3 * b_ + k_).toNat := fun u_ => by (rw [rcv_y (by omega), show 3 * b_.toNat + k_.toNat = (3 * b_ + k_).toNat by omega])
        have na_ : ∀ j_ : Nat, S_.2.2.1 204 0 a_.toNat ≤ (j_ : Int) → rcv S_ a_.toNat j_ = -1 := fun j_ u_ => rcv_n u_
        have nb : ∀ j_ : Nat, S_.2.2.1 204 0 b_.toNat ≤ (j_ : Int) → rcv S_ b_.toNat j_ = -1 := fun j_ u_ => rcv_n u_
        have g5_ : 0 ≤ S_.2.2.1 205 0 (3 * a_ + k_).toNat := (hI_.2 205 0 _).1
        have g6_ : 0 ≤ S_.2.2.1 205 0 (3 * b_ + k_).toNat := (hI_.2 205 0 _).1
        have a8_ : ∀ j_ : Nat, j_ < k_.toNat → rcv S_ a_.toNat j_ = rcv S_ b_.toNat j_ := fun j_ hj_ => a9_ j_ (by omega)
        by_cases za_ : S_.2.2.1 204 0 a_.toNat ≤ k_
        · by_cases zb_ : S_.2.2.1 204 0 b_.toNat ≤ k_
          · exact Or.inr ⟨by omega, lcv_q (fun j_ hj_ => by (by_cases z_ : (j_ : Int) < k_; exact a9_ j_ z_; rw [na_ j_ (by omega), nb j_ (by omega)]))⟩
          · have n1_ := na_ k_.toNat (by omega)
            have p1_ := pb (by omega)
            exact Or.inl ⟨by omega, (lcv_s k_.toNat a8_ (by omega) (by omega)).mpr (by omega)⟩
        · by_cases zb_ : S_.2.2.1 204 0 b_.toNat ≤ k_
          · have n1_ := nb k_.toNat (by omega)
            have p1_ := pa_ (by omega)
            exact Or.inr ⟨by omega, fun q_ => by (have q2_ := (lcv_s k_.toNat a8_ (by omega) (by omega)).mp q_; omega)⟩
          · have p1_ := pa_ (by omega)
            have p2_ := pb (by omega)
            by_cases zc_ : S_.2.2.1 205 0 (3 * a_ + k_).toNat < S_.2.2.1 205 0 (3 * b_ + k_).toNat
            · exact Or.inl ⟨by omega, (lcv_s k_.toNat a8_ (by omega) (by omega)).mpr (by omega)⟩
            · exact Or.inr ⟨by omega, fun q_ => by (have q2_ := (lcv_s k_.toNat a8_ (by omega) (by omega)).mp q_; omega)⟩
      · have cx4_ : ¬ ((S_.2.2.1 204 0 b_.toNat) ≤ (S_.2.2.1 204 0 a_.toNat)) := of_decide_eq_false cx4_
        refine sm_T_go 2 (c1 := (100, [some (.inr (.inr (some (13, 0)))), some (.inl a_), some (.inl b_), some (.inl k_)], [.inl 1], S_)) rfl ?_
        refine sm_T_rz rfl (by omega) ⟨_, _, rfl, (by first | rfl | exact hS_.symm), _, rfl, ?_⟩
        have a9_ : ∀ j_ : Nat, (j_ : Int) < k_ → rcv S_ a_.toNat j_ = rcv S_ b_.toNat j_ := fun j_ hj_ => by (have w_ := he_ j_ hj_; rw [rcv_y w_.1, rcv_y w_.2.1]; exact w_.2.2)
        have z4_ : 0 ≤ S_.2.2.1 204 0 a_.toNat ∧ S_.2.2.1 204 0 a_.toNat ≤ 3 := hI_.2 204 0 _
        have z5_ : 0 ≤ S_.2.2.1 204 0 b_.toNat ∧ S_.2.2.1 204 0 b_.toNat ≤ 3 := hI_.2 204 0 _
        have kab_ : k_ ≤ S_.2.2.1 204 0 a_.toNat ∧ k_ ≤ S_.2.2.1 204 0 b_.toNat := by (by_cases z_ : k_ = 0; omega; have w_ := he_ (k_ - 1).toNat (by omega); omega)
        have pa_ : k_ < S_.2.2.1 204 0 a_.toNat → rcv S_ a_.toNat k_.toNat = S_.2.2.1 205 0 (3 * a_ + k_).toNat := fun u_ => by (rw [rcv_y (by omega), show 3 * a_.toNat + k_.toNat = (3 * a_ + k_).toNat by omega])
        have pb : k_ < S_.2.2.1 204 0 b_.toNat → rcv S_ b_.toNat k_.toNat = S_.2.2.1 205 0 (3 * b_ + k_).toNat := fun u_ => by (rw [rcv_y (by omega), show 3 * b_.toNat + k_.toNat = (3 * b_ + k_).toNat by omega])
        have na_ : ∀ j_ : Nat, S_.2.2.1 204 0 a_.toNat ≤ (j_ : Int) → rcv S_ a_.toNat j_ = -1 := fun j_ u_ => rcv_n u_
        have nb : ∀ j_ : Nat, S_.2.2.1 204 0 b_.toNat ≤ (j_ : Int) → rcv S_ b_.toNat j_ = -1 := fun j_ u_ => rcv_n u_
        have g5_ : 0 ≤ S_.2.2.1 205 0 (3 * a_ + k_).toNat := (hI_.2 205 0 _).1
        have g6_ : 0 ≤ S_.2.2.1 205 0 (3 * b_ + k_).toNat := (hI_.2 205 0 _).1
        have a8_ : ∀ j_ : Nat, j_ < k_.toNat → rcv S_ a_.toNat j_ = rcv S_ b_.toNat j_ := fun j_ hj_ => a9_ j_ (by omega)
        by_cases za_ : S_.2.2.1 204 0 a_.toNat ≤ k_
        · by_cases zb_ : S_.2.2.1 204 0 b_.toNat ≤ k_
          · exact Or.inr ⟨by omega, lcv_q (fun j_ hj_ => by (by_cases z_ : (j_ : Int) < k_; exact a9_ j_ z_; rw [na_ j_ (by omega), nb j_ (by omega)]))⟩
          · have n1_ := na_ k_.toNat (by omega)
            have p1_ := pb (by omega)
            exact Or.inl ⟨by omega, (lcv_s k_.toNat a8_ (by omega) (by omega)).mpr (by omega)⟩
        · by_cases zb_ : S_.2.2.1 204 0 b_.toNat ≤ k_
          · have n1_ := nb k_.toNat (by omega)
            have p1_ := pa_ (by omega)
            exact Or.inr ⟨by omega, fun q_ => by (have q2_ := (lcv_s k_.toNat a8_ (by omega) (by omega)).mp q_; omega)⟩
          · have p1_ := pa_ (by omega)
            have p2_ := pb (by omega)
            by_cases zc_ : S_.2.2.1 205 0 (3 * a_ + k_).toNat < S_.2.2.1 205 0 (3 * b_ + k_).toNat
            · exact Or.inl ⟨by omega, (lcv_s k_.toNat a8_ (by omega) (by omega)).mpr (by omega)⟩
            · exact Or.inr ⟨by omega, fun q_ => by (have q2_ := (lcv_s k_.toNat a8_ (by omega) (by omega)).mp q_; omega)⟩
    · have cx2_ : ¬ ((S_.2.2.1 204 0 a_.toNat) ≤ k_) := of_decide_eq_false cx2_
      refine sm_T_go 4 (c1 := (18, [some (.inr (.inr (some (13, 0)))), some (.inl a_), some (.inl b_), some (.inl k_)], [.inl b_, .inr (.inr (some (204, 0))), .inl k_], S_)) rfl ?_
      refine sm_T_iald (n := 64) rfl rfl (by omega) (by omega) ?_
      have bx5_ : 0 ≤ S_.2.2.1 204 0 b_.toNat ∧ S_.2.2.1 204 0 b_.toNat ≤ 3 := hI_.2 204 0 _
      refine sm_T_br (a := 3) (z := 61) rfl (fun cx6_ => ?_) (fun cx6_ => ?_)
      · have cx6_ : (S_.2.2.1 204 0 b_.toNat) ≤ k_ := of_decide_eq_true cx6_
        refine sm_T_go 3 (c1 := (85, [some (.inr (.inr (some (13, 0)))), some (.inl a_), some (.inl b_), some (.inl k_)], [.inl a_, .inr (.inr (some (204, 0)))], S_)) rfl ?_
        refine sm_T_iald (n := 64) rfl rfl (by omega) (by omega) ?_
        refine sm_T_go 3 (c1 := (91, [some (.inr (.inr (some (13, 0)))), some (.inl a_), some (.inl b_), some (.inl k_)], [.inl b_, .inr (.inr (some (204, 0))), .inl (S_.2.2.1 204 0 a_.toNat)], S_)) rfl ?_
        refine sm_T_iald (n := 64) rfl rfl (by omega) (by omega) ?_
        refine sm_T_br (a := 3) (z := 7) rfl (fun cx7_ => ?_) (fun cx7_ => ?_)
        · have cx7_ : (S_.2.2.1 204 0 b_.toNat) ≤ (S_.2.2.1 204 0 a_.toNat) := of_decide_eq_true cx7_
          refine sm_T_go 1 (c1 := (100, [some (.inr (.inr (some (13, 0)))), some (.inl a_), some (.inl b_), some (.inl k_)], [.inl 0], S_)) rfl ?_
          refine sm_T_rz rfl (by omega) ⟨_, _, rfl, (by first | rfl | exact hS_.symm), _, rfl, ?_⟩
          have a9_ : ∀ j_ : Nat, (j_ : Int) < k_ → rcv S_ a_.toNat j_ = rcv S_ b_.toNat j_ := fun j_ hj_ => by (have w_ := he_ j_ hj_; rw [rcv_y w_.1, rcv_y w_.2.1]; exact w_.2.2)
          have z4_ : 0 ≤ S_.2.2.1 204 0 a_.toNat ∧ S_.2.2.1 204 0 a_.toNat ≤ 3 := hI_.2 204 0 _
          have z5_ : 0 ≤ S_.2.2.1 204 0 b_.toNat ∧ S_.2.2.1 204 0 b_.toNat ≤ 3 := hI_.2 204 0 _
          have kab_ : k_ ≤ S_.2.2.1 204 0 a_.toNat ∧ k_ ≤ S_.2.2.1 204 0 b_.toNat := by (by_cases z_ : k_ = 0; omega; have w_ := he_ (k_ - 1).toNat (by omega); omega)
          have pa_ : k_ < S_.2.2.1 204 0 a_.toNat → rcv S_ a_.toNat k_.toNat = S_.2.2.1 205 0 (3 * a_ + k_).toNat := fun u_ => by (rw [rcv_y (by omega), show 3 * a_.toNat + k_.toNat = (3 * a_ + k_).toNat by omega])
          have pb : k_ < S_.2.2.1 204 0 b_.toNat → rcv S_ b_.toNat k_.toNat = S_.2.2.1 205 0 (3 * b_ + k_).toNat := fun u_ => by (rw [rcv_y (by omega), show 3 * b_.toNat + k_.toNat = (3 * b_ + k_).toNat by omega])
          have na_ : ∀ j_ : Nat, S_.2.2.1 204 0 a_.toNat ≤ (j_ : Int) → rcv S_ a_.toNat j_ = -1 := fun j_ u_ => rcv_n u_
          have nb : ∀ j_ : Nat, S_.2.2.1 204 0 b_.toNat ≤ (j_ : Int) → rcv S_ b_.toNat j_ = -1 := fun j_ u_ => rcv_n u_
          have g5_ : 0 ≤ S_.2.2.1 205 0 (3 * a_ + k_).toNat := (hI_.2 205 0 _).1
          have g6_ : 0 ≤ S_.2.2.1 205 0 (3 * b_ + k_).toNat := (hI_.2 205 0 _).1
          have a8_ : ∀ j_ : Nat, j_ < k_.toNat → rcv S_ a_.toNat j_ = rcv S_ b_.toNat j_ := fun j_ hj_ => a9_ j_ (by omega)
          by_cases za_ : S_.2.2.1 204 0 a_.toNat ≤ k_
          · by_cases zb_ : S_.2.2.1 204 0 b_.toNat ≤ k_
            · exact Or.inr ⟨by omega, lcv_q (fun j_ hj_ => by (by_cases z_ : (j_ : Int) < k_; exact a9_ j_ z_; rw [na_ j_ (by omega), nb j_ (by omega)]))⟩
            · have n1_ := na_ k_.toNat (by omega)
              have p1_ := pb (by omega)
              exact Or.inl ⟨by omega, (lcv_s k_.toNat a8_ (by omega) (by omega)).mpr (by omega)⟩
          · by_cases zb_ : S_.2.2.1 204 0 b_.toNat ≤ k_
            · have n1_ := nb k_.toNat (by omega)
              have p1_ := pa_ (by omega)
              exact Or.inr ⟨by omega, fun q_ => by (have q2_ := (lcv_s k_.toNat a8_ (by omega) (by omega)).mp q_; omega)⟩
            · have p1_ := pa_ (by omega)
              have p2_ := pb (by omega)
              by_cases zc_ : S_.2.2.1 205 0 (3 * a_ + k_).toNat < S_.2.2.1 205 0 (3 * b_ + k_).toNat
              · exact Or.inl ⟨by omega, (lcv_s k_.toNat a8_ (by omega) (by omega)).mpr (by omega)⟩
              · exact Or.inr ⟨by omega, fun q_ => by (have q2_ := (lcv_s k_.toNat a8_ (by omega) (by omega)).mp q_; omega)⟩
        · have cx7_ : ¬ ((S_.2.2.1 204 0 b_.toNat) ≤ (S_.2.2.1 204 0 a_.toNat)) := of_decide_eq_false cx7_
          refine sm_T_go 2 (c1 := (100, [some (.inr (.inr (some (13, 0)))), some (.inl a_), some (.inl b_), some (.inl k_)], [.inl 1], S_)) rfl ?_
          refine sm_T_rz rfl (by omega) ⟨_, _, rfl, (by first | rfl | exact hS_.symm), _, rfl, ?_⟩
          have a9_ : ∀ j_ : Nat, (j_ : Int) < k_ → rcv S_ a_.toNat j_ = rcv S_ b_.toNat j_ := fun j_ hj_ => by (have w_ := he_ j_ hj_; rw [rcv_y w_.1, rcv_y w_.2.1]; exact w_.2.2)
          have z4_ : 0 ≤ S_.2.2.1 204 0 a_.toNat ∧ S_.2.2.1 204 0 a_.toNat ≤ 3 := hI_.2 204 0 _
          have z5_ : 0 ≤ S_.2.2.1 204 0 b_.toNat ∧ S_.2.2.1 204 0 b_.toNat ≤ 3 := hI_.2 204 0 _
          have kab_ : k_ ≤ S_.2.2.1 204 0 a_.toNat ∧ k_ ≤ S_.2.2.1 204 0 b_.toNat := by (by_cases z_ : k_ = 0; omega; have w_ := he_ (k_ - 1).toNat (by omega); omega)
          have pa_ : k_ < S_.2.2.1 204 0 a_.toNat → rcv S_ a_.toNat k_.toNat = S_.2.2.1 205 0 (3 * a_ + k_).toNat := fun u_ => by (rw [rcv_y (by omega), show 3 * a_.toNat + k_.toNat = (3 * a_ + k_).toNat by omega])
          have pb : k_ < S_.2.2.1 204 0 b_.toNat → rcv S_ b_.toNat k_.toNat = S_.2.2.1 205 0 (3 * b_ + k_).toNat := fun u_ => by (rw [rcv_y (by omega), show 3 * b_.toNat + k_.toNat = (3 * b_ + k_).toNat by omega])
          have na_ : ∀ j_ : Nat, S_.2.2.1 204 0 a_.toNat ≤ (j_ : Int) → rcv S_ a_.toNat j_ = -1 := fun j_ u_ => rcv_n u_
          have nb : ∀ j_ : Nat, S_.2.2.1 204 0 b_.toNat ≤ (j_ : Int) → rcv S_ b_.toNat j_ = -1 := fun j_ u_ => rcv_n u_
          have g5_ : 0 ≤ S_.2.2.1 205 0 (3 * a_ + k_).toNat := (hI_.2 205 0 _).1
          have g6_ : 0 ≤ S_.2.2.1 205 0 (3 * b_ + k_).toNat := (hI_.2 205 0 _).1
          have a8_ : ∀ j_ : Nat, j_ < k_.toNat → rcv S_ a_.toNat j_ = rcv S_ b_.toNat j_ := fun j_ hj_ => a9_ j_ (by omega)
          by_cases za_ : S_.2.2.1 204 0 a_.toNat ≤ k_
          · by_cases zb_ : S_.2.2.1 204 0 b_.toNat ≤ k_
            · exact Or.inr ⟨by omega, lcv_q (fun j_ hj_ => by (by_cases z_ : (j_ : Int) < k_; exact a9_ j_ z_; rw [na_ j_ (by omega), nb j_ (by omega)]))⟩
            · have n1_ := na_ k_.toNat (by omega)
              have p1_ := pb (by omega)
              exact Or.inl ⟨by omega, (lcv_s k_.toNat a8_ (by omega) (by omega)).mpr (by omega)⟩
          · by_cases zb_ : S_.2.2.1 204 0 b_.toNat ≤ k_
            · have n1_ := nb k_.toNat (by omega)
              have p1_ := pa_ (by omega)
              exact Or.inr ⟨by omega, fun q_ => by (have q2_ := (lcv_s k_.toNat a8_ (by omega) (by omega)).mp q_; omega)⟩
            · have p1_ := pa_ (by omega)
              have p2_ := pb (by omega)
              by_cases zc_ : S_.2.2.1 205 0 (3 * a_ + k_).toNat < S_.2.2.1 205 0 (3 * b_ + k_).toNat
              · exact Or.inl ⟨by omega, (lcv_s k_.toNat a8_ (by omega) (by omega)).mpr (by omega)⟩
              · exact Or.inr ⟨by omega, fun q_ => by (have q2_ := (lcv_s k_.toNat a8_ (by omega) (by omega)).mp q_; omega)⟩
      · have cx6_ : ¬ ((S_.2.2.1 204 0 b_.toNat) ≤ k_) := of_decide_eq_false cx6_
        refine sm_T_go 4 (c1 := (28, [some (.inr (.inr (some (13, 0)))), some (.inl a_), some (.inl b_), some (.inl k_)], [.inl a_, .inl 3, .inr (.inr (some (205, 0)))], S_)) rfl ?_
        refine sm_T_bin (w := 3 * a_) rfl (bi_mul (by omega) (by omega) (by omega)) ?_ -- pc_ 28
        refine sm_T_go 1 (c1 := (30, [some (.inr (.inr (some (13, 0)))), some (.inl a_), some (.inl b_), some (.inl k_)], [.inl k_, .inl (3 * a_), .inr (.inr (some (205, 0)))], S_)) rfl ?_
        refine sm_T_bin (w := 3 * a_ + k_) rfl (bi_add (by omega) (by omega) (by omega)) ?_ -- pc_ 30
        refine sm_T_iald (n := 192) rfl rfl (by omega) (by omega) ?_
        have bx8_ : 0 ≤ S_.2.2.1 205 0 (3 * a_ + k_).toNat ∧ S_.2.2.1 205 0 (3 * a_ + k_).toNat ≤ 1012 := hI_.2 205 0 _
        refine sm_T_go 4 (c1 := (38, [some (.inr (.inr (some (13, 0)))), some (.inl a_), some (.inl b_), some (.inl k_)], [.inl b_, .inl 3, .inr (.inr (some (205, 0))), .inl (S_.2.2.1 205 0 (3 * a_ + k_).toNat)], S_)) rfl ?_
        refine sm_T_bin (w := 3 * b_) rfl (bi_mul (by omega) (by omega) (by omega)) ?_ -- pc_ 38
        refine sm_T_go 1 (c1 := (40, [some (.inr (.inr (some (13, 0)))), some (.inl a_), some (.inl b_), some (.inl k_)], [.inl k_, .inl (3 * b_), .inr (.inr (some (205, 0))), .inl (S_.2.2.1 205 0 (3 * a_ + k_).toNat)], S_)) rfl ?_
        refine sm_T_bin (w := 3 * b_ + k_) rfl (bi_add (by omega) (by omega) (by omega)) ?_ -- pc_ 40
        refine sm_T_iald (n := 192) rfl rfl (by omega) (by omega) ?_
        have bx9_ : 0 ≤ S_.2.2.1 205 0 (3 * b_ + k_).toNat ∧ S_.2.2.1 205 0 (3 * b_ + k_).toNat ≤ 1012 := hI_.2 205 0 _
        refine sm_T_br (a := 0) (z := 32) rfl (fun cx10_ => ?_) (fun cx10_ => ?_)
        · have cx10_ : (S_.2.2.1 205 0 (3 * a_ + k_).toNat) = (S_.2.2.1 205 0 (3 * b_ + k_).toNat) := of_decide_eq_true cx10_
          refine sm_T_inc (a := 3) (z := 1) (v := k_) (w := k_ + 1) rfl rfl (by omega) (by omega) (by omega) ?_ -- pc_ 74
          refine sm_T_go 1 (c1 := (2, [some (.inr (.inr (some (13, 0)))), some (.inl a_), some (.inl b_), some (.inl (k_ + 1))], [], S_)) rfl ?_
          refine ih_ (k_ + 1) S_ hI_ hF_ ⟨?_, ?_, ?_, trivial⟩ ?_
          · omega
          · intro j_ hj_
            by_cases z9_ : (j_ : Int) = k_
            · rw [show 3 * a_.toNat + j_ = (3 * a_ + k_).toNat by omega, show 3 * b_.toNat + j_ = (3 * b_ + k_).toNat by omega]
              exact ⟨by omega, by omega, by omega⟩
            · exact he_ j_ (by omega)
          · rfl
          · omega
        · have cx10_ : ¬ ((S_.2.2.1 205 0 (3 * a_ + k_).toNat) = (S_.2.2.1 205 0 (3 * b_ + k_).toNat)) := of_decide_eq_false cx10_
          refine sm_T_go 4 (c1 := (51, [some (.inr (.inr (some (13, 0)))), some (.inl a_), some (.inl b_), some (.inl k_)], [.inl a_, .inl 3, .inr (.inr (some (205, 0)))], S_)) rfl ?_
          refine sm_T_bin (w := 3 * a_) rfl (bi_mul (by omega) (by omega) (by omega)) ?_ -- pc_ 51
          refine sm_T_go 1 (c1 := (53, [some (.inr (.inr (some (13, 0)))), some (.inl a_), some (.inl b_), some (.inl k_)], [.inl k_, .inl (3 * a_), .inr (.inr (some (205, 0)))], S_)) rfl ?_
          refine sm_T_bin (w := 3 * a_ + k_) rfl (bi_add (by omega) (by omega) (by omega)) ?_ -- pc_ 53
          refine sm_T_iald (n := 192) rfl rfl (by omega) (by omega) ?_
          refine sm_T_go 4 (c1 := (61, [some (.inr (.inr (some (13, 0)))), some (.inl a_), some (.inl b_), some (.inl k_)], [.inl b_, .inl 3, .inr (.inr (some (205, 0))), .inl (S_.2.2.1 205 0 (3 * a_ + k_).toNat)], S_)) rfl ?_
          refine sm_T_bin (w := 3 * b_) rfl (bi_mul (by omega) (by omega) (by omega)) ?_ -- pc_ 61
          refine sm_T_go 1 (c1 := (63, [some (.inr (.inr (some (13, 0)))), some (.inl a_), some (.inl b_), some (.inl k_)], [.inl k_, .inl (3 * b_), .inr (.inr (some (205, 0))), .inl (S_.2.2.1 205 0 (3 * a_ + k_).toNat)], S_)) rfl ?_
          refine sm_T_bin (w := 3 * b_ + k_) rfl (bi_add (by omega) (by omega) (by omega)) ?_ -- pc_ 63
          refine sm_T_iald (n := 192) rfl rfl (by omega) (by omega) ?_
          refine sm_T_br (a := 3) (z := 7) rfl (fun cx11_ => ?_) (fun cx11_ => ?_)
          · have cx11_ : (S_.2.2.1 205 0 (3 * b_ + k_).toNat) ≤ (S_.2.2.1 205 0 (3 * a_ + k_).toNat) := of_decide_eq_true cx11_
            refine sm_T_go 1 (c1 := (73, [some (.inr (.inr (some (13, 0)))), some (.inl a_), some (.inl b_), some (.inl k_)], [.inl 0], S_)) rfl ?_
            refine sm_T_rz rfl (by omega) ⟨_, _, rfl, (by first | rfl | exact hS_.symm), _, rfl, ?_⟩
            have a9_ : ∀ j_ : Nat, (j_ : Int) < k_ → rcv S_ a_.toNat j_ = rcv S_ b_.toNat j_ := fun j_ hj_ => by (have w_ := he_ j_ hj_; rw [rcv_y w_.1, rcv_y w_.2.1]; exact w_.2.2)
            have z4_ : 0 ≤ S_.2.2.1 204 0 a_.toNat ∧ S_.2.2.1 204 0 a_.toNat ≤ 3 := hI_.2 204 0 _
            have z5_ : 0 ≤ S_.2.2.1 204 0 b_.toNat ∧ S_.2.2.1 204 0 b_.toNat ≤ 3 := hI_.2 204 0 _
            have kab_ : k_ ≤ S_.2.2.1 204 0 a_.toNat ∧ k_ ≤ S_.2.2.1 204 0 b_.toNat := by (by_cases z_ : k_ = 0; omega; have w_ := he_ (k_ - 1).toNat (by omega); omega)
            have pa_ : k_ < S_.2.2.1 204 0 a_.toNat → rcv S_ a_.toNat k_.toNat = S_.2.2.1 205 0 (3 * a_ + k_).toNat := fun u_ => by (rw [rcv_y (by omega), show 3 * a_.toNat + k_.toNat = (3 * a_ + k_).toNat by omega])
            have pb : k_ < S_.2.2.1 204 0 b_.toNat → rcv S_ b_.toNat k_.toNat = S_.2.2.1 205 0 (3 * b_ + k_).toNat := fun u_ => by (rw [rcv_y (by omega), show 3 * b_.toNat + k_.toNat = (3 * b_ + k_).toNat by omega])
            have na_ : ∀ j_ : Nat, S_.2.2.1 204 0 a_.toNat ≤ (j_ : Int) → rcv S_ a_.toNat j_ = -1 := fun j_ u_ => rcv_n u_
            have nb : ∀ j_ : Nat, S_.2.2.1 204 0 b_.toNat ≤ (j_ : Int) → rcv S_ b_.toNat j_ = -1 := fun j_ u_ => rcv_n u_
            have g5_ : 0 ≤ S_.2.2.1 205 0 (3 * a_ + k_).toNat := (hI_.2 205 0 _).1
            have g6_ : 0 ≤ S_.2.2.1 205 0 (3 * b_ + k_).toNat := (hI_.2 205 0 _).1
            have a8_ : ∀ j_ : Nat, j_ < k_.toNat → rcv S_ a_.toNat j_ = rcv S_ b_.toNat j_ := fun j_ hj_ => a9_ j_ (by omega)
            by_cases za_ : S_.2.2.1 204 0 a_.toNat ≤ k_
            · by_cases zb_ : S_.2.2.1 204 0 b_.toNat ≤ k_
              · exact Or.inr ⟨by omega, lcv_q (fun j_ hj_ => by (by_cases z_ : (j_ : Int) < k_; exact a9_ j_ z_; rw [na_ j_ (by omega), nb j_ (by omega)]))⟩
              · have n1_ := na_ k_.toNat (by omega)
                have p1_ := pb (by omega)
                exact Or.inl ⟨by omega, (lcv_s k_.toNat a8_ (by omega) (by omega)).mpr (by omega)⟩
            · by_cases zb_ : S_.2.2.1 204 0 b_.toNat ≤ k_
              · have n1_ := nb k_.toNat (by omega)
                have p1_ := pa_ (by omega)
                exact Or.inr ⟨by omega, fun q_ => by (have q2_ := (lcv_s k_.toNat a8_ (by omega) (by omega)).mp q_; omega)⟩
              · have p1_ := pa_ (by omega)
                have p2_ := pb (by omega)
                by_cases zc_ : S_.2.2.1 205 0 (3 * a_ + k_).toNat < S_.2.2.1 205 0 (3 * b_ + k_).toNat
                · exact Or.inl ⟨by omega, (lcv_s k_.toNat a8_ (by omega) (by omega)).mpr (by omega)⟩
                · exact Or.inr ⟨by omega, fun q_ => by (have q2_ := (lcv_s k_.toNat a8_ (by omega) (by omega)).mp q_; omega)⟩
          · have cx11_ : ¬ ((S_.2.2.1 205 0 (3 * b_ + k_).toNat) ≤ (S_.2.2.1 205 0 (3 * a_ + k_).toNat)) := of_decide_eq_false cx11_
            refine sm_T_go 2 (c1 := (73, [some (.inr (.inr (some (13, 0)))), some (.inl a_), some (.inl b_), some (.inl k_)], [.inl 1], S_)) rfl ?_
            refine sm_T_rz rfl (by omega) ⟨_, _, rfl, (by first | rfl | exact hS_.symm), _, rfl, ?_⟩
            have a9_ : ∀ j_ : Nat, (j_ : Int) < k_ → rcv S_ a_.toNat j_ = rcv S_ b_.toNat j_ := fun j_ hj_ => by (have w_ := he_ j_ hj_; rw [rcv_y w_.1, rcv_y w_.2.1]; exact w_.2.2)
            have z4_ : 0 ≤ S_.2.2.1 204 0 a_.toNat ∧ S_.2.2.1 204 0 a_.toNat ≤ 3 := hI_.2 204 0 _
            have z5_ : 0 ≤ S_.2.2.1 204 0 b_.toNat ∧ S_.2.2.1 204 0 b_.toNat ≤ 3 := hI_.2 204 0 _
            have kab_ : k_ ≤ S_.2.2.1 204 0 a_.toNat ∧ k_ ≤ S_.2.2.1 204 0 b_.toNat := by (by_cases z_ : k_ = 0; omega; have w_ := he_ (k_ - 1).toNat (by omega); omega)
            have pa_ : k_ < S_.2.2.1 204 0 a_.toNat → rcv S_ a_.toNat k_.toNat = S_.2.2.1 205 0 (3 * a_ + k_).toNat := fun u_ => by (rw [rcv_y (by omega), show 3 * a_.toNat + k_.toNat = (3 * a_ + k_).toNat by omega])
            have pb : k_ < S_.2.2.1 204 0 b_.toNat → rcv S_ b_.toNat k_.toNat = S_.2.2.1 205 0 (3 * b_ + k_).toNat := fun u_ => by (rw [rcv_y (by omega), show 3 * b_.toNat + k_.toNat = (3 * b_ + k_).toNat by omega])
            have na_ : ∀ j_ : Nat, S_.2.2.1 204 0 a_.toNat ≤ (j_ : Int) → rcv S_ a_.toNat j_ = -1 := fun j_ u_ => rcv_n u_
            have nb : ∀ j_ : Nat, S_.2.2.1 204 0 b_.toNat ≤ (j_ : Int) → rcv S_ b_.toNat j_ = -1 := fun j_ u_ => rcv_n u_
            have g5_ : 0 ≤ S_.2.2.1 205 0 (3 * a_ + k_).toNat := (hI_.2 205 0 _).1
            have g6_ : 0 ≤ S_.2.2.1 205 0 (3 * b_ + k_).toNat := (hI_.2 205 0 _).1
            have a8_ : ∀ j_ : Nat, j_ < k_.toNat → rcv S_ a_.toNat j_ = rcv S_ b_.toNat j_ := fun j_ hj_ => a9_ j_ (by omega)
            by_cases za_ : S_.2.2.1 204 0 a_.toNat ≤ k_
            · by_cases zb_ : S_.2.2.1 204 0 b_.toNat ≤ k_
              · exact Or.inr ⟨by omega, lcv_q (fun j_ hj_ => by (by_cases z_ : (j_ : Int) < k_; exact a9_ j_ z_; rw [na_ j_ (by omega), nb j_ (by omega)]))⟩
              · have n1_ := na_ k_.toNat (by omega)
                have p1_ := pb (by omega)
                exact Or.inl ⟨by omega, (lcv_s k_.toNat a8_ (by omega) (by omega)).mpr (by omega)⟩
            · by_cases zb_ : S_.2.2.1 204 0 b_.toNat ≤ k_
              · have n1_ := nb k_.toNat (by omega)
                have p1_ := pa_ (by omega)
                exact Or.inr ⟨by omega, fun q_ => by (have q2_ := (lcv_s k_.toNat a8_ (by omega) (by omega)).mp q_; omega)⟩
              · have p1_ := pa_ (by omega)
                have p2_ := pb (by omega)
                by_cases zc_ : S_.2.2.1 205 0 (3 * a_ + k_).toNat < S_.2.2.1 205 0 (3 * b_ + k_).toNat
                · exact Or.inl ⟨by omega, (lcv_s k_.toNat a8_ (by omega) (by omega)).mpr (by omega)⟩
                · exact Or.inr ⟨by omega, fun q_ => by (have q2_ := (lcv_s k_.toNat a8_ (by omega) (by omega)).mp q_; omega)⟩
set_option maxHeartbeats 400000 in
set_option maxRecDepth 20000 in
theorem vc_398n {sc_ : Nat × (Nat → Int)} (a_ : Int) (b_ : Int) (S0_ : sm_S) (hI_ : gi S0_) (ha_ : 0 ≤ a_ ∧ a_ ≤ 63 ∧ 0 ≤ b_ ∧ b_ ≤ 63) : sm_T (mt_P sc_) 0 398 (0, [some (.inr (.inr (some (13, 0)))), some (.inl a_), some (.inl b_), none], [], S0_) (fun ro9_ => ∃ u_ S1_, ro9_ = (.inl u_, S1_, 0) ∧ vq_398n a_ b_ S0_ u_ S1_) := by
  have hF_ : ai_fr (sx_W vw_398n) S0_ S0_ := ai_fr_rf
  refine sm_T_go 2 (c1 := (2, [some (.inr (.inr (some (13, 0)))), some (.inl a_), some (.inl b_), some (.inl 0)], [], S0_)) rfl ?_
  refine (vl_398n a_ b_ S0_ ha_ _) 0 S0_ hI_ hF_ ⟨?_, ?_, ?_, trivial⟩ (Nat.lt_succ_self _)
  · omega
  · (intro j_ hj_; exfalso; omega)
  · rfl
/-! M_.swapCuts -/
def vw_399n : sx_Wl := ([], [204, 205], [])
def vq_399n (a_ : Int) (b_ : Int) (P_ : Int → Prop) (S0_ : sm_S) (u_ : Option sm_V) (S1_ : sm_S) : Prop := u_ = none ∧ gi S1_ ∧ ai_fr (sx_W vw_399n) S0_ S1_ ∧ (ctp P_ S1_ ∧ (∀ j_ : Nat, S1_.2.2.1 204 0 j_ = if j_ = b_.toNat then S0_.2.2.1 204 0 a_.toNat else if j_ = a_.toNat then S0_.2.2.1 204 0 b_.toNat else S0_.2.2.1 204 0 j_) ∧ (∀ j_ : Int, 0 ≤ j_ → S1_.2.2.1 205 0 j_.toNat = if 3 * a_ ≤ j_ ∧ j_ < 3 * a_ + 3 then S0_.2.2.1 205 0 (j_ - 3 * a_ + 3 * b_).toNat else if 3 * b_ ≤ j_ ∧ j_ < 3 * b_ + 3 then S0_.2.2.1 205 0 (j_ - 3 * b_ + 3 * a_).toNat else S0_.2.2.1 205 0 j_.toNat))
set_option maxHeartbeats 1500000 in
set_option maxRecDepth 20000 in
theorem vl_399n {sc_ : Nat × (Nat → Int)} (a_ : Int) (b_ : Int) (P_ : Int → Prop) (S0_ : sm_S) (ha_ : 0 ≤ a_ ∧ a_ < (S0_.1 13 0 114) ∧ 0 ≤ b_ ∧ b_ < (S0_.1 13 0 114) ∧ a_ ≠ b_) (hc_ : ctp P_ S0_) : ∀ nn_ : Nat, (∀ (k_ : Int) (S_ : sm_S), gi S_ → ai_fr (sx_W vw_399n) S0_ S_ → ((0 ≤ k_ ∧ k_ ≤ 3) ∧ (∀ j9_ : Int, 0 ≤ j9_ → S_.2.2.1 205 0 j9_.toNat = if 3 * a_ ≤ j9_ ∧ j9_ < 3 * a_ + k_ then S0_.2.2.1 205 0 (j9_ - 3 * a_ + 3 * b_).toNat else if 3 * b_ ≤ j9_ ∧ j9_ < 3 * b_ + k_ then S0_.2.2.1 205 0 (j9_ - 3 * b_ + 3 * a_).toNat else S0_.2.2.1 205 0 j9_.toNat) ∧ (∀ j9_ : Nat, S_.2.2.1 204 0 j9_ = if j9_ = b_.toNat then S0_.2.2.1 204 0 a_.toNat else if j9_ = a_.toNat then S0_.2.2.1 204 0 b_.toNat else S0_.2.2.1 204 0 j9_) ∧ True) → ((50 - k_).toNat) < nn_ → sm_T (mt_P sc_) 0 399 (29, [some (.inr (.inr (some (13, 0)))), some (.inl a_), some (.inl b_), none, some (.inl k_), none], [], S_) (fun ro9_ => ∃ u_ S1_, ro9_ = (.inl u_, S1_, 0) ∧ vq_399n a_ b_ P_ S0_ u_ S1_)) := by
  intro nn_
  induction nn_ with
  | zero => exact fun _ _ _ _ _ h_ => absurd h_ (Nat.not_lt_zero _)
  | succ nn_ ih_ =>
    rintro k_ S_ hI_ hF_ ⟨h0_, h1_, h2_, -⟩ hm_
    have c9_ : S_.1 13 0 114 ≤ 64 := (hI_.1 13 0 114 rfl).2
    have g14_ : S_.1 13 0 114 = S0_.1 13 0 114 := hF_.1 13 0 114 rfl
    refine sm_T_go 2 (c1 := (32, [some (.inr (.inr (some (13, 0)))), some (.inl a_), some (.inl b_), none, some (.inl k_), none], [.inl 3, .inl k_], S_)) rfl ?_
    refine sm_T_br (a := 3) (z := 57) rfl (fun cx1_ => ?_) (fun cx1_ => ?_)
    · have cx1_ : 3 ≤ k_ := of_decide_eq_true cx1_
      refine sm_T_rv rfl ⟨_, _, rfl, rfl, hI_, hF_, ?_⟩
      have k39_ : k_ = 3 := by omega
      refine ⟨?_, h2_, fun j_ u_ => by (have w_ := h1_ j_ u_; rw [k39_] at w_; exact w_)⟩
      have bb_ : ∀ i9_ : Nat, 0 ≤ S_.2.2.1 204 0 i9_ ∧ S_.2.2.1 204 0 i9_ ≤ 3 := fun i9_ => hI_.2 204 0 i9_
      intro c8_ u0_ u1_
      rw [g14_] at u1_
      have q9_ := h2_ c8_.toNat
      have b9_ := bb_ c8_.toNat
      by_cases z9_ : c8_.toNat = b_.toNat
      · rw [if_pos z9_] at q9_
        have w9_ := hc_ a_ (by omega) (by omega)
        refine ⟨by omega, fun k9_ v0_ v1_ => ?_⟩
        rw [h1_ (3 * c8_ + k9_) (by omega), if_neg (by omega), if_pos (by omega), show 3 * c8_ + k9_ - 3 * b_ + 3 * a_ = 3 * a_ + k9_ by omega]
        exact w9_.2 k9_ v0_ (by omega)
      · rw [if_neg z9_] at q9_
        by_cases y9_ : c8_.toNat = a_.toNat
        · rw [if_pos y9_] at q9_
          have w9_ := hc_ b_ (by omega) (by omega)
          refine ⟨by omega, fun k9_ v0_ v1_ => ?_⟩
          rw [h1_ (3 * c8_ + k9_) (by omega), if_pos (by omega), show 3 * c8_ + k9_ - 3 * a_ + 3 * b_ = 3 * b_ + k9_ by omega]
          exact w9_.2 k9_ v0_ (by omega)
        · rw [if_neg y9_] at q9_
          have w9_ := hc_ c8_ u0_ (by omega)
          refine ⟨by omega, fun k9_ v0_ v1_ => ?_⟩
          rw [h1_ (3 * c8_ + k9_) (by omega), if_neg (by omega), if_neg (by omega)]
          exact w9_.2 k9_ v0_ (by omega)
    · have cx1_ : ¬ (3 ≤ k_) := of_decide_eq_false cx1_
      refine sm_T_go 4 (c1 := (41, [some (.inr (.inr (some (13, 0)))), some (.inl a_), some (.inl b_), none, some (.inl k_), none], [.inl a_, .inl 3, .inr (.inr (some (205, 0)))], S_)) rfl ?_
      refine sm_T_bin (w := 3 * a_) rfl (bi_mul (by omega) (by omega) (by omega)) ?_ -- pc_ 41
      refine sm_T_go 1 (c1 := (44, [some (.inr (.inr (some (13, 0)))), some (.inl a_), some (.inl b_), none, some (.inl k_), none], [.inl k_, .inl (3 * a_), .inr (.inr (some (205, 0)))], S_)) rfl ?_
      refine sm_T_bin (w := 3 * a_ + k_) rfl (bi_add (by omega) (by omega) (by omega)) ?_ -- pc_ 44
      refine sm_T_iald (n := 192) rfl rfl (by omega) (by omega) ?_
      have bx2_ : 0 ≤ S_.2.2.1 205 0 (3 * a_ + k_).toNat ∧ S_.2.2.1 205 0 (3 * a_ + k_).toNat ≤ 1012 := hI_.2 205 0 _
      refine sm_T_go 5 (c1 := (54, [some (.inr (.inr (some (13, 0)))), some (.inl a_), some (.inl b_), none, some (.inl k_), some (.inl (S_.2.2.1 205 0 (3 * a_ + k_).toNat))], [.inl a_, .inl 3, .inr (.inr (some (205, 0)))], S_)) rfl ?_
      refine sm_T_bin (w := 3 * a_) rfl (bi_mul (by omega) (by omega) (by omega)) ?_ -- pc_ 54
      refine sm_T_go 1 (c1 := (57, [some (.inr (.inr (some (13, 0)))), some (.inl a_), some (.inl b_), none, some (.inl k_), some (.inl (S_.2.2.1 205 0 (3 * a_ + k_).toNat))], [.inl k_, .inl (3 * a_), .inr (.inr (some (205, 0)))], S_)) rfl ?_
      refine sm_T_bin (w := 3 * a_ + k_) rfl (bi_add (by omega) (by omega) (by omega)) ?_ -- pc_ 57
      refine sm_T_go 4 (c1 := (64, [some (.inr (.inr (some (13, 0)))), some (.inl a_), some (.inl b_), none, some (.inl k_), some (.inl (S_.2.2.1 205 0 (3 * a_ + k_).toNat))], [.inl b_, .inl 3, .inr (.inr (some (205, 0))), .inl (3 * a_ + k_), .inr (.inr (some (205, 0)))], S_)) rfl ?_
      refine sm_T_bin (w := 3 * b_) rfl (bi_mul (by omega) (by omega) (by omega)) ?_ -- pc_ 64
      refine sm_T_go 1 (c1 := (67, [some (.inr (.inr (some (13, 0)))), some (.inl a_), some (.inl b_), none, some (.inl k_), some (.inl (S_.2.2.1 205 0 (3 * a_ + k_).toNat))], [.inl k_, .inl (3 * b_), .inr (.inr (some (205, 0))), .inl (3 * a_ + k_), .inr (.inr (some (205, 0)))], S_)) rfl ?_
      refine sm_T_bin (w := 3 * b_ + k_) rfl (bi_add (by omega) (by omega) (by omega)) ?_ -- pc_ 67
      refine sm_T_iald (n := 192) rfl rfl (by omega) (by omega) ?_
      have bx3_ : 0 ≤ S_.2.2.1 205 0 (3 * b_ + k_).toNat ∧ S_.2.2.1 205 0 (3 * b_ + k_).toNat ≤ 1012 := hI_.2 205 0 _
      refine sm_T_iast (n := 192) rfl rfl (by omega) (by omega) ?_
      have hIx4_ : gi (sm_aI S_ 205 0 (3 * a_ + k_).toNat (S_.2.2.1 205 0 (3 * b_ + k_).toNat)) := gi_aI hI_ (show 0 ≤ (S_.2.2.1 205 0 (3 * b_ + k_).toNat) ∧ (S_.2.2.1 205 0 (3 * b_ + k_).toNat) ≤ 1012 from ⟨by omega, by omega⟩)
      have hFx5_ : ai_fr (sx_W vw_399n) S0_ (sm_aI S_ 205 0 (3 * a_ + k_).toNat (S_.2.2.1 205 0 (3 * b_ + k_).toNat)) := ai_fr_tr hF_ (ai_fr_aI rfl)
      refine sm_T_go 4 (c1 := (76, [some (.inr (.inr (some (13, 0)))), some (.inl a_), some (.inl b_), none, some (.inl k_), some (.inl (S_.2.2.1 205 0 (3 * a_ + k_).toNat))], [.inl b_, .inl 3, .inr (.inr (some (205, 0)))], sm_aI S_ 205 0 (3 * a_ + k_).toNat (S_.2.2.1 205 0 (3 * b_ + k_).toNat))) rfl ?_
      refine sm_T_bin (w := 3 * b_) rfl (bi_mul (by omega) (by omega) (by omega)) ?_ -- pc_ 76
      refine sm_T_go 1 (c1 := (79, [some (.inr (.inr (some (13, 0)))), some (.inl a_), some (.inl b_), none, some (.inl k_), some (.inl (S_.2.2.1 205 0 (3 * a_ + k_).toNat))], [.inl k_, .inl (3 * b_), .inr (.inr (some (205, 0)))], sm_aI S_ 205 0 (3 * a_ + k_).toNat (S_.2.2.1 205 0 (3 * b_ + k_).toNat))) rfl ?_
      refine sm_T_bin (w := 3 * b_ + k_) rfl (bi_add (by omega) (by omega) (by omega)) ?_ -- pc_ 79
      refine sm_T_go 1 (c1 := (82, [some (.inr (.inr (some (13, 0)))), some (.inl a_), some (.inl b_), none, some (.inl k_), some (.inl (S_.2.2.1 205 0 (3 * a_ + k_).toNat))], [.inl (S_.2.2.1 205 0 (3 * a_ + k_).toNat), .inl (3 * b_ + k_), .inr (.inr (some (205, 0)))], sm_aI S_ 205 0 (3 * a_ + k_).toNat (S_.2.2.1 205 0 (3 * b_ + k_).toNat))) rfl ?_
      refine sm_T_iast (n := 192) rfl rfl (by omega) (by omega) ?_
      have hIx6_ : gi (sm_aI (sm_aI S_ 205 0 (3 * a_ + k_).toNat (S_.2.2.1 205 0 (3 * b_ + k_).toNat)) 205 0 (3 * b_ + k_).toNat (S_.2.2.1 205 0 (3 * a_ + k_).toNat)) := gi_aI hIx4_ (show 0 ≤ (S_.2.2.1 205 0 (3 * a_ + k_).toNat) ∧ (S_.2.2.1 205 0 (3 * a_ + k_).toNat) ≤ 1012 from ⟨by omega, by omega⟩)
      have hFx7_ : ai_fr (sx_W vw_399n) S0_ (sm_aI (sm_aI S_ 205 0 (3 * a_ + k_).toNat (S_.2.2.1 205 0 (3 * b_ + k_).toNat)) 205 0 (3 * b_ + k_).toNat (S_.2.2.1 205 0 (3 * a_ + k_).toNat)) := ai_fr_tr hFx5_ (ai_fr_aI rfl)
      refine sm_T_inc (a := 4) (z := 1) (v := k_) (w := k_ + 1) rfl rfl (by omega) (by omega) (by omega) ?_ -- pc_ 83
      refine sm_T_go 1 (c1 := (29, [some (.inr (.inr (some (13, 0)))), some (.inl a_), some (.inl b_), none, some (.inl (k_ + 1)), some (.inl (S_.2.2.1 205 0 (3 * a_ + k_).toNat))], [], sm_aI (sm_aI S_ 205 0 (3 * a_ + k_).toNat (S_.2.2.1 205 0 (3 * b_ + k_).toNat)) 205 0 (3 * b_ + k_).toNat (S_.2.2.1 205 0 (3 * a_ + k_).toNat))) rfl ?_
      refine sm_T_wk [some (.inr (.inr (some (13, 0)))), some (.inl a_), some (.inl b_), none, some (.inl (k_ + 1)), none] (by exact ⟨rfl, rfl, rfl, rfl, trivial⟩) ?_
      refine ih_ (k_ + 1) (sm_aI (sm_aI S_ 205 0 (3 * a_ + k_).toNat (S_.2.2.1 205 0 (3 * b_ + k_).toNat)) 205 0 (3 * b_ + k_).toNat (S_.2.2.1 205 0 (3 * a_ + k_).toNat)) hIx6_ hFx7_ ⟨?_, ?_, ?_, trivial⟩ ?_
      · omega
      · have A9_ := h1_ (3 * a_ + k_) (by omega)
        have B9_ := h1_ (3 * b_ + k_) (by omega)
        rw [if_neg (by omega), if_neg (by omega)] at A9_ B9_
        intro j9_ u0_
        (try simp only [rd_eq, rd_ne, rf_eq, rf_nk, rf_nt, rd_fa, rd_af, rd_fl, rd_al, rd_lf, rd_la, rd_leq, rd_lne, rd_fr, rd_ar, ne_eq, Nat.reduceEqDiff, not_false_eq_true])
        by_cases z9_ : j9_ = 3 * b_ + k_
        · rw [if_pos (by omega), if_neg (by omega), if_pos (by omega), A9_, show j9_ - 3 * b_ + 3 * a_ = 3 * a_ + k_ by omega]
        · rw [if_neg (by omega)]
          by_cases y9_ : j9_ = 3 * a_ + k_
          · rw [if_pos (by omega), if_pos (by omega), B9_, show j9_ - 3 * a_ + 3 * b_ = 3 * b_ + k_ by omega]
          · rw [if_neg (by omega), h1_ j9_ u0_]
            have e1_ : (3 * a_ ≤ j9_ ∧ j9_ < 3 * a_ + k_) ↔ (3 * a_ ≤ j9_ ∧ j9_ < 3 * a_ + (k_ + 1)) := by omega
            have e2_ : (3 * b_ ≤ j9_ ∧ j9_ < 3 * b_ + k_) ↔ (3 * b_ ≤ j9_ ∧ j9_ < 3 * b_ + (k_ + 1)) := by omega
            simp only [e1_, e2_]
      · (intro j9_; (try simp only [rd_eq, rd_ne, rf_eq, rf_nk, rf_nt, rd_fa, rd_af, rd_fl, rd_al, rd_lf, rd_la, rd_leq, rd_lne, rd_fr, rd_ar, ne_eq, Nat.reduceEqDiff, not_false_eq_true]); exact h2_ j9_)
      · omega
set_option maxHeartbeats 1500000 in
set_option maxRecDepth 20000 in
theorem vc_399n {sc_ : Nat × (Nat → Int)} (a_ : Int) (b_ : Int) (P_ : Int → Prop) (S0_ : sm_S) (hI_ : gi S0_) (ha_ : 0 ≤ a_ ∧ a_ < (S0_.1 13 0 114) ∧ 0 ≤ b_ ∧ b_ < (S0_.1 13 0 114) ∧ a_ ≠ b_) (hc_ : ctp P_ S0_) : sm_T (mt_P sc_) 0 399 (0, [some (.inr (.inr (some (13, 0)))), some (.inl a_), some (.inl b_), none, none, none], [], S0_) (fun ro9_ => ∃ u_ S1_, ro9_ = (.inl u_, S1_, 0) ∧ vq_399n a_ b_ P_ S0_ u_ S1_) := by
  have hF_ : ai_fr (sx_W vw_399n) S0_ S0_ := ai_fr_rf
  have c9_ : S0_.1 13 0 114 ≤ 64 := (hI_.1 13 0 114 rfl).2
  refine sm_T_go 3 (c1 := (5, [some (.inr (.inr (some (13, 0)))), some (.inl a_), some (.inl b_), none, none, none], [.inl a_, .inr (.inr (some (204, 0)))], S0_)) rfl ?_
  refine sm_T_iald (n := 64) rfl rfl (by omega) (by omega) ?_
  have bx1_ : 0 ≤ S0_.2.2.1 204 0 a_.toNat ∧ S0_.2.2.1 204 0 a_.toNat ≤ 3 := hI_.2 204 0 _
  refine sm_T_go 7 (c1 := (17, [some (.inr (.inr (some (13, 0)))), some (.inl a_), some (.inl b_), some (.inl (S0_.2.2.1 204 0 a_.toNat)), none, none], [.inl b_, .inr (.inr (some (204, 0))), .inl a_, .inr (.inr (some (204, 0)))], S0_)) rfl ?_
  refine sm_T_iald (n := 64) rfl rfl (by omega) (by omega) ?_
  have bx2_ : 0 ≤ S0_.2.2.1 204 0 b_.toNat ∧ S0_.2.2.1 204 0 b_.toNat ≤ 3 := hI_.2 204 0 _
  refine sm_T_iast (n := 64) rfl rfl (by omega) (by omega) ?_
  have hIx3_ : gi (sm_aI S0_ 204 0 a_.toNat (S0_.2.2.1 204 0 b_.toNat)) := gi_aI hI_ (show 0 ≤ (S0_.2.2.1 204 0 b_.toNat) ∧ (S0_.2.2.1 204 0 b_.toNat) ≤ 3 from ⟨by omega, by omega⟩)
  have hFx4_ : ai_fr (sx_W vw_399n) S0_ (sm_aI S0_ 204 0 a_.toNat (S0_.2.2.1 204 0 b_.toNat)) := ai_fr_tr hF_ (ai_fr_aI rfl)
  refine sm_T_go 4 (c1 := (25, [some (.inr (.inr (some (13, 0)))), some (.inl a_), some (.inl b_), some (.inl (S0_.2.2.1 204 0 a_.toNat)), none, none], [.inl (S0_.2.2.1 204 0 a_.toNat), .inl b_, .inr (.inr (some (204, 0)))], sm_aI S0_ 204 0 a_.toNat (S0_.2.2.1 204 0 b_.toNat))) rfl ?_
  refine sm_T_iast (n := 64) rfl rfl (by omega) (by omega) ?_
  have hIx5_ : gi (sm_aI (sm_aI S0_ 204 0 a_.toNat (S0_.2.2.1 204 0 b_.toNat)) 204 0 b_.toNat (S0_.2.2.1 204 0 a_.toNat)) := gi_aI hIx3_ (show 0 ≤ (S0_.2.2.1 204 0 a_.toNat) ∧ (S0_.2.2.1 204 0 a_.toNat) ≤ 3 from ⟨by omega, by omega⟩)
  have hFx6_ : ai_fr (sx_W vw_399n) S0_ (sm_aI (sm_aI S0_ 204 0 a_.toNat (S0_.2.2.1 204 0 b_.toNat)) 204 0 b_.toNat (S0_.2.2.1 204 0 a_.toNat)) := ai_fr_tr hFx4_ (ai_fr_aI rfl)
  refine sm_T_go 2 (c1 := (29, [some (.inr (.inr (some (13, 0)))), some (.inl a_), some (.inl b_), some (.inl (S0_.2.2.1 204 0 a_.toNat)), some (.inl 0), none], [], sm_aI (sm_aI S0_ 204 0 a_.toNat (S0_.2.2.1 204 0 b_.toNat)) 204 0 b_.toNat (S0_.2.2.1 204 0 a_.toNat))) rfl ?_
  refine sm_T_wk [some (.inr (.inr (some (13, 0)))), some (.inl a_), some (.inl b_), none, some (.inl 0), none] (by exact ⟨rfl, rfl, rfl, rfl, trivial⟩) ?_
  refine (vl_399n a_ b_ P_ S0_ ha_ hc_ _) 0 (sm_aI (sm_aI S0_ 204 0 a_.toNat (S0_.2.2.1 204 0 b_.toNat)) 204 0 b_.toNat (S0_.2.2.1 204 0 a_.toNat)) hIx5_ hFx6_ ⟨?_, ?_, ?_, trivial⟩ (Nat.lt_succ_self _)
  · omega
  · (intro j9_ u0_; rw [if_neg (by omega), if_neg (by omega)]; (try simp only [rd_eq, rd_ne, rf_eq, rf_nk, rf_nt, rd_fa, rd_af, rd_fl, rd_al, rd_lf, rd_la, rd_leq, rd_lne, rd_fr, rd_ar, ne_eq, Nat.reduceEqDiff, not_false_eq_true]))
  · (intro j9_; (try simp only [rd_eq, rd_ne, rf_eq, rf_nk, rf_nt, rd_fa, rd_af, rd_fl, rd_al, rd_lf, rd_la, rd_leq, rd_lne, rd_fr, rd_ar, ne_eq, Nat.reduceEqDiff, not_false_eq_true]))
end
/-! 99.ztZG -/
section
/-! the reference: the cuts of a node; written by wip/p55/gen/vg -/

/-! the_ cuts of_ a_ node, the_ reference -/
theorem mrl_0 {S_ : sm_S} (h_ : S_.1 13 0 123 = 0) : mrl [] S_ ∧ ris [] := ⟨⟨h_, fun j_ x_ q_ => by
  have q_ : (none : Option Nat) = some x_ := q_
  cases q_⟩, trivial⟩
theorem crl_0 {S_ : sm_S} (h_ : S_.1 13 0 114 = 0) : crl [] S_ := ⟨h_, fun i_ c_ q_ => by
  have q_ : (none : Option (List Nat)) = some c_ := q_
  cases q_⟩
theorem crl_fr {w_ : sx_Wl} {L_ : List (List Nat)} {S_ S'_ : sm_S} (h_ : crl L_ S_) (g_ : ai_fr (sx_W w_) S_ S'_) (a_ : (sx_W w_).1 13 114 = false := by rfl) (b_ : (sx_W w_).2.1 204 = false := by rfl) (d_ : (sx_W w_).2.1 205 = false := by rfl) : crl L_ S'_ := by
  unfold crl
  rw [g_.1 13 0 114 a_, fr_arr (t := 204) g_ b_, fr_arr (t := 205) g_ d_]
  exact h_
theorem crl_g {L_ : List (List Nat)} {S_ : sm_S} {i_ : Nat} (h_ : crl L_ S_) (hi_ : (i_ : Int) < S_.1 13 0 114) : ∃ c_, L_[i_]? = some c_ ∧ ((2 ≤ c_.length ∧ c_.length ≤ 3) ∧ ris c_) ∧ S_.2.2.1 204 0 i_ = (c_.length : Int) ∧ ∀ k_ x_ : Nat, c_[k_]? = some x_ → S_.2.2.1 205 0 (3 * i_ + k_) = (x_ : Int) := by
  have e_ := h_.1
  obtain ⟨c_, hc_⟩ : ∃ c_, L_[i_]? = some c_ := ⟨_, List.getElem?_eq_getElem (by omega)⟩
  exact ⟨c_, hc_, h_.2 i_ c_ hc_⟩
theorem mem_2 {l_ : List Nat} {a_ b_ : Nat} (h_ : a_ ∈ l_) (g_ : b_ ∈ l_) (n_ : a_ ≠ b_) : 2 ≤ l_.length := by
  rcases l_ with _ | ⟨x_, _ | ⟨y_, l_⟩⟩
  · exact absurd h_ List.not_mem_nil
  · exact absurd ((List.mem_singleton.mp h_).trans (List.mem_singleton.mp g_).symm) n_
  · show 2 ≤ l_.length + 1 + 1
    omega
theorem ins_t {a_ b_ : Nat} {l_ : List Nat} (n_ : a_ ≠ b_) : 2 ≤ (ins b_ (ins a_ l_)).length := mem_2 (ins_m.mpr (Or.inr (ins_m.mpr (Or.inl rfl)))) (ins_m.mpr (Or.inl rfl)) n_
/-- the_ others of_ a_ cut_, taken up_ one_ by one_ -/
def tri (c_ : List Nat) (k_ : Nat) : Nat → List Nat
  | 0 => []
  | i_ + 1 =>
    match c_[i_]? with
    | none => tri c_ k_ i_
    | some y_ => if i_ = k_ then tri c_ k_ i_ else ins y_ (tri c_ k_ i_)
theorem tri_s {c_ : List Nat} {k_ i_ y_ : Nat} (h_ : i_ ≠ k_) (g_ : c_[i_]? = some y_) : tri c_ k_ (i_ + 1) = ins y_ (tri c_ k_ i_) := by
  show (match c_[i_]? with | none => tri c_ k_ i_ | some y_ => if i_ = k_ then tri c_ k_ i_ else ins y_ (tri c_ k_ i_)) = _
  rw [g_]
  show (if i_ = k_ then tri c_ k_ i_ else ins y_ (tri c_ k_ i_)) = _
  rw [if_neg h_]
theorem tri_k {c_ : List Nat} {k_ i_ : Nat} (h_ : i_ = k_) : tri c_ k_ (i_ + 1) = tri c_ k_ i_ := by
  show (match c_[i_]? with | none => tri c_ k_ i_ | some y_ => if i_ = k_ then tri c_ k_ i_ else ins y_ (tri c_ k_ i_)) = _
  split
  · rfl
  · rw [if_pos h_]
theorem tri_r {c_ : List Nat} {k_ : Nat} : ∀ {i_ : Nat}, ris (tri c_ k_ i_)
  | 0 => trivial
  | i_ + 1 => by
    show ris (match c_[i_]? with | none => tri c_ k_ i_ | some y_ => if i_ = k_ then tri c_ k_ i_ else ins y_ (tri c_ k_ i_))
    split
    · exact tri_r
    · split
      · exact tri_r
      · exact ins_r tri_r
theorem tri_m {c_ : List Nat} {k_ z_ : Nat} : ∀ {i_ : Nat}, z_ ∈ tri c_ k_ i_ ↔ ∃ j_, j_ < i_ ∧ j_ ≠ k_ ∧ c_[j_]? = some z_
  | 0 => ⟨fun h_ => absurd h_ List.not_mem_nil, fun ⟨j_, h_, _⟩ => absurd h_ (Nat.not_lt_zero _)⟩
  | i_ + 1 => by
    have ih_ := tri_m (c_ := c_) (k_ := k_) (z_ := z_) (i_ := i_)
    have up_ : (∃ j_, j_ < i_ ∧ j_ ≠ k_ ∧ c_[j_]? = some z_) → ∃ j_, j_ < i_ + 1 ∧ j_ ≠ k_ ∧ c_[j_]? = some z_ := fun ⟨j_, a_, b_⟩ => ⟨j_, Nat.lt_succ_of_lt a_, b_⟩
    by_cases e_ : i_ = k_
    · rw [tri_k e_, ih_]
      refine ⟨up_, fun ⟨j_, a_, b_, d_⟩ => ⟨j_, by omega, b_, d_⟩⟩
    · obtain ⟨o_, q_⟩ : ∃ o_, c_[i_]? = o_ := ⟨_, rfl⟩
      rcases o_ with _ | y_
      · have w_ : tri c_ k_ (i_ + 1) = tri c_ k_ i_ := by
          show (match c_[i_]? with | none => tri c_ k_ i_ | some y_ => if i_ = k_ then tri c_ k_ i_ else ins y_ (tri c_ k_ i_)) = _
          rw [q_]
        rw [w_, ih_]
        refine ⟨up_, fun ⟨j_, a_, b_, d_⟩ => ⟨j_, ?_, b_, d_⟩⟩
        have n_ : j_ ≠ i_ := fun u_ => by
          rw [u_, q_] at d_
          cases d_
        omega
      · rw [tri_s e_ q_, ins_m, ih_]
        constructor
        · rintro (h_ | h_)
          · exact ⟨i_, by omega, e_, by rw [q_, h_]⟩
          · exact up_ h_
        · rintro ⟨j_, a_, b_, d_⟩
          by_cases u_ : j_ = i_
          · rw [u_, q_] at d_
            cases d_
            exact Or.inl rfl
          · exact Or.inr ⟨j_, by omega, b_, d_⟩
theorem tri_e {c_ : List Nat} {k_ i_ x_ a_ b_ : Nat} (hr_ : ris c_) (hx_ : c_[k_]? = some x_) (hi_ : c_.length ≤ i_) : ins b_ (ins a_ (tri c_ k_ i_)) = ins a_ (ins b_ (c_.filter (fun y_ => y_ != x_))) := by
  refine ris_u (ins_r (ins_r tri_r)) (ins_r (ins_r (ris_f hr_))) (fun z_ => ?_)
  have m_ : z_ ∈ tri c_ k_ i_ ↔ z_ ∈ c_.filter (fun y_ => y_ != x_) := by
    rw [tri_m, List.mem_filter, bne_iff_ne]
    constructor
    · rintro ⟨j_, _, n_, q_⟩
      refine ⟨List.mem_of_getElem? q_, fun e_ => ?_⟩
      rw [e_] at q_
      by_cases l_ : j_ < k_
      · have := ris_lt hr_ l_ q_ hx_
        omega
      · have := ris_lt hr_ (show k_ < j_ by omega) hx_ q_
        omega
    · rintro ⟨h_, n_⟩
      obtain ⟨j_, q_⟩ := List.getElem?_of_mem h_
      have l_ := (List.getElem?_eq_some_iff.mp q_).1
      refine ⟨j_, by omega, fun e_ => n_ ?_, q_⟩
      rw [e_, hx_] at q_
      exact (Option.some.inj q_).symm
  rw [ins_m, ins_m, ins_m, ins_m, m_]
  constructor
  · rintro (h_ | h_ | h_)
    · exact Or.inr (Or.inl h_)
    · exact Or.inl h_
    · exact Or.inr (Or.inr h_)
  · rintro (h_ | h_ | h_)
    · exact Or.inr (Or.inl h_)
    · exact Or.inl h_
    · exact Or.inr (Or.inr h_)
/-- each cut_ once -/
def dst (L_ : List (List Nat)) : Prop := ∀ i_ j_ : Nat, i_ < L_.length → j_ < L_.length → i_ ≠ j_ → L_.getD i_ [] ≠ L_.getD j_ []
theorem gd_l {L_ : List (List Nat)} {c_ : List Nat} {i_ : Nat} (h_ : i_ < L_.length) : (L_ ++ [c_]).getD i_ [] = L_.getD i_ [] := by
  rw [List.getD_eq_getElem?_getD, List.getD_eq_getElem?_getD, List.getElem?_append_left h_]
theorem gd_r {L_ : List (List Nat)} {c_ : List Nat} : (L_ ++ [c_]).getD L_.length [] = c_ := by
  rw [List.getD_eq_getElem?_getD, List.getElem?_append_right (Nat.le_refl _), Nat.sub_self]
  rfl
theorem gd_m {L_ : List (List Nat)} {i_ : Nat} (h_ : i_ < L_.length) : L_.getD i_ [] ∈ L_ := by
  rw [List.getD_eq_getElem?_getD, List.getElem?_eq_getElem h_]
  exact List.getElem_mem h_
theorem dst_a {L_ : List (List Nat)} {c_ : List Nat} (h_ : dst L_) (n_ : ¬ c_ ∈ L_) : dst (L_ ++ [c_]) := by
  intro i_ j_ hi_ hj_ d_ e_
  rw [List.length_append, List.length_singleton] at hi_ hj_
  by_cases a_ : i_ < L_.length
  · rw [gd_l a_] at e_
    by_cases b_ : j_ < L_.length
    · rw [gd_l b_] at e_
      exact h_ i_ j_ a_ b_ d_ e_
    · rw [show j_ = L_.length by omega, gd_r] at e_
      exact n_ (e_ ▸ gd_m a_)
  · rw [show i_ = L_.length by omega, gd_r] at e_
    rw [gd_l (by omega)] at e_
    exact n_ (e_ ▸ gd_m (by omega))
theorem crn_d {inn_ : Nat → Bool} {cl_ ch_ : Nat → Nat} {n_ : Nat} : ∀ m_, dst (crn inn_ cl_ ch_ n_ m_)
  | 0 => fun i_ j_ hi_ hj_ d_ => by
    have hi_ : i_ < 1 := hi_
    have hj_ : j_ < 1 := hj_
    omega
  | m_ + 1 => by
    have ih_ := crn_d (inn_ := inn_) (cl_ := cl_) (ch_ := ch_) (n_ := n_) m_
    show dst (ctst inn_ cl_ ch_ (crn inn_ cl_ ch_ n_ m_) (m_ / 3) (m_ % 3))
    unfold ctst
    split
    · exact ih_
    · split
      · exact ih_
      · split
        · rename_i u_
          exact dst_a ih_ u_.2.2
        · exact ih_
theorem prm_rf {n_ : Nat} {C_ : Nat → List Nat} (h_ : ∀ i_ j_, i_ < n_ → j_ < n_ → i_ ≠ j_ → C_ i_ ≠ C_ j_) : prm n_ C_ C_ := ⟨fun i_ hi_ => ⟨i_, hi_, rfl⟩, fun i_ hi_ => ⟨i_, hi_, rfl⟩, h_⟩
/-- the_ first i_ are_ in order -/
def sor (i_ : Nat) (C_ : Nat → List Nat) : Prop := ∀ p_ q_, p_ < q_ → q_ < i_ → lcv (cva (C_ p_)) (cva (C_ q_))
/-- one_ is_ on_ its_ way_ down -/
def sod (i_ j_ : Nat) (C_ : Nat → List Nat) : Prop := (∀ p_ q_, p_ < q_ → q_ ≤ i_ → p_ ≠ j_ → q_ ≠ j_ → lcv (cva (C_ p_)) (cva (C_ q_))) ∧ ∀ q_, j_ < q_ → q_ ≤ i_ → lcv (cva (C_ j_)) (cva (C_ q_))
theorem sod_0 {i_ : Nat} {C_ : Nat → List Nat} (h_ : sor i_ C_) : sod i_ i_ C_ := ⟨fun p_ q_ a_ b_ c_ d_ => h_ p_ q_ a_ (by omega), fun q_ a_ b_ => by omega⟩
theorem sod_s {i_ j_ : Nat} {C_ : Nat → List Nat} (h_ : sod i_ (j_ + 1) C_) (hj_ : j_ + 1 ≤ i_) (g_ : lcv (cva (C_ (j_ + 1))) (cva (C_ j_))) : sod i_ j_ (swf (j_ + 1) j_ C_) := by
  have e1_ : swf (j_ + 1) j_ C_ j_ = C_ (j_ + 1) := swf_b
  have e2_ : swf (j_ + 1) j_ C_ (j_ + 1) = C_ j_ := swf_a (by omega)
  refine ⟨fun p_ q_ a_ b_ c_ d_ => ?_, fun q_ a_ b_ => ?_⟩
  · by_cases u_ : p_ = j_ + 1
    · rw [u_, e2_, swf_o (by omega) d_]
      exact h_.1 j_ q_ (by omega) b_ (by omega) (by omega)
    · by_cases v_ : q_ = j_ + 1
      · rw [v_, e2_, swf_o u_ c_]
        exact h_.1 p_ j_ (by omega) (by omega) u_ (by omega)
      · rw [swf_o u_ c_, swf_o v_ d_]
        exact h_.1 p_ q_ a_ b_ u_ v_
  · rw [e1_]
    by_cases v_ : q_ = j_ + 1
    · rw [v_, e2_]
      exact g_
    · rw [swf_o v_ (by omega)]
      exact h_.2 q_ (by omega) b_
theorem sod_e {i_ j_ : Nat} {C_ : Nat → List Nat} (h_ : sod i_ j_ C_) (g_ : 0 < j_ → lcv (cva (C_ (j_ - 1))) (cva (C_ j_))) : sor (i_ + 1) C_ := by
  intro p_ q_ a_ b_
  by_cases u_ : p_ = j_
  · rw [u_]
    exact h_.2 q_ (by omega) (by omega)
  · by_cases v_ : q_ = j_
    · rw [v_]
      have w_ := g_ (by omega)
      by_cases x_ : p_ = j_ - 1
      · rw [x_]
        exact w_
      · exact lcv_t (h_.1 p_ (j_ - 1) (by omega) (by omega) u_ (by omega)) w_
    · exact h_.1 p_ q_ a_ (by omega) u_ v_

theorem cva_d {c_ e_ : List Nat} (hc_ : 2 ≤ c_.length ∧ c_.length ≤ 3) (he_ : 2 ≤ e_.length ∧ e_.length ≤ 3) (n_ : c_ ≠ e_) : ∃ k_, k_ < 3 ∧ cva c_ k_ ≠ cva e_ k_ := by
  by_cases h_ : cva c_ 0 = cva e_ 0
  · by_cases g_ : cva c_ 1 = cva e_ 1
    · by_cases f_ : cva c_ 2 = cva e_ 2
      · exfalso
        refine n_ (cva_e hc_ he_ (fun k_ hk_ => ?_))
        have d_ : k_ = 0 ∨ k_ = 1 ∨ k_ = 2 := by omega
        rcases d_ with rfl | rfl | rfl
        · exact h_
        · exact g_
        · exact f_
      · exact ⟨2, by omega, f_⟩
    · exact ⟨1, by omega, g_⟩
  · exact ⟨0, by omega, h_⟩

/-! M_.findCuts -/
def vw_400n : sx_Wl := ([(13, 114), (13, 123)], [204, 205, 212], [])
def vq_400n (n_ : Int) (F_ : Int) (N_ : Int) (S0_ : sm_S) (u_ : Option sm_V) (S1_ : sm_S) : Prop := u_ = none ∧ gi S1_ ∧ ai_fr (sx_W vw_400n) S0_ S1_ ∧ (ctp (cnd9 n_ (S0_.2.2.1 202 0)) S1_ ∧ ∃ (m_ : Nat) (C_ : Nat → List Nat), (crn (fun x_ => decide (F_ ≤ (x_ : Int) ∧ S0_.2.2.1 203 0 x_ = 0)) (fun x_ => (S0_.2.2.1 199 0 x_ / 2).toNat) (fun x_ => (S0_.2.2.1 200 0 x_ / 2).toNat) n_.toNat (m_)).length ≤ m_ / 3 ∧ crf (crn (fun x_ => decide (F_ ≤ (x_ : Int) ∧ S0_.2.2.1 203 0 x_ = 0)) (fun x_ => (S0_.2.2.1 199 0 x_ / 2).toNat) (fun x_ => (S0_.2.2.1 200 0 x_ / 2).toNat) n_.toNat (m_)).length C_ S1_ ∧ prm (crn (fun x_ => decide (F_ ≤ (x_ : Int) ∧ S0_.2.2.1 203 0 x_ = 0)) (fun x_ => (S0_.2.2.1 199 0 x_ / 2).toNat) (fun x_ => (S0_.2.2.1 200 0 x_ / 2).toNat) n_.toNat (m_)).length C_ (fun i_ => (crn (fun x_ => decide (F_ ≤ (x_ : Int) ∧ S0_.2.2.1 203 0 x_ = 0)) (fun x_ => (S0_.2.2.1 199 0 x_ / 2).toNat) (fun x_ => (S0_.2.2.1 200 0 x_ / 2).toNat) n_.toNat (m_)).getD i_ []) ∧ sor (crn (fun x_ => decide (F_ ≤ (x_ : Int) ∧ S0_.2.2.1 203 0 x_ = 0)) (fun x_ => (S0_.2.2.1 199 0 x_ / 2).toNat) (fun x_ => (S0_.2.2.1 200 0 x_ / 2).toNat) n_.toNat (m_)).length C_)
set_option maxHeartbeats 4000000 in
set_option maxRecDepth 20000 in
theorem vl_400n {sc_ : Nat × (Nat → Int)} (n_ : Int) (F_ : Int) (N_ : Int) (S0_ : sm_S) (hdf_ : ∀ x_ : Int, F_ ≤ x_ → x_ < N_ → S0_.2.2.1 202 0 x_.toNat = 1 → S0_.2.2.1 199 0 x_.toNat / 2 ≠ S0_.2.2.1 200 0 x_.toNat / 2) (hlm_ : ∀ m_ : Nat, (crn (fun x_ => decide (F_ ≤ (x_ : Int) ∧ S0_.2.2.1 203 0 x_ = 0)) (fun x_ => (S0_.2.2.1 199 0 x_ / 2).toNat) (fun x_ => (S0_.2.2.1 200 0 x_ / 2).toNat) n_.toNat (m_)).length ≤ 60) (hf_ : S0_.2.2.1 160 0 (S0_.1 13 0 105).toNat = F_) (hn_ : 1 ≤ F_ ∧ F_ ≤ n_ ∧ n_ < N_ ∧ N_ ≤ 1013) (hw_ : S0_.2.2.1 202 0 n_.toNat = 1) (hl_ : lgn F_ N_ S0_) : ∀ nn_ : Nat, (∀ (c_ : Int) (S_ : sm_S), gi S_ → ai_fr (sx_W vw_400n) S0_ S_ → ((0 ≤ c_ ∧ c_ ≤ 64) ∧ (ctp (cnd9 n_ (S0_.2.2.1 202 0)) S_) ∧ (crl (crn (fun x_ => decide (F_ ≤ (x_ : Int) ∧ S0_.2.2.1 203 0 x_ = 0)) (fun x_ => (S0_.2.2.1 199 0 x_ / 2).toNat) (fun x_ => (S0_.2.2.1 200 0 x_ / 2).toNat) n_.toNat (3 * c_.toNat)) S_) ∧ True) → ((1000 * (100 - c_) + 900).toNat) < nn_ → sm_T (mt_P sc_) 1 400 (40, [some (.inr (.inr (some (13, 0)))), some (.inl n_), some (.inl c_), none, none, none], [], S_) (fun ro9_ => ∃ u_ S1_, ro9_ = (.inl u_, S1_, 0) ∧ vq_400n n_ F_ N_ S0_ u_ S1_)) ∧ (∀ (c_ : Int) (k_ : Int) (S_ : sm_S), gi S_ → ai_fr (sx_W vw_400n) S0_ S_ → ((0 ≤ c_ ∧ c_ < S_.1 13 0 114 ∧ 0 ≤ k_ ∧ k_ ≤ 3) ∧ (ctp (cnd9 n_ (S0_.2.2.1 202 0)) S_) ∧ (crl (crn (fun x_ => decide (F_ ≤ (x_ : Int) ∧ S0_.2.2.1 203 0 x_ = 0)) (fun x_ => (S0_.2.2.1 199 0 x_ / 2).toNat) (fun x_ => (S0_.2.2.1 200 0 x_ / 2).toNat) n_.toNat (3 * c_.toNat + k_.toNat)) S_) ∧ True) → ((1000 * (100 - c_) + 800 - 10 * k_).toNat) < nn_ → sm_T (mt_P sc_) 1 400 (50, [some (.inr (.inr (some (13, 0)))), some (.inl n_), some (.inl c_), some (.inl k_), none, none], [], S_) (fun ro9_ => ∃ u_ S1_, ro9_ = (.inl u_, S1_, 0) ∧ vq_400n n_ F_ N_ S0_ u_ S1_)) ∧ (∀ (c_ : Int) (k_ : Int) (x_ : Int) (i_ : Int) (S_ : sm_S), gi S_ → ai_fr (sx_W vw_400n) S0_ S_ → ((0 ≤ c_ ∧ c_ < S_.1 13 0 114 ∧ 0 ≤ k_ ∧ k_ ≤ 2 ∧ 0 ≤ i_ ∧ i_ ≤ 3 ∧ S_.1 13 0 123 ≤ i_ ∧ F_ ≤ x_ ∧ x_ ≤ 1012) ∧ (ctp (cnd9 n_ (S0_.2.2.1 202 0)) S_) ∧ (trp (cnd9 n_ (S0_.2.2.1 202 0)) S_) ∧ (cnd9 n_ (S0_.2.2.1 202 0) x_) ∧ (crl (crn (fun x_ => decide (F_ ≤ (x_ : Int) ∧ S0_.2.2.1 203 0 x_ = 0)) (fun x_ => (S0_.2.2.1 199 0 x_ / 2).toNat) (fun x_ => (S0_.2.2.1 200 0 x_ / 2).toNat) n_.toNat (3 * c_.toNat + k_.toNat)) S_) ∧ (F_ ≤ x_ ∧ S0_.2.2.1 203 0 x_.toNat = 0) ∧ (∃ c9_ : List Nat, (crn (fun x_ => decide (F_ ≤ (x_ : Int) ∧ S0_.2.2.1 203 0 x_ = 0)) (fun x_ => (S0_.2.2.1 199 0 x_ / 2).toNat) (fun x_ => (S0_.2.2.1 200 0 x_ / 2).toNat) n_.toNat (3 * c_.toNat + k_.toNat))[c_.toNat]? = some c9_ ∧ (c9_[k_.toNat]? = some x_.toNat ∧ i_.toNat ≤ c9_.length) ∧ mrl (tri c9_ k_.toNat i_.toNat) S_) ∧ True) → ((1000 * (100 - c_) + 800 - 10 * k_ - 2 - i_).toNat) < nn_ → sm_T (mt_P sc_) 1 400 (89, [some (.inr (.inr (some (13, 0)))), some (.inl n_), some (.inl c_), some (.inl k_), some (.inl x_), some (.inl i_)], [], S_) (fun ro9_ => ∃ u_ S1_, ro9_ = (.inl u_, S1_, 0) ∧ vq_400n n_ F_ N_ S0_ u_ S1_)) ∧ (∀ (i_ : Int) (S_ : sm_S), gi S_ → ai_fr (sx_W vw_400n) S0_ S_ → ((1 ≤ i_ ∧ i_ ≤ 65) ∧ (ctp (cnd9 n_ (S0_.2.2.1 202 0)) S_) ∧ (∃ (m_ : Nat) (C_ : Nat → List Nat), (crn (fun x_ => decide (F_ ≤ (x_ : Int) ∧ S0_.2.2.1 203 0 x_ = 0)) (fun x_ => (S0_.2.2.1 199 0 x_ / 2).toNat) (fun x_ => (S0_.2.2.1 200 0 x_ / 2).toNat) n_.toNat (m_)).length ≤ m_ / 3 ∧ crf (crn (fun x_ => decide (F_ ≤ (x_ : Int) ∧ S0_.2.2.1 203 0 x_ = 0)) (fun x_ => (S0_.2.2.1 199 0 x_ / 2).toNat) (fun x_ => (S0_.2.2.1 200 0 x_ / 2).toNat) n_.toNat (m_)).length C_ S_ ∧ prm (crn (fun x_ => decide (F_ ≤ (x_ : Int) ∧ S0_.2.2.1 203 0 x_ = 0)) (fun x_ => (S0_.2.2.1 199 0 x_ / 2).toNat) (fun x_ => (S0_.2.2.1 200 0 x_ / 2).toNat) n_.toNat (m_)).length C_ (fun i_ => (crn (fun x_ => decide (F_ ≤ (x_ : Int) ∧ S0_.2.2.1 203 0 x_ = 0)) (fun x_ => (S0_.2.2.1 199 0 x_ / 2).toNat) (fun x_ => (S0_.2.2.1 200 0 x_ / 2).toNat) n_.toNat (m_)).getD i_ []) ∧ sor i_.toNat C_) ∧ True) → ((100 * (100 - i_) + 90).toNat) < nn_ → sm_T (mt_P sc_) 1 400 (171, [some (.inr (.inr (some (13, 0)))), some (.inl n_), some (.inl i_), none, none, none], [], S_) (fun ro9_ => ∃ u_ S1_, ro9_ = (.inl u_, S1_, 0) ∧ vq_400n n_ F_ N_ S0_ u_ S1_)) ∧ (∀ (i_ : Int) (j_ : Int) (S_ : sm_S), gi S_ → ai_fr (sx_W vw_400n) S0_ S_ → ((1 ≤ i_ ∧ i_ < S_.1 13 0 114 ∧ 0 ≤ j_ ∧ j_ ≤ i_) ∧ (ctp (cnd9 n_ (S0_.2.2.1 202 0)) S_) ∧ (∃ (m_ : Nat) (C_ : Nat → List Nat), (crn (fun x_ => decide (F_ ≤ (x_ : Int) ∧ S0_.2.2.1 203 0 x_ = 0)) (fun x_ => (S0_.2.2.1 199 0 x_ / 2).toNat) (fun x_ => (S0_.2.2.1 200 0 x_ / 2).toNat) n_.toNat (m_)).length ≤ m_ / 3 ∧ crf (crn (fun x_ => decide (F_ ≤ (x_ : Int) ∧ S0_.2.2.1 203 0 x_ = 0)) (fun x_ => (S0_.2.2.1 199 0 x_ / 2).toNat) (fun x_ => (S0_.2.2.1 200 0 x_ / 2).toNat) n_.toNat (m_)).length C_ S_ ∧ prm (crn (fun x_ => decide (F_ ≤ (x_ : Int) ∧ S0_.2.2.1 203 0 x_ = 0)) (fun x_ => (S0_.2.2.1 199 0 x_ / 2).toNat) (fun x_ => (S0_.2.2.1 200 0 x_ / 2).toNat) n_.toNat (m_)).length C_ (fun i_ => (crn (fun x_ => decide (F_ ≤ (x_ : Int) ∧ S0_.2.2.1 203 0 x_ = 0)) (fun x_ => (S0_.2.2.1 199 0 x_ / 2).toNat) (fun x_ => (S0_.2.2.1 200 0 x_ / 2).toNat) n_.toNat (m_)).getD i_ []) ∧ sod i_.toNat j_.toNat C_) ∧ True) → ((100 * (100 - i_) + j_).toNat) < nn_ → sm_T (mt_P sc_) 1 400 (181, [some (.inr (.inr (some (13, 0)))), some (.inl n_), some (.inl i_), some (.inl j_), none, none], [], S_) (fun ro9_ => ∃ u_ S1_, ro9_ = (.inl u_, S1_, 0) ∧ vq_400n n_ F_ N_ S0_ u_ S1_)) := by
  intro nn_
  induction nn_ with
  | zero => exact ⟨fun _ _ _ _ _ h_ => absurd h_ (Nat.not_lt_zero _), fun _ _ _ _ _ _ h_ => absurd h_ (Nat.not_lt_zero _), fun _ _ _ _ _ _ _ _ h_ => absurd h_ (Nat.not_lt_zero _), fun _ _ _ _ _ h_ => absurd h_ (Nat.not_lt_zero _), fun _ _ _ _ _ _ h_ => absurd h_ (Nat.not_lt_zero _)⟩
  | succ nn_ ih_ =>
    refine ⟨?_, ?_, ?_, ?_, ?_⟩
    · rintro c_ S_ hI_ hF_ ⟨h0_, hc_, hcb_, -⟩ hm_
      have f203_ : S_.2.2.1 203 0 = S0_.2.2.1 203 0 := fr_arr hF_ rfl
      have f202_ : S_.2.2.1 202 0 = S0_.2.2.1 202 0 := fr_arr hF_ rfl
      have f199_ : S_.2.2.1 199 0 = S0_.2.2.1 199 0 := fr_arr hF_ rfl
      have f200_ : S_.2.2.1 200 0 = S0_.2.2.1 200 0 := fr_arr hF_ rfl
      have f160_ : S_.2.2.1 160 0 (S_.1 13 0 105).toNat = F_ := by (rw [hF_.1 13 0 105 rfl, fr_arr (t := 160) (i := 0) hF_ rfl]; exact hf_)
      have c14_ : 0 ≤ S_.1 13 0 114 ∧ S_.1 13 0 114 ≤ 64 := hI_.1 13 0 114 rfl
      have c23_ : 0 ≤ S_.1 13 0 123 ∧ S_.1 13 0 123 ≤ 8 := hI_.1 13 0 123 rfl
      have bx1_ : 0 ≤ S_.1 13 0 114 ∧ S_.1 13 0 114 ≤ 64 := hI_.1 13 0 114 rfl
      refine sm_T_go 3 (c1 := (45, [some (.inr (.inr (some (13, 0)))), some (.inl n_), some (.inl c_), none, none, none], [.inl (S_.1 13 0 114), .inl c_], S_)) rfl ?_
      refine sm_T_br (a := 3) (z := 124) rfl (fun cx2_ => ?_) (fun cx2_ => ?_)
      · have cx2_ : (S_.1 13 0 114) ≤ c_ := of_decide_eq_true cx2_
        refine sm_T_go 2 (c1 := (171, [some (.inr (.inr (some (13, 0)))), some (.inl n_), some (.inl 1), none, none, none], [], S_)) rfl ?_
        refine ih_.2.2.2.1 1 S_ hI_ hF_ ⟨?_, ?_, ?_, trivial⟩ ?_
        · omega
        · exact hc_
        · have cn9_ := hcb_.1
          refine ⟨3 * c_.toNat, _, by omega, crf_l hcb_, prm_rf (crn_d _), fun p_ q_ a_ b_ => ?_⟩
          exfalso
          have b_ : q_ < 1 := b_
          omega
        · omega
      · have cx2_ : ¬ ((S_.1 13 0 114) ≤ c_) := of_decide_eq_false cx2_
        refine sm_T_go 2 (c1 := (50, [some (.inr (.inr (some (13, 0)))), some (.inl n_), some (.inl c_), some (.inl 0), none, none], [], S_)) rfl ?_
        refine ih_.2.1 c_ 0 S_ hI_ hF_ ⟨?_, ?_, ?_, trivial⟩ ?_
        · omega
        · exact hc_
        · (rw [show 3 * c_.toNat + (0 : Int).toNat = 3 * c_.toNat by omega]; exact hcb_)
        · omega
    · rintro c_ k_ S_ hI_ hF_ ⟨h0_, hc_, hcb_, -⟩ hm_
      have f203_ : S_.2.2.1 203 0 = S0_.2.2.1 203 0 := fr_arr hF_ rfl
      have f202_ : S_.2.2.1 202 0 = S0_.2.2.1 202 0 := fr_arr hF_ rfl
      have f199_ : S_.2.2.1 199 0 = S0_.2.2.1 199 0 := fr_arr hF_ rfl
      have f200_ : S_.2.2.1 200 0 = S0_.2.2.1 200 0 := fr_arr hF_ rfl
      have f160_ : S_.2.2.1 160 0 (S_.1 13 0 105).toNat = F_ := by (rw [hF_.1 13 0 105 rfl, fr_arr (t := 160) (i := 0) hF_ rfl]; exact hf_)
      have c14_ : 0 ≤ S_.1 13 0 114 ∧ S_.1 13 0 114 ≤ 64 := hI_.1 13 0 114 rfl
      have c23_ : 0 ≤ S_.1 13 0 123 ∧ S_.1 13 0 123 ≤ 8 := hI_.1 13 0 123 rfl
      refine sm_T_go 4 (c1 := (56, [some (.inr (.inr (some (13, 0)))), some (.inl n_), some (.inl c_), some (.inl k_), none, none], [.inl c_, .inr (.inr (some (204, 0))), .inl k_], S_)) rfl ?_
      refine sm_T_iald (n := 64) rfl rfl (by omega) (by omega) ?_
      have bx1_ : 0 ≤ S_.2.2.1 204 0 c_.toNat ∧ S_.2.2.1 204 0 c_.toNat ≤ 3 := hI_.2 204 0 _
      refine sm_T_br (a := 3) (z := 106) rfl (fun cx2_ => ?_) (fun cx2_ => ?_)
      · have cx2_ : (S_.2.2.1 204 0 c_.toNat) ≤ k_ := of_decide_eq_true cx2_
        refine sm_T_inc (a := 2) (z := 1) (v := c_) (w := c_ + 1) rfl rfl (by omega) (by omega) (by omega) ?_ -- pc_ 163
        refine sm_T_go 1 (c1 := (40, [some (.inr (.inr (some (13, 0)))), some (.inl n_), some (.inl (c_ + 1)), some (.inl k_), none, none], [], S_)) rfl ?_
        refine sm_T_wk [some (.inr (.inr (some (13, 0)))), some (.inl n_), some (.inl (c_ + 1)), none, none, none] (by exact ⟨rfl, rfl, rfl, trivial⟩) ?_
        refine ih_.1 (c_ + 1) S_ hI_ hF_ ⟨?_, ?_, ?_, trivial⟩ ?_
        · omega
        · exact hc_
        · by_cases z9_ : k_ = 3
          · rw [show 3 * (c_ + 1).toNat = 3 * c_.toNat + k_.toNat by omega]; exact hcb_
          · obtain ⟨c9_, hc9_, hl9_, hz9_, hv9_⟩ := crl_g (i_ := c_.toNat) hcb_ (by omega)
            rw [show 3 * (c_ + 1).toNat = 3 * c_.toNat + (k_.toNat + 1) by omega, crn_o (by omega) hc9_ (Or.inl (List.getElem?_eq_none (by omega)))]
            exact hcb_
        · omega
      · have cx2_ : ¬ ((S_.2.2.1 204 0 c_.toNat) ≤ k_) := of_decide_eq_false cx2_
        obtain ⟨c9_, hc9_, hl9_, hz9_, hv9_⟩ := crl_g (i_ := c_.toNat) hcb_ (by omega)
        obtain ⟨x9_, hx9_⟩ : ∃ x9_, c9_[k_.toNat]? = some x9_ := ⟨_, List.getElem?_eq_getElem (by omega)⟩
        have ve9_ := hv9_ _ _ hx9_
        rw [show 3 * c_.toNat + k_.toNat = (3 * c_ + k_).toNat by omega] at ve9_
        have b4_ : 0 ≤ S_.2.2.1 204 0 c_.toNat ∧ S_.2.2.1 204 0 c_.toNat ≤ 3 := hI_.2 204 0 _
        have w9_ := (hc_ c_ (by omega) (by omega)).2 k_ (by omega) (by omega)
        have w1_ := w9_.1
        have w2_ := w9_.2.1
        refine sm_T_go 4 (c1 := (66, [some (.inr (.inr (some (13, 0)))), some (.inl n_), some (.inl c_), some (.inl k_), none, none], [.inl c_, .inl 3, .inr (.inr (some (205, 0)))], S_)) rfl ?_
        refine sm_T_bin (w := 3 * c_) rfl (bi_mul (by omega) (by omega) (by omega)) ?_ -- pc_ 66
        refine sm_T_go 1 (c1 := (68, [some (.inr (.inr (some (13, 0)))), some (.inl n_), some (.inl c_), some (.inl k_), none, none], [.inl k_, .inl (3 * c_), .inr (.inr (some (205, 0)))], S_)) rfl ?_
        refine sm_T_bin (w := 3 * c_ + k_) rfl (bi_add (by omega) (by omega) (by omega)) ?_ -- pc_ 68
        refine sm_T_iald (n := 192) rfl rfl (by omega) (by omega) ?_
        have bx3_ : 0 ≤ S_.2.2.1 205 0 (3 * c_ + k_).toNat ∧ S_.2.2.1 205 0 (3 * c_ + k_).toNat ≤ 1012 := hI_.2 205 0 _
        refine sm_T_go 3 (c1 := (75, [some (.inr (.inr (some (13, 0)))), some (.inl n_), some (.inl c_), some (.inl k_), some (.inl (S_.2.2.1 205 0 (3 * c_ + k_).toNat)), none], [.inl (S_.2.2.1 205 0 (3 * c_ + k_).toNat), .inr (.inr (some (13, 0)))], S_)) rfl ?_
        refine sm_T_cal (d1 := 0) (Q1 := vq_395 (S_.2.2.1 205 0 (3 * c_ + k_).toNat) F_ S_) rfl rfl (by decide) (vc_395 (S_.2.2.1 205 0 (3 * c_ + k_).toNat) F_ S_ hI_ (by exact f160_) (by omega)) (fun u_ Sx4_ px7_ => ?_)
        obtain ⟨rfl, vx9_, rfl, px7_⟩ := px7_
        have e75_ := px7_
        rw [ve9_, Int.toNat_natCast, f203_] at e75_
        refine sm_T_b0 (a := 0) (z := 79) rfl (fun cx10_ => ?_) (fun cx10_ => ?_)
        · have cx10_ : vx9_ = 0 := of_decide_eq_true cx10_
          refine sm_T_inc (a := 3) (z := 1) (v := k_) (w := k_ + 1) rfl rfl (by omega) (by omega) (by omega) ?_ -- pc_ 157
          refine sm_T_go 1 (c1 := (50, [some (.inr (.inr (some (13, 0)))), some (.inl n_), some (.inl c_), some (.inl (k_ + 1)), some (.inl (S_.2.2.1 205 0 (3 * c_ + k_).toNat)), none], [], S_)) rfl ?_
          refine sm_T_wk [some (.inr (.inr (some (13, 0)))), some (.inl n_), some (.inl c_), some (.inl (k_ + 1)), none, none] (by exact ⟨rfl, rfl, rfl, rfl, trivial⟩) ?_
          refine ih_.2.1 c_ (k_ + 1) S_ hI_ hF_ ⟨?_, ?_, ?_, trivial⟩ ?_
          · omega
          · exact hc_
          · rw [show (k_ + 1).toNat = k_.toNat + 1 by omega, crn_o (by omega) hc9_ (Or.inr ⟨x9_, hx9_, decide_eq_false (fun z_ => by omega)⟩)]
            exact hcb_
          · omega
        · have cx10_ : ¬ (vx9_ = 0) := of_decide_eq_false cx10_
          have hIx11_ : gi (sm_pI S_ 13 0 123 0) := gi_pI hI_ (show 0 ≤ 0 ∧ 0 ≤ 8 from ⟨by omega, by omega⟩)
          have hFx12_ : ai_fr (sx_W vw_400n) S0_ (sm_pI S_ 13 0 123 0) := ai_fr_tr hF_ (ai_fr_pI rfl)
          refine sm_T_go 5 (c1 := (89, [some (.inr (.inr (some (13, 0)))), some (.inl n_), some (.inl c_), some (.inl k_), some (.inl (S_.2.2.1 205 0 (3 * c_ + k_).toNat)), some (.inl 0)], [], sm_pI S_ 13 0 123 0)) rfl ?_
          refine ih_.2.2.1 c_ k_ (S_.2.2.1 205 0 (3 * c_ + k_).toNat) 0 (sm_pI S_ 13 0 123 0) hIx11_ hFx12_ ⟨?_, ?_, ?_, ?_, ?_, ?_, ?_, trivial⟩ ?_
          · ((try simp only [rd_eq, rd_ne, rf_eq, rf_nk, rf_nt, rd_fa, rd_af, rd_fl, rd_al, rd_lf, rd_la, rd_leq, rd_lne, rd_fr, rd_ar, ne_eq, Nat.reduceEqDiff, not_false_eq_true]); omega)
          · exact ctp_fr (w_ := ([(13, 123)], [], [])) hc_ (ai_fr_pI rfl)
          · (intro k9_ u0_ u1_; rw [rf_eq] at u1_; exfalso; omega)
          · exact w9_
          · exact crl_fr (w_ := ([(13, 123)], [], [])) hcb_ (ai_fr_pI rfl)
          · (rw [ve9_, Int.toNat_natCast]; omega)
          · exact ⟨c9_, hc9_, ⟨by (rw [ve9_, Int.toNat_natCast]; exact hx9_), Nat.zero_le _⟩, (mrl_0 rf_eq).1⟩
          · omega
    · rintro c_ k_ x_ i_ S_ hI_ hF_ ⟨h0_, hc_, ht_, hx_, hcb_, hin_, hmr_, -⟩ hm_
      have f203_ : S_.2.2.1 203 0 = S0_.2.2.1 203 0 := fr_arr hF_ rfl
      have f202_ : S_.2.2.1 202 0 = S0_.2.2.1 202 0 := fr_arr hF_ rfl
      have f199_ : S_.2.2.1 199 0 = S0_.2.2.1 199 0 := fr_arr hF_ rfl
      have f200_ : S_.2.2.1 200 0 = S0_.2.2.1 200 0 := fr_arr hF_ rfl
      have f160_ : S_.2.2.1 160 0 (S_.1 13 0 105).toNat = F_ := by (rw [hF_.1 13 0 105 rfl, fr_arr (t := 160) (i := 0) hF_ rfl]; exact hf_)
      have c14_ : 0 ≤ S_.1 13 0 114 ∧ S_.1 13 0 114 ≤ 64 := hI_.1 13 0 114 rfl
      have c23_ : 0 ≤ S_.1 13 0 123 ∧ S_.1 13 0 123 ≤ 8 := hI_.1 13 0 123 rfl
      obtain ⟨c9_, hc9_, hk9_, hmq_⟩ := hmr_
      have cg9_ := hcb_.2 _ _ hc9_
      have dx9_ := hdf_ x_ (by omega) (by have q9_ := hx_.2.1; omega) hx_.2.2
      have X9_ := hl_ x_ (by omega) (by have q9_ := hx_.2.1; omega) hx_.2.2
      have dn9_ : (S0_.2.2.1 199 0 x_.toNat / 2).toNat ≠ (S0_.2.2.1 200 0 x_.toNat / 2).toNat := by (have q1_ := X9_.1; have q2_ := X9_.2; omega)
      have x1_ := X9_.1
      have x2_ := X9_.2
      have x3_ := hx_.1
      have x4_ := hx_.2.1
      rw [← f199_, ← f202_] at x1_
      rw [← f200_, ← f202_] at x2_
      refine sm_T_go 4 (c1 := (96, [some (.inr (.inr (some (13, 0)))), some (.inl n_), some (.inl c_), some (.inl k_), some (.inl x_), some (.inl i_)], [.inl c_, .inr (.inr (some (204, 0))), .inl i_], S_)) rfl ?_
      refine sm_T_iald (n := 64) rfl rfl (by omega) (by omega) ?_
      have bx1_ : 0 ≤ S_.2.2.1 204 0 c_.toNat ∧ S_.2.2.1 204 0 c_.toNat ≤ 3 := hI_.2 204 0 _
      refine sm_T_br (a := 3) (z := 30) rfl (fun cx2_ => ?_) (fun cx2_ => ?_)
      · have cx2_ : (S_.2.2.1 204 0 c_.toNat) ≤ i_ := of_decide_eq_true cx2_
        have b4_ : 0 ≤ S_.2.2.1 204 0 c_.toNat ∧ S_.2.2.1 204 0 c_.toNat ≤ 3 := hI_.2 204 0 _
        refine sm_T_go 4 (c1 := (134, [some (.inr (.inr (some (13, 0)))), some (.inl n_), some (.inl c_), some (.inl k_), some (.inl x_), some (.inl i_)], [.inl x_, .inr (.inr (some (199, 0))), .inr (.inr (some (13, 0)))], S_)) rfl ?_
        refine sm_T_iald (n := 2048) rfl rfl (by omega) (by omega) ?_
        have bx3_ : 0 ≤ S_.2.2.1 199 0 x_.toNat ∧ S_.2.2.1 199 0 x_.toNat ≤ 2025 := hI_.2 199 0 _
        refine sm_T_go 1 (c1 := (136, [some (.inr (.inr (some (13, 0)))), some (.inl n_), some (.inl c_), some (.inl k_), some (.inl x_), some (.inl i_)], [.inl 1, .inl (S_.2.2.1 199 0 x_.toNat), .inr (.inr (some (13, 0)))], S_)) rfl ?_
        refine sm_T_bin (w := ((S_.2.2.1 199 0 x_.toNat) / 2)) rfl (bi_shr (k := 1) (by decide) (by omega) (by omega)) ?_ -- pc_ 136
        refine sm_T_cal (d1 := 0) (Q1 := vq_396n ((S_.2.2.1 199 0 x_.toNat) / 2) (cnd9 n_ (S0_.2.2.1 202 0)) (tri c9_ k_.toNat i_.toNat) S_) rfl rfl (by decide) (vc_396n ((S_.2.2.1 199 0 x_.toNat) / 2) (cnd9 n_ (S0_.2.2.1 202 0)) (tri c9_ k_.toNat i_.toNat) S_ hI_ (by exact ⟨hmq_, tri_r⟩) (by omega) (by omega) (by exact ⟨by omega, by omega, by (rw [← f202_]; exact x1_.2.2)⟩) (by exact ht_)) (fun u_ Sx4_ px7_ => ?_)
        obtain ⟨rfl, hIx5_, hFx6_, px7_⟩ := px7_
        have hFx8_ : ai_fr (sx_W vw_400n) S0_ Sx4_ := ai_fr_tr hF_ (fr_le hFx6_ rfl)
        have p137_ := px7_
        have b137_ : mrl (ins (S0_.2.2.1 199 0 x_.toNat / 2).toNat (tri c9_ k_.toNat i_.toNat)) Sx4_ := by (have z9_ := (px7_).2.2.2; rw [f199_] at z9_; exact z9_)
        have r137_ := crl_fr hcb_ hFx6_
        have q137_ := ctp_fr (P_ := (cnd9 n_ (S0_.2.2.1 202 0))) hc_ hFx6_
        have v137_ := hFx6_.1 13 0 114 rfl
        have y137_ : Sx4_.2.2.1 200 0 = S_.2.2.1 200 0 := fr_arr hFx6_ rfl
        refine sm_T_go 4 (c1 := (147, [some (.inr (.inr (some (13, 0)))), some (.inl n_), some (.inl c_), some (.inl k_), some (.inl x_), some (.inl i_)], [.inl x_, .inr (.inr (some (200, 0))), .inr (.inr (some (13, 0)))], Sx4_)) rfl ?_
        refine sm_T_iald (n := 2048) rfl rfl (by omega) (by omega) ?_
        have bx9_ : 0 ≤ Sx4_.2.2.1 200 0 x_.toNat ∧ Sx4_.2.2.1 200 0 x_.toNat ≤ 2025 := hIx5_.2 200 0 _
        refine sm_T_go 1 (c1 := (149, [some (.inr (.inr (some (13, 0)))), some (.inl n_), some (.inl c_), some (.inl k_), some (.inl x_), some (.inl i_)], [.inl 1, .inl (Sx4_.2.2.1 200 0 x_.toNat), .inr (.inr (some (13, 0)))], Sx4_)) rfl ?_
        refine sm_T_bin (w := ((Sx4_.2.2.1 200 0 x_.toNat) / 2)) rfl (bi_shr (k := 1) (by decide) (by omega) (by omega)) ?_ -- pc_ 149
        refine sm_T_cal (d1 := 0) (Q1 := vq_396n ((Sx4_.2.2.1 200 0 x_.toNat) / 2) (cnd9 n_ (S0_.2.2.1 202 0)) (ins (S0_.2.2.1 199 0 x_.toNat / 2).toNat (tri c9_ k_.toNat i_.toNat)) Sx4_) rfl rfl (by decide) (vc_396n ((Sx4_.2.2.1 200 0 x_.toNat) / 2) (cnd9 n_ (S0_.2.2.1 202 0)) (ins (S0_.2.2.1 199 0 x_.toNat / 2).toNat (tri c9_ k_.toNat i_.toNat)) Sx4_ hIx5_ (by exact ⟨b137_, ins_r tri_r⟩) (by (rw [y137_]; omega)) (by omega) (by (rw [y137_]; exact ⟨by omega, by omega, by (rw [← f202_]; exact x2_.2.2)⟩)) (by exact p137_.2.2.1)) (fun u_ Sx10_ px13_ => ?_)
        obtain ⟨rfl, hIx11_, hFx12_, px13_⟩ := px13_
        have hFx14_ : ai_fr (sx_W vw_400n) S0_ Sx10_ := ai_fr_tr hFx8_ (fr_le hFx12_ rfl)
        have p150_ := px13_
        have b150_ : mrl (ins (S0_.2.2.1 200 0 x_.toNat / 2).toNat (ins (S0_.2.2.1 199 0 x_.toNat / 2).toNat (tri c9_ k_.toNat i_.toNat))) Sx10_ := by (have z9_ := (px13_).2.2.2; rw [y137_, f200_] at z9_; exact z9_)
        have r150_ := crl_fr r137_ hFx12_
        have q150_ := ctp_fr (P_ := (cnd9 n_ (S0_.2.2.1 202 0))) q137_ hFx12_
        have v150_ := (hFx12_.1 13 0 114 rfl).trans v137_
        refine sm_T_go 1 (c1 := (154, [some (.inr (.inr (some (13, 0)))), some (.inl n_), some (.inl c_), some (.inl k_), some (.inl x_), some (.inl i_)], [.inr (.inr (some (13, 0)))], Sx10_)) rfl ?_
        refine sm_T_cal (d1 := 0) (Q1 := vq_397n (cnd9 n_ (S0_.2.2.1 202 0)) (ins (S0_.2.2.1 200 0 x_.toNat / 2).toNat (ins (S0_.2.2.1 199 0 x_.toNat / 2).toNat (tri c9_ k_.toNat i_.toNat))) (crn (fun x_ => decide (F_ ≤ (x_ : Int) ∧ S0_.2.2.1 203 0 x_ = 0)) (fun x_ => (S0_.2.2.1 199 0 x_ / 2).toNat) (fun x_ => (S0_.2.2.1 200 0 x_ / 2).toNat) n_.toNat (3 * c_.toNat + k_.toNat)) Sx10_) rfl rfl (by decide) (vc_397n (cnd9 n_ (S0_.2.2.1 202 0)) (ins (S0_.2.2.1 200 0 x_.toNat / 2).toNat (ins (S0_.2.2.1 199 0 x_.toNat / 2).toNat (tri c9_ k_.toNat i_.toNat))) (crn (fun x_ => decide (F_ ≤ (x_ : Int) ∧ S0_.2.2.1 203 0 x_ = 0)) (fun x_ => (S0_.2.2.1 199 0 x_ / 2).toNat) (fun x_ => (S0_.2.2.1 200 0 x_ / 2).toNat) n_.toNat (3 * c_.toNat + k_.toNat)) Sx10_ hIx11_ (by exact b150_) (by exact ⟨ins_r (ins_r tri_r), ins_t dn9_⟩) (by exact ⟨r150_, hlm_ _⟩) (by exact p150_.2.1) (by exact p150_.2.2.1) (by exact q150_)) (fun u_ Sx15_ px18_ => ?_)
        obtain ⟨rfl, hIx16_, hFx17_, px18_⟩ := px18_
        have hFx19_ : ai_fr (sx_W vw_400n) S0_ Sx15_ := ai_fr_tr hFx14_ (fr_le hFx17_ rfl)
        have p154_ := px18_.2.1
        have v154_ := px18_.1
        have d154_ := (px18_).2.2
        refine sm_T_inc (a := 3) (z := 1) (v := k_) (w := k_ + 1) rfl rfl (by omega) (by omega) (by omega) ?_ -- pc_ 157
        refine sm_T_go 1 (c1 := (50, [some (.inr (.inr (some (13, 0)))), some (.inl n_), some (.inl c_), some (.inl (k_ + 1)), some (.inl x_), some (.inl i_)], [], Sx15_)) rfl ?_
        refine sm_T_wk [some (.inr (.inr (some (13, 0)))), some (.inl n_), some (.inl c_), some (.inl (k_ + 1)), none, none] (by exact ⟨rfl, rfl, rfl, rfl, trivial⟩) ?_
        refine ih_.2.1 c_ (k_ + 1) Sx15_ hIx16_ hFx19_ ⟨?_, ?_, ?_, trivial⟩ ?_
        · omega
        · exact p154_
        · rw [show (k_ + 1).toNat = k_.toNat + 1 by omega, crn_a (by omega) hc9_ hk9_.1 (decide_eq_true ⟨by omega, hin_.2⟩)]
          rw [tri_e cg9_.1.2 hk9_.1 (by omega)] at d154_
          exact d154_
        · omega
      · have cx2_ : ¬ ((S_.2.2.1 204 0 c_.toNat) ≤ i_) := of_decide_eq_false cx2_
        have b4_ : 0 ≤ S_.2.2.1 204 0 c_.toNat ∧ S_.2.2.1 204 0 c_.toNat ≤ 3 := hI_.2 204 0 _
        have w9_ := (hc_ c_ (by omega) (by omega)).2 i_ (by omega) (by omega)
        have w1_ := w9_.1
        have w2_ := w9_.2.1
        refine sm_T_go 2 (c1 := (103, [some (.inr (.inr (some (13, 0)))), some (.inl n_), some (.inl c_), some (.inl k_), some (.inl x_), some (.inl i_)], [.inl k_, .inl i_], S_)) rfl ?_
        refine sm_T_br (a := 0) (z := 18) rfl (fun cx20_ => ?_) (fun cx20_ => ?_)
        · have cx20_ : i_ = k_ := of_decide_eq_true cx20_
          refine sm_T_inc (a := 5) (z := 1) (v := i_) (w := i_ + 1) rfl rfl (by omega) (by omega) (by omega) ?_ -- pc_ 121
          refine sm_T_go 1 (c1 := (89, [some (.inr (.inr (some (13, 0)))), some (.inl n_), some (.inl c_), some (.inl k_), some (.inl x_), some (.inl (i_ + 1))], [], S_)) rfl ?_
          refine ih_.2.2.1 c_ k_ x_ (i_ + 1) S_ hI_ hF_ ⟨?_, ?_, ?_, ?_, ?_, ?_, ?_, trivial⟩ ?_
          · omega
          · first | exact q118_ | exact hc_
          · first | exact p118_.2.2.1 | exact ht_
          · exact hx_
          · first | exact r118_ | exact hcb_
          · exact hin_
          · first | (obtain ⟨y9_, hy9_⟩ : ∃ y9_, c9_[i_.toNat]? = some y9_ := ⟨_, List.getElem?_eq_getElem (by omega)⟩; have vf9_ := cg9_.2.2 _ _ hy9_; rw [show 3 * c_.toNat + i_.toNat = (3 * c_ + i_).toNat by omega] at vf9_; rw [vf9_, Int.toNat_natCast] at b118_; exact ⟨c9_, hc9_, ⟨hk9_.1, by omega⟩, by (rw [show (i_ + 1).toNat = i_.toNat + 1 by omega, tri_s (by omega) hy9_]; exact b118_)⟩) | exact ⟨c9_, hc9_, ⟨hk9_.1, by omega⟩, by (rw [show (i_ + 1).toNat = i_.toNat + 1 by omega, tri_k (by omega)]; exact hmq_)⟩
          · omega
        · have cx20_ : ¬ (i_ = k_) := of_decide_eq_false cx20_
          refine sm_T_go 5 (c1 := (113, [some (.inr (.inr (some (13, 0)))), some (.inl n_), some (.inl c_), some (.inl k_), some (.inl x_), some (.inl i_)], [.inl c_, .inl 3, .inr (.inr (some (205, 0))), .inr (.inr (some (13, 0)))], S_)) rfl ?_
          refine sm_T_bin (w := 3 * c_) rfl (bi_mul (by omega) (by omega) (by omega)) ?_ -- pc_ 113
          refine sm_T_go 1 (c1 := (116, [some (.inr (.inr (some (13, 0)))), some (.inl n_), some (.inl c_), some (.inl k_), some (.inl x_), some (.inl i_)], [.inl i_, .inl (3 * c_), .inr (.inr (some (205, 0))), .inr (.inr (some (13, 0)))], S_)) rfl ?_
          refine sm_T_bin (w := 3 * c_ + i_) rfl (bi_add (by omega) (by omega) (by omega)) ?_ -- pc_ 116
          refine sm_T_iald (n := 192) rfl rfl (by omega) (by omega) ?_
          have bx21_ : 0 ≤ S_.2.2.1 205 0 (3 * c_ + i_).toNat ∧ S_.2.2.1 205 0 (3 * c_ + i_).toNat ≤ 1012 := hI_.2 205 0 _
          refine sm_T_cal (d1 := 0) (Q1 := vq_396n (S_.2.2.1 205 0 (3 * c_ + i_).toNat) (cnd9 n_ (S0_.2.2.1 202 0)) (tri c9_ k_.toNat i_.toNat) S_) rfl rfl (by decide) (vc_396n (S_.2.2.1 205 0 (3 * c_ + i_).toNat) (cnd9 n_ (S0_.2.2.1 202 0)) (tri c9_ k_.toNat i_.toNat) S_ hI_ (by exact ⟨hmq_, tri_r⟩) (by omega) (by omega) (by exact w9_) (by exact ht_)) (fun u_ Sx22_ px25_ => ?_)
          obtain ⟨rfl, hIx23_, hFx24_, px25_⟩ := px25_
          have hFx26_ : ai_fr (sx_W vw_400n) S0_ Sx22_ := ai_fr_tr hF_ (fr_le hFx24_ rfl)
          have p118_ := px25_
          have q118_ := ctp_fr (P_ := (cnd9 n_ (S0_.2.2.1 202 0))) hc_ hFx24_
          have r118_ := crl_fr hcb_ hFx24_
          have v118_ := hFx24_.1 13 0 114 rfl
          have b118_ := (px25_).2.2.2
          refine sm_T_inc (a := 5) (z := 1) (v := i_) (w := i_ + 1) rfl rfl (by omega) (by omega) (by omega) ?_ -- pc_ 121
          refine sm_T_go 1 (c1 := (89, [some (.inr (.inr (some (13, 0)))), some (.inl n_), some (.inl c_), some (.inl k_), some (.inl x_), some (.inl (i_ + 1))], [], Sx22_)) rfl ?_
          refine ih_.2.2.1 c_ k_ x_ (i_ + 1) Sx22_ hIx23_ hFx26_ ⟨?_, ?_, ?_, ?_, ?_, ?_, ?_, trivial⟩ ?_
          · omega
          · first | exact q118_ | exact hc_
          · first | exact p118_.2.2.1 | exact ht_
          · exact hx_
          · first | exact r118_ | exact hcb_
          · exact hin_
          · first | (obtain ⟨y9_, hy9_⟩ : ∃ y9_, c9_[i_.toNat]? = some y9_ := ⟨_, List.getElem?_eq_getElem (by omega)⟩; have vf9_ := cg9_.2.2 _ _ hy9_; rw [show 3 * c_.toNat + i_.toNat = (3 * c_ + i_).toNat by omega] at vf9_; rw [vf9_, Int.toNat_natCast] at b118_; exact ⟨c9_, hc9_, ⟨hk9_.1, by omega⟩, by (rw [show (i_ + 1).toNat = i_.toNat + 1 by omega, tri_s (by omega) hy9_]; exact b118_)⟩) | exact ⟨c9_, hc9_, ⟨hk9_.1, by omega⟩, by (rw [show (i_ + 1).toNat = i_.toNat + 1 by omega, tri_k (by omega)]; exact hmq_)⟩
          · omega
    · rintro i_ S_ hI_ hF_ ⟨h0_, hc_, hso_, -⟩ hm_
      have f203_ : S_.2.2.1 203 0 = S0_.2.2.1 203 0 := fr_arr hF_ rfl
      have f202_ : S_.2.2.1 202 0 = S0_.2.2.1 202 0 := fr_arr hF_ rfl
      have f199_ : S_.2.2.1 199 0 = S0_.2.2.1 199 0 := fr_arr hF_ rfl
      have f200_ : S_.2.2.1 200 0 = S0_.2.2.1 200 0 := fr_arr hF_ rfl
      have f160_ : S_.2.2.1 160 0 (S_.1 13 0 105).toNat = F_ := by (rw [hF_.1 13 0 105 rfl, fr_arr (t := 160) (i := 0) hF_ rfl]; exact hf_)
      have c14_ : 0 ≤ S_.1 13 0 114 ∧ S_.1 13 0 114 ≤ 64 := hI_.1 13 0 114 rfl
      have c23_ : 0 ≤ S_.1 13 0 123 ∧ S_.1 13 0 123 ≤ 8 := hI_.1 13 0 123 rfl
      have bx1_ : 0 ≤ S_.1 13 0 114 ∧ S_.1 13 0 114 ≤ 64 := hI_.1 13 0 114 rfl
      refine sm_T_go 3 (c1 := (176, [some (.inr (.inr (some (13, 0)))), some (.inl n_), some (.inl i_), none, none, none], [.inl (S_.1 13 0 114), .inl i_], S_)) rfl ?_
      refine sm_T_br (a := 3) (z := 40) rfl (fun cx2_ => ?_) (fun cx2_ => ?_)
      · have cx2_ : (S_.1 13 0 114) ≤ i_ := of_decide_eq_true cx2_
        refine sm_T_rv rfl ⟨_, _, rfl, rfl, hI_, hF_, ?_⟩
        obtain ⟨m9_, C9_, hml9_, hcr9_, hpr9_, hsr9_⟩ := hso_
        have cn9_ := hcr9_.1
        exact ⟨hc_, m9_, C9_, hml9_, hcr9_, hpr9_, fun p_ q_ a_ b_ => hsr9_ p_ q_ a_ (by omega)⟩
      · have cx2_ : ¬ ((S_.1 13 0 114) ≤ i_) := of_decide_eq_false cx2_
        refine sm_T_go 2 (c1 := (181, [some (.inr (.inr (some (13, 0)))), some (.inl n_), some (.inl i_), some (.inl i_), none, none], [], S_)) rfl ?_
        refine ih_.2.2.2.2 i_ i_ S_ hI_ hF_ ⟨?_, ?_, ?_, trivial⟩ ?_
        · omega
        · exact hc_
        · obtain ⟨m9_, C9_, hml9_, hcr9_, hpr9_, hsr9_⟩ := hso_
          exact ⟨m9_, C9_, hml9_, hcr9_, hpr9_, sod_0 hsr9_⟩
        · omega
    · rintro i_ j_ S_ hI_ hF_ ⟨h0_, hc_, hso_, -⟩ hm_
      have f203_ : S_.2.2.1 203 0 = S0_.2.2.1 203 0 := fr_arr hF_ rfl
      have f202_ : S_.2.2.1 202 0 = S0_.2.2.1 202 0 := fr_arr hF_ rfl
      have f199_ : S_.2.2.1 199 0 = S0_.2.2.1 199 0 := fr_arr hF_ rfl
      have f200_ : S_.2.2.1 200 0 = S0_.2.2.1 200 0 := fr_arr hF_ rfl
      have f160_ : S_.2.2.1 160 0 (S_.1 13 0 105).toNat = F_ := by (rw [hF_.1 13 0 105 rfl, fr_arr (t := 160) (i := 0) hF_ rfl]; exact hf_)
      have c14_ : 0 ≤ S_.1 13 0 114 ∧ S_.1 13 0 114 ≤ 64 := hI_.1 13 0 114 rfl
      have c23_ : 0 ≤ S_.1 13 0 123 ∧ S_.1 13 0 123 ≤ 8 := hI_.1 13 0 123 rfl
      obtain ⟨m9_, C9_, hml9_, hcr9_, hpr9_, hsd9_⟩ := hso_
      have cn9_ := hcr9_.1
      refine sm_T_go 1 (c1 := (182, [some (.inr (.inr (some (13, 0)))), some (.inl n_), some (.inl i_), some (.inl j_), none, none], [.inl j_], S_)) rfl ?_
      refine sm_T_b0 (a := 5) (z := 28) rfl (fun cx1_ => ?_) (fun cx1_ => ?_)
      · have cx1_ : j_ ≤ 0 := of_decide_eq_true cx1_
        refine sm_T_inc (a := 2) (z := 1) (v := i_) (w := i_ + 1) rfl rfl (by omega) (by omega) (by omega) ?_ -- pc_ 210
        refine sm_T_go 1 (c1 := (171, [some (.inr (.inr (some (13, 0)))), some (.inl n_), some (.inl (i_ + 1)), some (.inl j_), none, none], [], S_)) rfl ?_
        refine sm_T_wk [some (.inr (.inr (some (13, 0)))), some (.inl n_), some (.inl (i_ + 1)), none, none, none] (by exact ⟨rfl, rfl, rfl, trivial⟩) ?_
        refine ih_.2.2.2.1 (i_ + 1) S_ hI_ hF_ ⟨?_, ?_, ?_, trivial⟩ ?_
        · omega
        · exact hc_
        · rw [show (i_ + 1).toNat = i_.toNat + 1 by omega]
          refine ⟨m9_, C9_, hml9_, hcr9_, hpr9_, sod_e hsd9_ (fun z9_ => ?_)⟩
          first | (exfalso; omega) | (rw [show j_.toNat - 1 = (j_ - 1).toNat by omega]; rcases e190_ with z_ | z_; (exfalso; omega); refine lcv_n z_.2 ?_; exact cva_d ((hcr9_.2 _ (by omega)).1.1) ((hcr9_.2 _ (by omega)).1.1) (hpr9_.2.2 _ _ (by omega) (by omega) (by omega)))
        · omega
      · have cx1_ : ¬ (j_ ≤ 0) := of_decide_eq_false cx1_
        refine sm_T_go 4 (c1 := (189, [some (.inr (.inr (some (13, 0)))), some (.inl n_), some (.inl i_), some (.inl j_), none, none], [.inl 1, .inl j_, .inl j_, .inr (.inr (some (13, 0)))], S_)) rfl ?_
        refine sm_T_bin (w := j_ - 1) rfl (bi_sub (by omega) (by omega) (by omega)) ?_ -- pc_ 189
        refine sm_T_cal (d1 := 0) (Q1 := vq_398n j_ (j_ - 1) S_) rfl rfl (by decide) (vc_398n j_ (j_ - 1) S_ hI_ (by omega)) (fun u_ Sx2_ px5_ => ?_)
        obtain ⟨rfl, vx7_, rfl, px5_⟩ := px5_
        have e190_ := px5_
        rw [crf_v hcr9_ (i_ := j_.toNat) (by omega), crf_v hcr9_ (i_ := (j_ - 1).toNat) (by omega)] at e190_
        refine sm_T_b0 (a := 0) (z := 17) rfl (fun cx8_ => ?_) (fun cx8_ => ?_)
        · have cx8_ : vx7_ = 0 := of_decide_eq_true cx8_
          refine sm_T_inc (a := 2) (z := 1) (v := i_) (w := i_ + 1) rfl rfl (by omega) (by omega) (by omega) ?_ -- pc_ 210
          refine sm_T_go 1 (c1 := (171, [some (.inr (.inr (some (13, 0)))), some (.inl n_), some (.inl (i_ + 1)), some (.inl j_), none, none], [], S_)) rfl ?_
          refine sm_T_wk [some (.inr (.inr (some (13, 0)))), some (.inl n_), some (.inl (i_ + 1)), none, none, none] (by exact ⟨rfl, rfl, rfl, trivial⟩) ?_
          refine ih_.2.2.2.1 (i_ + 1) S_ hI_ hF_ ⟨?_, ?_, ?_, trivial⟩ ?_
          · omega
          · exact hc_
          · rw [show (i_ + 1).toNat = i_.toNat + 1 by omega]
            refine ⟨m9_, C9_, hml9_, hcr9_, hpr9_, sod_e hsd9_ (fun z9_ => ?_)⟩
            first | (exfalso; omega) | (rw [show j_.toNat - 1 = (j_ - 1).toNat by omega]; rcases e190_ with z_ | z_; (exfalso; omega); refine lcv_n z_.2 ?_; exact cva_d ((hcr9_.2 _ (by omega)).1.1) ((hcr9_.2 _ (by omega)).1.1) (hpr9_.2.2 _ _ (by omega) (by omega) (by omega)))
          · omega
        · have cx8_ : ¬ (vx7_ = 0) := of_decide_eq_false cx8_
          refine sm_T_go 4 (c1 := (200, [some (.inr (.inr (some (13, 0)))), some (.inl n_), some (.inl i_), some (.inl j_), none, none], [.inl 1, .inl j_, .inl j_, .inr (.inr (some (13, 0)))], S_)) rfl ?_
          refine sm_T_bin (w := j_ - 1) rfl (bi_sub (by omega) (by omega) (by omega)) ?_ -- pc_ 200
          refine sm_T_cal (d1 := 0) (Q1 := vq_399n j_ (j_ - 1) (cnd9 n_ (S0_.2.2.1 202 0)) S_) rfl rfl (by decide) (vc_399n j_ (j_ - 1) (cnd9 n_ (S0_.2.2.1 202 0)) S_ hI_ (by omega) (by exact hc_)) (fun u_ Sx9_ px12_ => ?_)
          obtain ⟨rfl, hIx10_, hFx11_, px12_⟩ := px12_
          have hFx13_ : ai_fr (sx_W vw_400n) S0_ Sx9_ := ai_fr_tr hF_ (fr_le hFx11_ rfl)
          have p201_ := px12_.1
          have s201_ := px12_.2
          have v201_ := hFx11_.1 13 0 114 rfl
          refine sm_T_inc (a := 3) (z := (-1)) (v := j_) (w := j_ - 1) rfl rfl (by omega) (by omega) (by omega) ?_ -- pc_ 204
          refine sm_T_go 1 (c1 := (181, [some (.inr (.inr (some (13, 0)))), some (.inl n_), some (.inl i_), some (.inl (j_ - 1)), none, none], [], Sx9_)) rfl ?_
          refine ih_.2.2.2.2 i_ (j_ - 1) Sx9_ hIx10_ hFx13_ ⟨?_, ?_, ?_, trivial⟩ ?_
          · omega
          · exact p201_
          · refine ⟨m9_, swf j_.toNat (j_ - 1).toNat C9_, hml9_, ?_, ?_, ?_⟩
            · refine crf_sw hcr9_ (by omega) (by omega) (by omega) v201_ s201_.1 (fun q_ u_ => ?_)
              have w9_ := s201_.2 q_ u_
              rw [show ((j_.toNat : Nat) : Int) = j_ by omega, show (((j_ - 1).toNat : Nat) : Int) = j_ - 1 by omega]
              exact w9_
            · exact prm_sw hpr9_ (by omega) (by omega) (by omega)
            · have w9_ := hsd9_
              rw [show j_.toNat = (j_ - 1).toNat + 1 by omega] at w9_ e190_
              rw [show j_.toNat = (j_ - 1).toNat + 1 by omega]
              exact sod_s w9_ (by omega) (by (rcases e190_ with z_ | z_; exact z_.2; exfalso; omega))
          · omega
set_option maxHeartbeats 4000000 in
set_option maxRecDepth 20000 in
theorem vc_400n {sc_ : Nat × (Nat → Int)} (n_ : Int) (F_ : Int) (N_ : Int) (S0_ : sm_S) (hI_ : gi S0_) (hdf_ : ∀ x_ : Int, F_ ≤ x_ → x_ < N_ → S0_.2.2.1 202 0 x_.toNat = 1 → S0_.2.2.1 199 0 x_.toNat / 2 ≠ S0_.2.2.1 200 0 x_.toNat / 2) (hlm_ : ∀ m_ : Nat, (crn (fun x_ => decide (F_ ≤ (x_ : Int) ∧ S0_.2.2.1 203 0 x_ = 0)) (fun x_ => (S0_.2.2.1 199 0 x_ / 2).toNat) (fun x_ => (S0_.2.2.1 200 0 x_ / 2).toNat) n_.toNat (m_)).length ≤ 60) (hf_ : S0_.2.2.1 160 0 (S0_.1 13 0 105).toNat = F_) (hn_ : 1 ≤ F_ ∧ F_ ≤ n_ ∧ n_ < N_ ∧ N_ ≤ 1013) (hw_ : S0_.2.2.1 202 0 n_.toNat = 1) (hl_ : lgn F_ N_ S0_) : sm_T (mt_P sc_) 1 400 (0, [some (.inr (.inr (some (13, 0)))), some (.inl n_), none, none, none, none], [], S0_) (fun ro9_ => ∃ u_ S1_, ro9_ = (.inl u_, S1_, 0) ∧ vq_400n n_ F_ N_ S0_ u_ S1_) := by
  have hF_ : ai_fr (sx_W vw_400n) S0_ S0_ := ai_fr_rf
  have L9_ := hl_ n_ (by omega) (by omega) hw_
  have l1_ := L9_.1
  have l2_ := L9_.2
  have df9_ := hdf_ n_ (by omega) (by omega) hw_
  have hIx1_ : gi (sm_pI S0_ 13 0 114 0) := gi_pI hI_ (show 0 ≤ 0 ∧ 0 ≤ 64 from ⟨by omega, by omega⟩)
  have hFx2_ : ai_fr (sx_W vw_400n) S0_ (sm_pI S0_ 13 0 114 0) := ai_fr_tr hF_ (ai_fr_pI rfl)
  have hIx3_ : gi (sm_pI (sm_pI S0_ 13 0 114 0) 13 0 123 0) := gi_pI hIx1_ (show 0 ≤ 0 ∧ 0 ≤ 8 from ⟨by omega, by omega⟩)
  have hFx4_ : ai_fr (sx_W vw_400n) S0_ (sm_pI (sm_pI S0_ 13 0 114 0) 13 0 123 0) := ai_fr_tr hFx2_ (ai_fr_pI rfl)
  refine sm_T_go 10 (c1 := (16, [some (.inr (.inr (some (13, 0)))), some (.inl n_), none, none, none, none], [.inl n_, .inr (.inr (some (199, 0))), .inr (.inr (some (13, 0)))], sm_pI (sm_pI S0_ 13 0 114 0) 13 0 123 0)) rfl ?_
  refine sm_T_iald (n := 2048) rfl rfl (by omega) (by omega) ?_
  have bx5_ : 0 ≤ S0_.2.2.1 199 0 n_.toNat ∧ S0_.2.2.1 199 0 n_.toNat ≤ 2025 := hI_.2 199 0 _
  refine sm_T_go 1 (c1 := (18, [some (.inr (.inr (some (13, 0)))), some (.inl n_), none, none, none, none], [.inl 1, .inl (S0_.2.2.1 199 0 n_.toNat), .inr (.inr (some (13, 0)))], sm_pI (sm_pI S0_ 13 0 114 0) 13 0 123 0)) rfl ?_
  refine sm_T_bin (w := ((S0_.2.2.1 199 0 n_.toNat) / 2)) rfl (bi_shr (k := 1) (by decide) (by omega) (by omega)) ?_ -- pc_ 18
  refine sm_T_cal (d1 := 0) (Q1 := vq_396n ((S0_.2.2.1 199 0 n_.toNat) / 2) (cnd9 n_ (S0_.2.2.1 202 0)) [] (sm_pI (sm_pI S0_ 13 0 114 0) 13 0 123 0)) rfl rfl (by decide) (vc_396n ((S0_.2.2.1 199 0 n_.toNat) / 2) (cnd9 n_ (S0_.2.2.1 202 0)) [] (sm_pI (sm_pI S0_ 13 0 114 0) 13 0 123 0) hIx3_ (by exact mrl_0 rf_eq) (by omega) (by ((try simp only [rd_eq, rd_ne, rf_eq, rf_nk, rf_nt, rd_fa, rd_af, rd_fl, rd_al, rd_lf, rd_la, rd_leq, rd_lne, rd_fr, rd_ar, ne_eq, Nat.reduceEqDiff, not_false_eq_true]); decide)) (by exact ⟨by omega, by omega, l1_.2.2⟩) (by (intro k9_ u0_ u1_; rw [rf_eq] at u1_; exfalso; omega))) (fun u_ Sx6_ px9_ => ?_)
  obtain ⟨rfl, hIx7_, hFx8_, px9_⟩ := px9_
  have hFx10_ : ai_fr (sx_W vw_400n) S0_ Sx6_ := ai_fr_tr hFx4_ (fr_le hFx8_ rfl)
  have p19_ := px9_
  have b19_ : mrl (ins (S0_.2.2.1 199 0 n_.toNat / 2).toNat []) Sx6_ := (px9_).2.2.2
  have y19_ : Sx6_.2.2.1 200 0 = S0_.2.2.1 200 0 := fr_arr hFx10_ rfl
  have u19_ : Sx6_.1 13 0 123 ≤ 1 := by (have w9_ := p19_.1; rw [rf_eq] at w9_; omega)
  have v19_ : Sx6_.1 13 0 114 = 0 := (hFx8_.1 13 0 114 rfl).trans (by (try simp only [rd_eq, rd_ne, rf_eq, rf_nk, rf_nt, rd_fa, rd_af, rd_fl, rd_al, rd_lf, rd_la, rd_leq, rd_lne, rd_fr, rd_ar, ne_eq, Nat.reduceEqDiff, not_false_eq_true]))
  refine sm_T_go 4 (c1 := (28, [some (.inr (.inr (some (13, 0)))), some (.inl n_), none, none, none, none], [.inl n_, .inr (.inr (some (200, 0))), .inr (.inr (some (13, 0)))], Sx6_)) rfl ?_
  refine sm_T_iald (n := 2048) rfl rfl (by omega) (by omega) ?_
  have bx11_ : 0 ≤ Sx6_.2.2.1 200 0 n_.toNat ∧ Sx6_.2.2.1 200 0 n_.toNat ≤ 2025 := hIx7_.2 200 0 _
  refine sm_T_go 1 (c1 := (30, [some (.inr (.inr (some (13, 0)))), some (.inl n_), none, none, none, none], [.inl 1, .inl (Sx6_.2.2.1 200 0 n_.toNat), .inr (.inr (some (13, 0)))], Sx6_)) rfl ?_
  refine sm_T_bin (w := ((Sx6_.2.2.1 200 0 n_.toNat) / 2)) rfl (bi_shr (k := 1) (by decide) (by omega) (by omega)) ?_ -- pc_ 30
  refine sm_T_cal (d1 := 0) (Q1 := vq_396n ((Sx6_.2.2.1 200 0 n_.toNat) / 2) (cnd9 n_ (S0_.2.2.1 202 0)) (ins (S0_.2.2.1 199 0 n_.toNat / 2).toNat []) Sx6_) rfl rfl (by decide) (vc_396n ((Sx6_.2.2.1 200 0 n_.toNat) / 2) (cnd9 n_ (S0_.2.2.1 202 0)) (ins (S0_.2.2.1 199 0 n_.toNat / 2).toNat []) Sx6_ hIx7_ (by exact ⟨b19_, ins_r trivial⟩) (by (rw [y19_]; omega)) (by omega) (by (rw [y19_]; exact ⟨by omega, by omega, l2_.2.2⟩)) (by exact p19_.2.2.1)) (fun u_ Sx12_ px15_ => ?_)
  obtain ⟨rfl, hIx13_, hFx14_, px15_⟩ := px15_
  have hFx16_ : ai_fr (sx_W vw_400n) S0_ Sx12_ := ai_fr_tr hFx10_ (fr_le hFx14_ rfl)
  have p31_ := px15_
  have b31_ : mrl (ins (S0_.2.2.1 200 0 n_.toNat / 2).toNat (ins (S0_.2.2.1 199 0 n_.toNat / 2).toNat [])) Sx12_ := by (have z9_ := (px15_).2.2.2; rw [y19_] at z9_; exact z9_)
  have v31_ : Sx12_.1 13 0 114 = 0 := (hFx14_.1 13 0 114 rfl).trans v19_
  refine sm_T_go 1 (c1 := (35, [some (.inr (.inr (some (13, 0)))), some (.inl n_), none, none, none, none], [.inr (.inr (some (13, 0)))], Sx12_)) rfl ?_
  refine sm_T_cal (d1 := 0) (Q1 := vq_397n (cnd9 n_ (S0_.2.2.1 202 0)) (ins (S0_.2.2.1 200 0 n_.toNat / 2).toNat (ins (S0_.2.2.1 199 0 n_.toNat / 2).toNat [])) [] Sx12_) rfl rfl (by decide) (vc_397n (cnd9 n_ (S0_.2.2.1 202 0)) (ins (S0_.2.2.1 200 0 n_.toNat / 2).toNat (ins (S0_.2.2.1 199 0 n_.toNat / 2).toNat [])) [] Sx12_ hIx13_ (by exact b31_) (by exact ⟨ins_r (ins_r trivial), ins_t (by omega)⟩) (by exact ⟨crl_0 v31_, by decide⟩) (by exact p31_.2.1) (by exact p31_.2.2.1) (by (intro c9_ u0_ u1_; exfalso; omega))) (fun u_ Sx17_ px20_ => ?_)
  obtain ⟨rfl, hIx18_, hFx19_, px20_⟩ := px20_
  have hFx21_ : ai_fr (sx_W vw_400n) S0_ Sx17_ := ai_fr_tr hFx16_ (fr_le hFx19_ rfl)
  have p35_ := px20_.2.1
  have c35_ : crl [ins (S0_.2.2.1 199 0 n_.toNat / 2).toNat [(S0_.2.2.1 200 0 n_.toNat / 2).toNat]] Sx17_ := by (have z9_ := (px20_).2.2; have l9_ := ins_k (x_ := (S0_.2.2.1 200 0 n_.toNat / 2).toNat) (l_ := ins (S0_.2.2.1 199 0 n_.toNat / 2).toNat []); have l8_ : (ins (S0_.2.2.1 199 0 n_.toNat / 2).toNat []).length = 1 := rfl; rw [if_pos ⟨by omega, List.not_mem_nil⟩, ins_2] at z9_; exact z9_)
  refine sm_T_go 2 (c1 := (40, [some (.inr (.inr (some (13, 0)))), some (.inl n_), some (.inl 0), none, none, none], [], Sx17_)) rfl ?_
  refine (vl_400n n_ F_ N_ S0_ hdf_ hlm_ hf_ hn_ hw_ hl_ _).1 0 Sx17_ hIx18_ hFx21_ ⟨?_, ?_, ?_, trivial⟩ (Nat.lt_succ_self _)
  · omega
  · exact p35_
  · exact c35_
end
/-! 99.ztZH -/
section
/-! cuts: sides turned about; written by wip/p55/gen/vg -/

/-! cuts: sides turned about -/
theorem ins_sw {a_ b_ : Nat} {l_ : List Nat} (hr_ : ris l_) : ins a_ (ins b_ l_) = ins b_ (ins a_ l_) := ris_u (ins_r (ins_r hr_)) (ins_r (ins_r hr_)) (fun z_ => by
  rw [ins_m, ins_m, ins_m, ins_m]
  constructor
  · rintro (h_ | h_ | h_)
    · exact Or.inr (Or.inl h_)
    · exact Or.inl h_
    · exact Or.inr (Or.inr h_)
  · rintro (h_ | h_ | h_)
    · exact Or.inr (Or.inl h_)
    · exact Or.inl h_
    · exact Or.inr (Or.inr h_))
/-- the_ same two_ sides -/
def agr (cl_ ch_ dl_ dh_ : Nat → Nat) (x_ : Nat) : Prop := (cl_ x_ = dl_ x_ ∧ ch_ x_ = dh_ x_) ∨ (cl_ x_ = dh_ x_ ∧ ch_ x_ = dl_ x_)
theorem agr_i {cl_ ch_ dl_ dh_ : Nat → Nat} {x_ : Nat} {l_ : List Nat} (h_ : agr cl_ ch_ dl_ dh_ x_) (hr_ : ris l_) : ins (cl_ x_) (ins (ch_ x_) l_) = ins (dl_ x_) (ins (dh_ x_) l_) := by
  rcases h_ with ⟨a_, b_⟩ | ⟨a_, b_⟩
  · rw [a_, b_]
  · rw [a_, b_, ins_sw hr_]
theorem ctst_n {inn_ : Nat → Bool} {cl_ ch_ : Nat → Nat} {L_ : List (List Nat)} {i_ k_ : Nat} (h_ : L_[i_]? = none) : ctst inn_ cl_ ch_ L_ i_ k_ = L_ := by
  unfold ctst
  simp only [h_]
theorem ctst_m {inn_ : Nat → Bool} {cl_ ch_ : Nat → Nat} {L_ : List (List Nat)} {i_ k_ : Nat} {c_ : List Nat} (h_ : L_[i_]? = some c_) (g_ : c_[k_]? = none) : ctst inn_ cl_ ch_ L_ i_ k_ = L_ := by
  unfold ctst
  simp only [h_, g_]
theorem ctst_s {inn_ : Nat → Bool} {cl_ ch_ : Nat → Nat} {L_ : List (List Nat)} {i_ k_ x_ : Nat} {c_ : List Nat} (h_ : L_[i_]? = some c_) (g_ : c_[k_]? = some x_) : ctst inn_ cl_ ch_ L_ i_ k_ = if inn_ x_ = true ∧ (ins (cl_ x_) (ins (ch_ x_) (c_.filter (fun y_ => y_ != x_)))).length ≤ 3 ∧ ¬ ins (cl_ x_) (ins (ch_ x_) (c_.filter (fun y_ => y_ != x_))) ∈ L_ then L_ ++ [ins (cl_ x_) (ins (ch_ x_) (c_.filter (fun y_ => y_ != x_)))] else L_ := by
  unfold ctst
  simp only [h_, g_]
theorem ctst_cg {inn_ jnn_ : Nat → Bool} {cl_ ch_ dl_ dh_ : Nat → Nat} {P_ : Nat → Prop} (hi_ : ∀ x_, P_ x_ → inn_ x_ = jnn_ x_) (hs_ : ∀ x_, P_ x_ → inn_ x_ = true → agr cl_ ch_ dl_ dh_ x_ ∧ P_ (cl_ x_) ∧ P_ (ch_ x_)) {L_ : List (List Nat)} (hL_ : ∀ c_, c_ ∈ L_ → ris c_ ∧ ∀ z_, z_ ∈ c_ → P_ z_) (i_ k_ : Nat) : ctst inn_ cl_ ch_ L_ i_ k_ = ctst jnn_ dl_ dh_ L_ i_ k_ ∧ ∀ c_, c_ ∈ ctst inn_ cl_ ch_ L_ i_ k_ → ris c_ ∧ ∀ z_, z_ ∈ c_ → P_ z_ := by
  obtain ⟨o_, ho_⟩ : ∃ o_, L_[i_]? = o_ := ⟨_, rfl⟩
  rcases o_ with _ | c_
  · rw [ctst_n ho_, ctst_n ho_]
    exact ⟨rfl, hL_⟩
  · obtain ⟨o2_, h2_⟩ : ∃ o2_, c_[k_]? = o2_ := ⟨_, rfl⟩
    rcases o2_ with _ | x_
    · rw [ctst_m ho_ h2_, ctst_m ho_ h2_]
      exact ⟨rfl, hL_⟩
    · obtain ⟨rc_, pc_⟩ := hL_ c_ (List.mem_of_getElem? ho_)
      have px_ := pc_ x_ (List.mem_of_getElem? h2_)
      rw [ctst_s ho_ h2_, ctst_s ho_ h2_]
      by_cases e_ : inn_ x_ = true
      · obtain ⟨ag_, pl_, ph_⟩ := hs_ x_ px_ e_
        have q_ := agr_i ag_ (ris_f (p_ := fun y_ => y_ != x_) rc_)
        rw [← q_, ← hi_ x_ px_]
        refine ⟨rfl, fun d_ hd_ => ?_⟩
        split at hd_
        · rcases List.mem_append.mp hd_ with u_ | u_
          · exact hL_ d_ u_
          · rw [List.mem_singleton.mp u_]
            refine ⟨ins_r (ins_r (ris_f rc_)), fun z_ hz_ => ?_⟩
            rcases ins_m.mp hz_ with w_ | w_
            · rw [w_]
              exact pl_
            · rcases ins_m.mp w_ with w_ | w_
              · rw [w_]
                exact ph_
              · exact pc_ z_ (List.mem_filter.mp w_).1
        · exact hL_ d_ hd_
      · rw [if_neg (fun u_ => e_ u_.1), if_neg (fun u_ => e_ ((hi_ x_ px_).trans u_.1))]
        exact ⟨rfl, hL_⟩
/-- the_ same cuts -/
theorem crn_cg {inn_ jnn_ : Nat → Bool} {cl_ ch_ dl_ dh_ : Nat → Nat} {P_ : Nat → Prop} {n_ : Nat} (hn_ : agr cl_ ch_ dl_ dh_ n_ ∧ P_ (cl_ n_) ∧ P_ (ch_ n_)) (hi_ : ∀ x_, P_ x_ → inn_ x_ = jnn_ x_) (hs_ : ∀ x_, P_ x_ → inn_ x_ = true → agr cl_ ch_ dl_ dh_ x_ ∧ P_ (cl_ x_) ∧ P_ (ch_ x_)) : ∀ m_, crn inn_ cl_ ch_ n_ m_ = crn jnn_ dl_ dh_ n_ m_ ∧ ∀ c_, c_ ∈ crn inn_ cl_ ch_ n_ m_ → ris c_ ∧ ∀ z_, z_ ∈ c_ → P_ z_
  | 0 => by
    obtain ⟨ag_, pl_, ph_⟩ := hn_
    have q_ := agr_i (l_ := []) ag_ trivial
    have q_ : ins (cl_ n_) [ch_ n_] = ins (dl_ n_) [dh_ n_] := q_
    refine ⟨?_, fun c_ hc_ => ?_⟩
    · show [ins (cl_ n_) [ch_ n_]] = [ins (dl_ n_) [dh_ n_]]
      rw [q_]
    · have hc_ : c_ ∈ [ins (cl_ n_) [ch_ n_]] := hc_
      rw [List.mem_singleton.mp hc_]
      refine ⟨ins_r (l_ := [ch_ n_]) ⟨fun z_ h_ => absurd h_ List.not_mem_nil, trivial⟩, fun z_ hz_ => ?_⟩
      rcases ins_m.mp hz_ with w_ | w_
      · rw [w_]
        exact pl_
      · rw [List.mem_singleton.mp w_]
        exact ph_
  | m_ + 1 => by
    obtain ⟨e_, h_⟩ := crn_cg hn_ hi_ hs_ m_
    have w_ := ctst_cg hi_ hs_ h_ (m_ / 3) (m_ % 3)
    show ctst inn_ cl_ ch_ (crn inn_ cl_ ch_ n_ m_) (m_ / 3) (m_ % 3) = ctst jnn_ dl_ dh_ (crn jnn_ dl_ dh_ n_ m_) (m_ / 3) (m_ % 3) ∧ ∀ c_, c_ ∈ ctst inn_ cl_ ch_ (crn inn_ cl_ ch_ n_ m_) (m_ / 3) (m_ % 3) → ris c_ ∧ ∀ z_, z_ ∈ c_ → P_ z_
    rw [← e_]
    exact w_
end
/-! 99.ztZI -/
section
/-! cuts: the nodes gone through; written by wip/p55/gen/vg -/

/-! cuts: the_ nodes gone through -/
def frc (cl_ ch_ : Nat → Nat) (n_ : Nat) : List Nat → List Nat
  | [] => ins (cl_ n_) [ch_ n_]
  | x_ :: E_ => ins (cl_ x_) (ins (ch_ x_) ((frc cl_ ch_ n_ E_).filter (fun y_ => y_ != x_)))
def frk (inn_ : Nat → Bool) (cl_ ch_ : Nat → Nat) (n_ : Nat) : List Nat → Prop
  | [] => True
  | x_ :: E_ => frk inn_ cl_ ch_ n_ E_ ∧ x_ ∈ frc cl_ ch_ n_ E_ ∧ inn_ x_ = true
theorem frc_r {cl_ ch_ : Nat → Nat} {n_ : Nat} : ∀ E_, ris (frc cl_ ch_ n_ E_)
  | [] => ins_r (l_ := [ch_ n_]) ⟨fun z_ h_ => absurd h_ List.not_mem_nil, trivial⟩
  | x_ :: E_ => ins_r (ins_r (ris_f (frc_r E_)))
theorem crn_fr {inn_ : Nat → Bool} {cl_ ch_ : Nat → Nat} {n_ : Nat} : ∀ m_ c_, c_ ∈ crn inn_ cl_ ch_ n_ m_ → ∃ E_, frk inn_ cl_ ch_ n_ E_ ∧ c_ = frc cl_ ch_ n_ E_ ∧ (E_ ≠ [] → c_.length ≤ 3)
  | 0, c_, h_ => by
    have h_ : c_ ∈ [ins (cl_ n_) [ch_ n_]] := h_
    exact ⟨[], trivial, List.mem_singleton.mp h_, fun e_ => absurd rfl e_⟩
  | m_ + 1, c_, h_ => by
    have h_ : c_ ∈ ctst inn_ cl_ ch_ (crn inn_ cl_ ch_ n_ m_) (m_ / 3) (m_ % 3) := h_
    obtain ⟨o_, ho_⟩ : ∃ o_, (crn inn_ cl_ ch_ n_ m_)[m_ / 3]? = o_ := ⟨_, rfl⟩
    rcases o_ with _ | d_
    · rw [ctst_n ho_] at h_
      exact crn_fr m_ c_ h_
    · obtain ⟨o2_, h2_⟩ : ∃ o2_, d_[m_ % 3]? = o2_ := ⟨_, rfl⟩
      rcases o2_ with _ | x_
      · rw [ctst_m ho_ h2_] at h_
        exact crn_fr m_ c_ h_
      · rw [ctst_s ho_ h2_] at h_
        split at h_
        · rename_i u_
          rcases List.mem_append.mp h_ with w_ | w_
          · exact crn_fr m_ c_ w_
          · have w_ := List.mem_singleton.mp w_
            obtain ⟨E_, k1_, k2_, k3_⟩ := crn_fr m_ d_ (List.mem_of_getElem? ho_)
            refine ⟨x_ :: E_, ⟨k1_, ?_, u_.1⟩, ?_, fun _ => ?_⟩
            · rw [← k2_]
              exact List.mem_of_getElem? h2_
            · rw [w_, k2_]
              rfl
            · rw [w_]
              exact u_.2.1
        · exact crn_fr m_ c_ h_
/-- a_ tree of_ inner nodes -/
def trh (inn_ : Nat → Bool) (cl_ ch_ : Nat → Nat) (n_ : Nat) (T_ : Nat → Prop) : Prop := T_ n_ ∧ (∀ x_, T_ x_ → (cl_ x_ < x_ ∧ ch_ x_ < x_ ∧ cl_ x_ ≠ ch_ x_) ∧ (inn_ (cl_ x_) = true → T_ (cl_ x_)) ∧ (inn_ (ch_ x_) = true → T_ (ch_ x_))) ∧ ∀ x_ y_ z_, T_ x_ → T_ y_ → (z_ = cl_ x_ ∨ z_ = ch_ x_) → (z_ = cl_ y_ ∨ z_ = ch_ y_) → inn_ z_ = true → x_ = y_
section FR_
variable {inn_ : Nat → Bool} {cl_ ch_ : Nat → Nat} {n_ : Nat} {T_ : Nat → Prop}
theorem frc_a (ht_ : trh inn_ cl_ ch_ n_ T_) : ∀ E_, frk inn_ cl_ ch_ n_ E_ → (∀ y_, y_ ∈ E_ → inn_ y_ = true ∧ T_ y_ ∧ y_ < n_ ∧ ∃ p_, (p_ = n_ ∨ p_ ∈ E_) ∧ (y_ = cl_ p_ ∨ y_ = ch_ p_)) ∧ (∀ z_, z_ ∈ frc cl_ ch_ n_ E_ ↔ (∃ p_, (p_ = n_ ∨ p_ ∈ E_) ∧ (z_ = cl_ p_ ∨ z_ = ch_ p_)) ∧ ¬ z_ ∈ E_)
  | [], _ => by
    refine ⟨fun y_ h_ => absurd h_ List.not_mem_nil, fun z_ => ?_⟩
    show z_ ∈ ins (cl_ n_) [ch_ n_] ↔ _
    rw [ins_m, List.mem_singleton]
    constructor
    · intro h_
      exact ⟨⟨n_, Or.inl rfl, h_⟩, List.not_mem_nil⟩
    · rintro ⟨⟨p_, hp_, h_⟩, _⟩
      rcases hp_ with e_ | e_
      · rw [e_] at h_
        exact h_
      · exact absurd e_ List.not_mem_nil
  | x_ :: E_, hk_ => by
    obtain ⟨k1_, k2_, k3_⟩ := hk_
    obtain ⟨a1_, a2_⟩ := frc_a ht_ E_ k1_
    obtain ⟨t0_, t1_, t2_⟩ := ht_
    have tp_ : ∀ p_, (p_ = n_ ∨ p_ ∈ E_) → T_ p_ ∧ p_ ≤ n_ := fun p_ hp_ => by
      rcases hp_ with e_ | e_
      · rw [e_]
        exact ⟨t0_, Nat.le_refl _⟩
      · exact ⟨(a1_ p_ e_).2.1, Nat.le_of_lt (a1_ p_ e_).2.2.1⟩
    obtain ⟨⟨q_, hq_, hxq_⟩, nx_⟩ := (a2_ x_).mp k2_
    obtain ⟨tq_, lq_⟩ := tp_ q_ hq_
    have sq_ := t1_ q_ tq_
    have tx_ : T_ x_ := by
      rcases hxq_ with e_ | e_
      · rw [e_]
        rw [e_] at k3_
        exact sq_.2.1 k3_
      · rw [e_]
        rw [e_] at k3_
        exact sq_.2.2 k3_
    have lx_ : x_ < n_ := by
      rcases hxq_ with e_ | e_
      · have := sq_.1.1
        omega
      · have := sq_.1.2.1
        omega
    have sx_ := t1_ x_ tx_
    refine ⟨fun y_ hy_ => ?_, fun z_ => ?_⟩
    · rcases List.mem_cons.mp hy_ with e_ | e_
      · rw [e_]
        refine ⟨k3_, tx_, lx_, q_, ?_, hxq_⟩
        rcases hq_ with u_ | u_
        · exact Or.inl u_
        · exact Or.inr (List.mem_cons_of_mem _ u_)
      · obtain ⟨b1_, b2_, b3_, p_, b4_, b5_⟩ := a1_ y_ e_
        refine ⟨b1_, b2_, b3_, p_, ?_, b5_⟩
        rcases b4_ with u_ | u_
        · exact Or.inl u_
        · exact Or.inr (List.mem_cons_of_mem _ u_)
    · show z_ ∈ ins (cl_ x_) (ins (ch_ x_) ((frc cl_ ch_ n_ E_).filter (fun y_ => y_ != x_))) ↔ _
      rw [ins_m, ins_m, List.mem_filter, bne_iff_ne, a2_ z_]
      have no_ : (z_ = cl_ x_ ∨ z_ = ch_ x_) → ¬ z_ ∈ x_ :: E_ := by
        intro h_ hz_
        rcases List.mem_cons.mp hz_ with e_ | e_
        · rcases h_ with u_ | u_
          · have := sx_.1.1
            omega
          · have := sx_.1.2.1
            omega
        · obtain ⟨b1_, b2_, b3_, p_, b4_, b5_⟩ := a1_ z_ e_
          have pe_ := t2_ x_ p_ z_ tx_ (tp_ p_ b4_).1 h_ b5_ b1_
          rcases b4_ with u_ | u_
          · omega
          · rw [← pe_] at u_
            exact nx_ u_
      constructor
      · rintro (h_ | h_ | ⟨⟨⟨p_, hp_, h_⟩, g_⟩, d_⟩)
        · exact ⟨⟨x_, Or.inr List.mem_cons_self, Or.inl h_⟩, no_ (Or.inl h_)⟩
        · exact ⟨⟨x_, Or.inr List.mem_cons_self, Or.inr h_⟩, no_ (Or.inr h_)⟩
        · refine ⟨⟨p_, ?_, h_⟩, fun u_ => ?_⟩
          · rcases hp_ with u_ | u_
            · exact Or.inl u_
            · exact Or.inr (List.mem_cons_of_mem _ u_)
          · rcases List.mem_cons.mp u_ with v_ | v_
            · exact d_ v_
            · exact g_ v_
      · rintro ⟨⟨p_, hp_, h_⟩, g_⟩
        by_cases e_ : p_ = x_
        · rw [e_] at h_
          rcases h_ with h_ | h_
          · exact Or.inl h_
          · exact Or.inr (Or.inl h_)
        · refine Or.inr (Or.inr ⟨⟨⟨p_, ?_, h_⟩, fun u_ => g_ (List.mem_cons_of_mem _ u_)⟩, fun u_ => g_ ?_⟩)
          · rcases hp_ with u_ | u_
            · exact Or.inl u_
            · rcases List.mem_cons.mp u_ with v_ | v_
              · exact absurd v_ e_
              · exact Or.inr v_
          · rw [u_]
            exact List.mem_cons_self
/-- what is_ gone through is_ told by the_ inner nodes of_ the_ cut_ -/
theorem frc_s (ht_ : trh inn_ cl_ ch_ n_ T_) {E'_ : List Nat} (hk'_ : frk inn_ cl_ ch_ n_ E'_) {c_ : List Nat} (hi_ : ∀ z_, z_ ∈ frc cl_ ch_ n_ E'_ → inn_ z_ = true → z_ ∈ c_) : ∀ E_, frk inn_ cl_ ch_ n_ E_ → (∀ z_, z_ ∈ E_ → ¬ z_ ∈ c_) → ∀ z_, z_ ∈ E_ → z_ ∈ E'_
  | [], _, _, z_, h_ => absurd h_ List.not_mem_nil
  | x_ :: E_, hk_, hn_, z_, h_ => by
    obtain ⟨k1_, k2_, k3_⟩ := hk_
    have ih_ := frc_s ht_ hk'_ hi_ E_ k1_ (fun z_ hz_ => hn_ z_ (List.mem_cons_of_mem _ hz_))
    rcases List.mem_cons.mp h_ with e_ | e_
    · rw [e_]
      obtain ⟨⟨p_, hp_, hx_⟩, _⟩ := ((frc_a ht_ E_ k1_).2 x_).mp k2_
      by_cases u_ : x_ ∈ E'_
      · exact u_
      · exfalso
        refine hn_ x_ List.mem_cons_self (hi_ x_ (((frc_a ht_ E'_ hk'_).2 x_).mpr ⟨⟨p_, ?_, hx_⟩, u_⟩) k3_)
        rcases hp_ with v_ | v_
        · exact Or.inl v_
        · exact Or.inr (ih_ p_ v_)
    · exact ih_ z_ e_
theorem frc_u (ht_ : trh inn_ cl_ ch_ n_ T_) {E_ E'_ : List Nat} (hk_ : frk inn_ cl_ ch_ n_ E_) (hk'_ : frk inn_ cl_ ch_ n_ E'_) (hi_ : ∀ z_, inn_ z_ = true → (z_ ∈ frc cl_ ch_ n_ E_ ↔ z_ ∈ frc cl_ ch_ n_ E'_)) : frc cl_ ch_ n_ E_ = frc cl_ ch_ n_ E'_ := by
  have a_ := frc_s ht_ hk'_ (c_ := frc cl_ ch_ n_ E_) (fun z_ hz_ g_ => (hi_ z_ g_).mpr hz_) E_ hk_ (fun z_ hz_ u_ => (((frc_a ht_ E_ hk_).2 z_).mp u_).2 hz_)
  have b_ := frc_s ht_ hk_ (c_ := frc cl_ ch_ n_ E'_) (fun z_ hz_ g_ => (hi_ z_ g_).mp hz_) E'_ hk'_ (fun z_ hz_ u_ => (((frc_a ht_ E'_ hk'_).2 z_).mp u_).2 hz_)
  refine ris_u (frc_r E_) (frc_r E'_) (fun z_ => ?_)
  rw [(frc_a ht_ E_ hk_).2 z_, (frc_a ht_ E'_ hk'_).2 z_]
  constructor
  · rintro ⟨⟨p_, hp_, h_⟩, g_⟩
    refine ⟨⟨p_, ?_, h_⟩, fun u_ => g_ (b_ z_ u_)⟩
    rcases hp_ with v_ | v_
    · exact Or.inl v_
    · exact Or.inr (a_ p_ v_)
  · rintro ⟨⟨p_, hp_, h_⟩, g_⟩
    refine ⟨⟨p_, ?_, h_⟩, fun u_ => g_ (a_ z_ u_)⟩
    rcases hp_ with v_ | v_
    · exact Or.inl v_
    · exact Or.inr (b_ p_ v_)
end FR_
end
/-! 99.ztZJ -/
section
/-! cuts: counting; written by wip/p55/gen/vg -/

/-! rows with each once -/
def nod1 : List Nat → Prop
  | [] => True
  | x_ :: l_ => ¬ x_ ∈ l_ ∧ nod1 l_
theorem nod1_f {p_ : Nat → Bool} : ∀ {l_ : List Nat}, nod1 l_ → nod1 (l_.filter p_)
  | [], _ => trivial
  | x_ :: l_, h_ => by
    have ih_ := nod1_f (p_ := p_) h_.2
    by_cases c_ : p_ x_ = true
    · rw [List.filter_cons_of_pos c_]
      exact ⟨fun u_ => h_.1 (List.mem_filter.mp u_).1, ih_⟩
    · rw [List.filter_cons_of_neg c_]
      exact ih_
theorem fil_o {a_ : Nat} : ∀ {l_ : List Nat}, ¬ a_ ∈ l_ → (l_.filter (fun y_ => y_ != a_)).length = l_.length
  | [], _ => rfl
  | x_ :: l_, h_ => by
    have n_ : x_ ≠ a_ := fun e_ => h_ (e_ ▸ List.mem_cons_self)
    have ih_ := fil_o (a_ := a_) (l_ := l_) (fun u_ => h_ (List.mem_cons_of_mem _ u_))
    rw [List.filter_cons_of_pos (p := fun y_ => y_ != a_) (bne_iff_ne.mpr n_), List.length_cons, List.length_cons, ih_]
theorem fil_1 {a_ : Nat} : ∀ {l_ : List Nat}, nod1 l_ → l_.length ≤ (l_.filter (fun y_ => y_ != a_)).length + 1
  | [], _ => Nat.zero_le _
  | x_ :: l_, h_ => by
    by_cases e_ : x_ = a_
    · have n_ : ¬ a_ ∈ l_ := fun u_ => h_.1 (by rw [e_]; exact u_)
      have w_ := fil_o n_
      have c_ : ¬ ((x_ != a_) = true) := fun u_ => (bne_iff_ne.mp u_) e_
      rw [List.filter_cons_of_neg (p := fun y_ => y_ != a_) c_, List.length_cons, w_]
      exact Nat.le_refl _
    · have ih_ := fil_1 (a_ := a_) h_.2
      rw [List.filter_cons_of_pos (p := fun y_ => y_ != a_) (bne_iff_ne.mpr e_), List.length_cons, List.length_cons]
      omega
theorem nod1_le : ∀ (N_ : Nat) (l_ : List Nat), nod1 l_ → (∀ x_, x_ ∈ l_ → x_ < N_) → l_.length ≤ N_
  | 0, [], _, _ => Nat.le_refl _
  | 0, x_ :: l_, _, h_ => absurd (h_ x_ List.mem_cons_self) (Nat.not_lt_zero _)
  | N_ + 1, l_, h_, g_ => by
    have a_ := nod1_le N_ (l_.filter (fun y_ => y_ != N_)) (nod1_f h_) (fun x_ hx_ => by
      obtain ⟨u_, v_⟩ := List.mem_filter.mp hx_
      have v_ := bne_iff_ne.mp v_
      have w_ := g_ x_ u_
      omega)
    have b_ := fil_1 (a_ := N_) h_
    omega
theorem nod1_m {g_ : Nat → Nat} : ∀ {l_ : List Nat}, nod1 l_ → (∀ x_ y_, x_ ∈ l_ → y_ ∈ l_ → g_ x_ = g_ y_ → x_ = y_) → nod1 (l_.map g_)
  | [], _, _ => trivial
  | x_ :: l_, h_, i_ => by
    refine ⟨fun u_ => ?_, nod1_m h_.2 (fun a_ b_ ha_ hb_ e_ => i_ a_ b_ (List.mem_cons_of_mem _ ha_) (List.mem_cons_of_mem _ hb_) e_)⟩
    obtain ⟨y_, hy_, e_⟩ := List.mem_map.mp u_
    have w_ := i_ y_ x_ (List.mem_cons_of_mem _ hy_) List.mem_cons_self e_
    exact h_.1 (w_ ▸ hy_)
/-- as_ many as_ there are_ keys, at most -/
theorem nod1_k {g_ : Nat → Nat} {l_ : List Nat} {N_ : Nat} (h_ : nod1 l_) (i_ : ∀ x_ y_, x_ ∈ l_ → y_ ∈ l_ → g_ x_ = g_ y_ → x_ = y_) (b_ : ∀ x_, x_ ∈ l_ → g_ x_ < N_) : l_.length ≤ N_ := by
  have w_ := nod1_le N_ (l_.map g_) (nod1_m h_ i_) (fun x_ hx_ => by
    obtain ⟨y_, hy_, e_⟩ := List.mem_map.mp hx_
    rw [← e_]
    exact b_ y_ hy_)
  rw [List.length_map] at w_
  exact w_
theorem frk_d {inn_ : Nat → Bool} {cl_ ch_ : Nat → Nat} {n_ : Nat} {T_ : Nat → Prop} (ht_ : trh inn_ cl_ ch_ n_ T_) : ∀ E_, frk inn_ cl_ ch_ n_ E_ → nod1 E_
  | [], _ => trivial
  | x_ :: E_, h_ => ⟨(((frc_a ht_ E_ h_.1).2 x_).mp h_.2.1).2, frk_d ht_ E_ h_.1⟩
end
/-! 99.ztZK -/
section
/-! cuts of inner nodes alone; written by wip/p55/gen/vg -/

/-! cuts of_ inner nodes alone -/
theorem ins_ln {x_ : Nat} : ∀ {l_ : List Nat}, ¬ x_ ∈ l_ → (ins x_ l_).length = l_.length + 1
  | [], _ => rfl
  | y_ :: l_, h_ => by
    have n_ : x_ ≠ y_ := fun e_ => h_ (by
      rw [e_]
      exact List.mem_cons_self)
    have ih_ := ins_ln (x_ := x_) (l_ := l_) (fun u_ => h_ (List.mem_cons_of_mem _ u_))
    rw [ins_c]
    split
    · rfl
    · try rw [if_neg n_]
      show (ins x_ l_).length + 1 = l_.length + 1 + 1
      rw [ih_]
theorem ris_n : ∀ {l_ : List Nat}, ris l_ → nod1 l_
  | [], _ => trivial
  | y_ :: l_, h_ => ⟨fun u_ => Nat.lt_irrefl _ (h_.1 y_ u_), ris_n h_.2⟩
theorem frc_l {inn_ : Nat → Bool} {cl_ ch_ : Nat → Nat} {n_ : Nat} {T_ : Nat → Prop} (ht_ : trh inn_ cl_ ch_ n_ T_) : ∀ E_, frk inn_ cl_ ch_ n_ E_ → (∀ z_, z_ ∈ frc cl_ ch_ n_ E_ → inn_ z_ = true) → E_.length + 2 ≤ (frc cl_ ch_ n_ E_).length
  | [], _, _ => by
    show 2 ≤ (ins (cl_ n_) [ch_ n_]).length
    rw [ins_ln (fun u_ => (ht_.2.1 n_ ht_.1).1.2.2 (List.mem_singleton.mp u_))]
    exact Nat.le_refl _
  | x_ :: E_, hk_, hi_ => by
    have b_ := (frc_a ht_ (x_ :: E_) hk_).1 x_ List.mem_cons_self
    obtain ⟨k1_, k2_, k3_⟩ := hk_
    have a_ := frc_a ht_ E_ k1_
    have mm_ : ∀ z_, z_ ∈ frc cl_ ch_ n_ (x_ :: E_) ↔ z_ = cl_ x_ ∨ z_ = ch_ x_ ∨ (z_ ∈ frc cl_ ch_ n_ E_ ∧ z_ ≠ x_) := by
      intro z_
      show z_ ∈ ins (cl_ x_) (ins (ch_ x_) ((frc cl_ ch_ n_ E_).filter (fun y_ => y_ != x_))) ↔ _
      rw [ins_m, ins_m, List.mem_filter, bne_iff_ne]
    have ih_ := frc_l ht_ E_ k1_ (fun z_ hz_ => by
      by_cases e_ : z_ = x_
      · rw [e_]
        exact k3_
      · exact hi_ z_ ((mm_ z_).mpr (Or.inr (Or.inr ⟨hz_, e_⟩))))
    have il_ := hi_ (cl_ x_) ((mm_ _).mpr (Or.inl rfl))
    have ir_ := hi_ (ch_ x_) ((mm_ _).mpr (Or.inr (Or.inl rfl)))
    have nx_ := ((a_.2 x_).mp k2_).2
    have no_ : ∀ z_, (z_ = cl_ x_ ∨ z_ = ch_ x_) → inn_ z_ = true → ¬ z_ ∈ frc cl_ ch_ n_ E_ := by
      intro z_ h_ g_ u_
      obtain ⟨⟨p_, hp_, hs_⟩, _⟩ := (a_.2 z_).mp u_
      have tp_ : T_ p_ := by
        rcases hp_ with e_ | e_
        · rw [e_]
          exact ht_.1
        · exact (a_.1 p_ e_).2.1
      have pe_ := ht_.2.2 x_ p_ z_ b_.2.1 tp_ h_ hs_ g_
      rcases hp_ with e_ | e_
      · have lx_ := b_.2.2.1
        omega
      · rw [← pe_] at e_
        exact nx_ e_
    have f1_ := fil_1 (a_ := x_) (ris_n (frc_r (cl_ := cl_) (ch_ := ch_) (n_ := n_) E_))
    have n1_ : ¬ ch_ x_ ∈ (frc cl_ ch_ n_ E_).filter (fun y_ => y_ != x_) := fun u_ => no_ _ (Or.inr rfl) ir_ (List.mem_filter.mp u_).1
    have n2_ : ¬ cl_ x_ ∈ ins (ch_ x_) ((frc cl_ ch_ n_ E_).filter (fun y_ => y_ != x_)) := fun u_ => by
      rcases ins_m.mp u_ with e_ | e_
      · exact (ht_.2.1 x_ b_.2.1).1.2.2 e_
      · exact no_ _ (Or.inl rfl) il_ (List.mem_filter.mp e_).1
    show E_.length + 1 + 2 ≤ (ins (cl_ x_) (ins (ch_ x_) ((frc cl_ ch_ n_ E_).filter (fun y_ => y_ != x_)))).length
    rw [ins_ln n2_, ins_ln n1_]
    omega
end
/-! 99.ztZL -/
section
/-! cuts: chains, rows, the inner nodes of a cut from above; written by wip/p55/gen/vg -/

/-! least and greatest -/
theorem nat_min {p_ : Nat → Prop} : ∀ N_ n_, n_ < N_ → p_ n_ → ∃ m_, p_ m_ ∧ ∀ k_, p_ k_ → m_ ≤ k_
  | 0, n_, h_, _ => absurd h_ (Nat.not_lt_zero _)
  | N_ + 1, n_, h_, hp_ => by
    by_cases c_ : ∃ k_, p_ k_ ∧ k_ < n_
    · obtain ⟨k_, h1_, h2_⟩ := c_
      exact nat_min N_ k_ (by omega) h1_
    · refine ⟨n_, hp_, fun k_ hk_ => ?_⟩
      by_cases d_ : n_ ≤ k_
      · exact d_
      · exact absurd ⟨k_, hk_, by omega⟩ c_
theorem nat_max {p_ : Nat → Prop} {B_ : Nat} (hB_ : ∀ k_, p_ k_ → k_ ≤ B_) : ∀ N_ n_, B_ < n_ + N_ → p_ n_ → ∃ m_, p_ m_ ∧ ∀ k_, p_ k_ → k_ ≤ m_
  | 0, n_, h_, hp_ => ⟨n_, hp_, fun k_ hk_ => by
      have := hB_ k_ hk_
      omega⟩
  | N_ + 1, n_, h_, hp_ => by
    by_cases c_ : ∃ k_, p_ k_ ∧ n_ < k_
    · obtain ⟨k_, h1_, h2_⟩ := c_
      exact nat_max hB_ N_ k_ (by omega) h1_
    · refine ⟨n_, hp_, fun k_ hk_ => ?_⟩
      by_cases d_ : k_ ≤ n_
      · exact d_
      · exact absurd ⟨k_, hk_, by omega⟩ c_
/-! a_ chain: each but_ the_ least has_ a_ child in it_, and no_ two_ have the_ same -/
section BT_
variable {cl_ ch_ : Nat → Nat} {S_ : Nat → Prop} {w_ : Nat}
theorem btw_w (hS_ : ∀ x_, S_ x_ → x_ ≠ w_ → ∃ y_, (y_ = cl_ x_ ∨ y_ = ch_ x_) ∧ S_ y_ ∧ y_ < x_) : ∀ m_ x_, x_ < m_ → S_ x_ → w_ ≤ x_
  | 0, x_, h_, _ => absurd h_ (Nat.not_lt_zero _)
  | m_ + 1, x_, h_, sx_ => by
    by_cases c_ : x_ = w_
    · omega
    · obtain ⟨y_, _, sy_, ly_⟩ := hS_ x_ sx_ c_
      have := btw_w hS_ m_ y_ (by omega) sy_
      omega
theorem btw (hS_ : ∀ x_, S_ x_ → x_ ≠ w_ → ∃ y_, (y_ = cl_ x_ ∨ y_ = ch_ x_) ∧ S_ y_ ∧ y_ < x_) (hu_ : ∀ x_ y_ z_, S_ x_ → S_ y_ → x_ ≠ w_ → y_ ≠ w_ → (z_ = cl_ x_ ∨ z_ = ch_ x_) → (z_ = cl_ y_ ∨ z_ = ch_ y_) → S_ z_ → x_ = y_) : ∀ m_ y_, y_ < m_ → S_ y_ → y_ ≠ w_ → ∀ u_, (u_ = cl_ y_ ∨ u_ = ch_ y_) → S_ u_ → ∀ k_ x_, x_ < k_ → S_ x_ → u_ < x_ → x_ < y_ → False
  | 0, y_, h_, _, _, _, _, _, _, _, _, _, _, _ => absurd h_ (Nat.not_lt_zero _)
  | m_ + 1, y_, hy_, sy_, ny_, u_, cu_, s1_, k_, x_, hx_, sx_, l1_, l2_ => by
    induction k_ generalizing x_ with
    | zero => exact absurd hx_ (Nat.not_lt_zero _)
    | succ k_ ih_ =>
      have l3_ := btw_w hS_ (u_ + 1) u_ (Nat.lt_succ_self _) s1_
      have wx_ : x_ ≠ w_ := by omega
      obtain ⟨v_, cv_, sv_, lv_⟩ := hS_ x_ sx_ wx_
      rcases Nat.lt_trichotomy v_ u_ with g_ | g_ | g_
      · exact btw hS_ hu_ m_ x_ (by omega) sx_ wx_ v_ cv_ sv_ (u_ + 1) u_ (Nat.lt_succ_self _) s1_ g_ l1_
      · have := hu_ x_ y_ u_ sx_ sy_ wx_ ny_ (by rw [← g_]; exact cv_) cu_ s1_
        omega
      · exact ih_ v_ (by omega) sv_ g_ (by omega)
theorem btw_2 (hS_ : ∀ x_, S_ x_ → x_ ≠ w_ → ∃ y_, (y_ = cl_ x_ ∨ y_ = ch_ x_) ∧ S_ y_ ∧ y_ < x_) (hu_ : ∀ x_ y_ z_, S_ x_ → S_ y_ → x_ ≠ w_ → y_ ≠ w_ → (z_ = cl_ x_ ∨ z_ = ch_ x_) → (z_ = cl_ y_ ∨ z_ = ch_ y_) → S_ z_ → x_ = y_) (hl_ : ∀ x_, S_ x_ → x_ ≠ w_ → cl_ x_ < x_ ∧ ch_ x_ < x_) {y_ : Nat} (sy_ : S_ y_) (ny_ : y_ ≠ w_) (h1_ : S_ (cl_ y_)) (h2_ : S_ (ch_ y_)) : cl_ y_ = ch_ y_ := by
  have l_ := hl_ y_ sy_ ny_
  rcases Nat.lt_trichotomy (cl_ y_) (ch_ y_) with g_ | g_ | g_
  · exact (btw hS_ hu_ (y_ + 1) y_ (Nat.lt_succ_self _) sy_ ny_ (cl_ y_) (Or.inl rfl) h1_ (ch_ y_ + 1) (ch_ y_) (Nat.lt_succ_self _) h2_ g_ l_.2).elim
  · exact g_
  · exact (btw hS_ hu_ (y_ + 1) y_ (Nat.lt_succ_self _) sy_ ny_ (ch_ y_) (Or.inr rfl) h2_ (cl_ y_ + 1) (cl_ y_) (Nat.lt_succ_self _) h1_ g_ l_.1).elim
theorem btw_c {D_ : Nat → Nat → Prop} (hS_ : ∀ x_, S_ x_ → x_ ≠ w_ → ∃ y_, (y_ = cl_ x_ ∨ y_ = ch_ x_) ∧ S_ y_ ∧ y_ < x_) (hu_ : ∀ x_ y_ z_, S_ x_ → S_ y_ → x_ ≠ w_ → y_ ≠ w_ → (z_ = cl_ x_ ∨ z_ = ch_ x_) → (z_ = cl_ y_ ∨ z_ = ch_ y_) → S_ z_ → x_ = y_) (hD_ : ∀ y_, S_ y_ → y_ ≠ w_ → ∃ u_, (u_ = cl_ y_ ∨ u_ = ch_ y_) ∧ S_ u_ ∧ u_ < y_ ∧ ∀ q_, D_ y_ q_ → D_ u_ q_) : ∀ m_ y_, y_ < m_ → S_ y_ → ∀ x_, S_ x_ → x_ ≤ y_ → ∀ q_, D_ y_ q_ → D_ x_ q_
  | 0, y_, h_, _, _, _, _, _, _ => absurd h_ (Nat.not_lt_zero _)
  | m_ + 1, y_, hy_, sy_, x_, sx_, lx_, q_, d_ => by
    by_cases e_ : x_ = y_
    · rw [e_]
      exact d_
    · have lw_ := btw_w hS_ (x_ + 1) x_ (Nat.lt_succ_self _) sx_
      have ny_ : y_ ≠ w_ := by omega
      obtain ⟨u_, cu_, s1_, lu_, hd_⟩ := hD_ y_ sy_ ny_
      have xu_ : x_ ≤ u_ := by
        by_cases g_ : x_ ≤ u_
        · exact g_
        · exact (btw hS_ hu_ (y_ + 1) y_ (Nat.lt_succ_self _) sy_ ny_ u_ cu_ s1_ (x_ + 1) x_ (Nat.lt_succ_self _) sx_ (by omega) (by omega)).elim
      exact btw_c hS_ hu_ hD_ m_ u_ (by omega) s1_ x_ sx_ xu_ q_ (hd_ q_ d_)
end BT_
/-! rows -/
theorem nod1_a : ∀ {l_ m_ : List Nat}, nod1 l_ → nod1 m_ → (∀ z_, z_ ∈ l_ → ¬ z_ ∈ m_) → nod1 (l_ ++ m_)
  | [], m_, _, h_, _ => h_
  | x_ :: l_, m_, h_, g_, d_ => ⟨fun u_ => by
      rcases List.mem_append.mp u_ with u_ | u_
      · exact h_.1 u_
      · exact d_ x_ List.mem_cons_self u_, nod1_a h_.2 g_ (fun z_ hz_ => d_ z_ (List.mem_cons_of_mem _ hz_))⟩
theorem nod1_s : ∀ (m_ l_ : List Nat), nod1 l_ → (∀ x_, x_ ∈ l_ → x_ ∈ m_) → l_.length ≤ m_.length
  | [], [], _, _ => Nat.le_refl _
  | [], x_ :: l_, _, h_ => absurd (h_ x_ List.mem_cons_self) List.not_mem_nil
  | y_ :: m_, l_, h_, g_ => by
    have a_ := nod1_s m_ (l_.filter (fun z_ => z_ != y_)) (nod1_f h_) (fun x_ hx_ => by
      obtain ⟨u_, v_⟩ := List.mem_filter.mp hx_
      have v_ := bne_iff_ne.mp v_
      rcases List.mem_cons.mp (g_ x_ u_) with e_ | e_
      · exact absurd e_ v_
      · exact e_)
    have b_ := fil_1 (a_ := y_) h_
    rw [List.length_cons]
    omega
theorem fil_i {a_ : Nat} : ∀ {l_ : List Nat}, a_ ∈ l_ → (l_.filter (fun y_ => y_ != a_)).length < l_.length
  | [], h_ => absurd h_ List.not_mem_nil
  | x_ :: l_, h_ => by
    by_cases e_ : x_ = a_
    · have c_ : ¬ ((x_ != a_) = true) := fun u_ => (bne_iff_ne.mp u_) e_
      rw [List.filter_cons_of_neg (p := fun y_ => y_ != a_) c_, List.length_cons]
      have := List.length_filter_le (fun y_ => y_ != a_) l_
      omega
    · have m_ : a_ ∈ l_ := by
        rcases List.mem_cons.mp h_ with u_ | u_
        · exact absurd u_.symm e_
        · exact u_
      have ih_ := fil_i m_
      rw [List.filter_cons_of_pos (p := fun y_ => y_ != a_) (bne_iff_ne.mpr e_), List.length_cons, List.length_cons]
      omega
def nodl : List (List Nat) → Prop
  | [] => True
  | x_ :: l_ => ¬ x_ ∈ l_ ∧ nodl l_
theorem nodl_e : ∀ {l_ : List (List Nat)} {c_ : List Nat}, nodl l_ → ¬ c_ ∈ l_ → nodl (l_ ++ [c_])
  | [], c_, _, _ => ⟨List.not_mem_nil, trivial⟩
  | x_ :: l_, c_, h_, g_ => ⟨fun u_ => by
      rcases List.mem_append.mp u_ with u_ | u_
      · exact h_.1 u_
      · have e_ := List.mem_singleton.mp u_
        exact g_ (by
          rw [e_]
          exact List.mem_cons_self), nodl_e h_.2 (fun u_ => g_ (List.mem_cons_of_mem _ u_))⟩
theorem nodl_k {Q_ : List Nat → Nat → Prop} {N_ : Nat} (hu_ : ∀ c_ d_ k_, Q_ c_ k_ → Q_ d_ k_ → c_ = d_) : ∀ (l_ : List (List Nat)), nodl l_ → (∀ c_, c_ ∈ l_ → ∃ k_, k_ < N_ ∧ Q_ c_ k_) → ∃ ks_ : List Nat, nod1 ks_ ∧ ks_.length = l_.length ∧ ∀ k_, k_ ∈ ks_ → k_ < N_ ∧ ∃ c_, c_ ∈ l_ ∧ Q_ c_ k_
  | [], _, _ => ⟨[], trivial, rfl, fun k_ h_ => absurd h_ List.not_mem_nil⟩
  | c_ :: l_, h_, g_ => by
    obtain ⟨ks_, k1_, k2_, k3_⟩ := nodl_k hu_ l_ h_.2 (fun d_ hd_ => g_ d_ (List.mem_cons_of_mem _ hd_))
    obtain ⟨k_, b_, q_⟩ := g_ c_ List.mem_cons_self
    refine ⟨k_ :: ks_, ⟨fun u_ => ?_, k1_⟩, ?_, fun j_ hj_ => ?_⟩
    · obtain ⟨d_, hd_, qd_⟩ := (k3_ k_ u_).2
      have e_ := hu_ c_ d_ k_ q_ qd_
      exact h_.1 (by
        rw [e_]
        exact hd_)
    · rw [List.length_cons, List.length_cons, k2_]
    · rcases List.mem_cons.mp hj_ with e_ | e_
      · rw [e_]
        exact ⟨b_, c_, List.mem_cons_self, q_⟩
      · obtain ⟨b2_, d_, hd_, qd_⟩ := k3_ j_ e_
        exact ⟨b2_, d_, List.mem_cons_of_mem _ hd_, qd_⟩
theorem nodl_n {Q_ : List Nat → Nat → Prop} {N_ : Nat} (hu_ : ∀ c_ d_ k_, Q_ c_ k_ → Q_ d_ k_ → c_ = d_) {l_ : List (List Nat)} (h_ : nodl l_) (g_ : ∀ c_, c_ ∈ l_ → ∃ k_, k_ < N_ ∧ Q_ c_ k_) : l_.length ≤ N_ := by
  obtain ⟨ks_, k1_, k2_, k3_⟩ := nodl_k hu_ l_ h_ g_
  rw [← k2_]
  exact nod1_le N_ ks_ k1_ (fun k_ hk_ => (k3_ k_ hk_).1)
theorem crn_nd {inn_ : Nat → Bool} {cl_ ch_ : Nat → Nat} {n_ : Nat} : ∀ m_, nodl (crn inn_ cl_ ch_ n_ m_)
  | 0 => ⟨List.not_mem_nil, trivial⟩
  | m_ + 1 => by
    have ih_ := crn_nd (inn_ := inn_) (cl_ := cl_) (ch_ := ch_) (n_ := n_) m_
    show nodl (ctst inn_ cl_ ch_ (crn inn_ cl_ ch_ n_ m_) (m_ / 3) (m_ % 3))
    obtain ⟨o_, ho_⟩ : ∃ o_, (crn inn_ cl_ ch_ n_ m_)[m_ / 3]? = o_ := ⟨_, rfl⟩
    rcases o_ with _ | d_
    · rw [ctst_n ho_]
      exact ih_
    · obtain ⟨o2_, h2_⟩ : ∃ o2_, d_[m_ % 3]? = o2_ := ⟨_, rfl⟩
      rcases o2_ with _ | x_
      · rw [ctst_m ho_ h2_]
        exact ih_
      · rw [ctst_s ho_ h2_]
        split
        · rename_i u_
          exact nodl_e ih_ u_.2.2
        · exact ih_
/-! the_ inner nodes of_ a_ cut_, from above -/
def frx (inn_ : Nat → Bool) (cl_ ch_ : Nat → Nat) (A_ : List Nat) : Nat → Nat → List Nat
  | 0, _ => []
  | f_ + 1, x_ => if x_ ∈ A_ then frx inn_ cl_ ch_ A_ f_ (cl_ x_) ++ frx inn_ cl_ ch_ A_ f_ (ch_ x_) else if inn_ x_ = true then [x_] else []
def frg (inn_ : Nat → Bool) (cl_ ch_ : Nat → Nat) (A_ : List Nat) (x_ : Nat) : List Nat := frx inn_ cl_ ch_ A_ (x_ + 1) x_
section FG_
variable {inn_ : Nat → Bool} {cl_ ch_ : Nat → Nat} {A_ : List Nat}
theorem frx_f (hA_ : ∀ y_, y_ ∈ A_ → cl_ y_ < y_ ∧ ch_ y_ < y_) : ∀ f_ g_ x_, x_ < f_ → x_ < g_ → frx inn_ cl_ ch_ A_ f_ x_ = frx inn_ cl_ ch_ A_ g_ x_
  | 0, g_, x_, h_, _ => absurd h_ (Nat.not_lt_zero _)
  | f_ + 1, 0, x_, _, h_ => absurd h_ (Nat.not_lt_zero _)
  | f_ + 1, g_ + 1, x_, h1_, h2_ => by
    show (if x_ ∈ A_ then frx inn_ cl_ ch_ A_ f_ (cl_ x_) ++ frx inn_ cl_ ch_ A_ f_ (ch_ x_) else if inn_ x_ = true then [x_] else []) = (if x_ ∈ A_ then frx inn_ cl_ ch_ A_ g_ (cl_ x_) ++ frx inn_ cl_ ch_ A_ g_ (ch_ x_) else if inn_ x_ = true then [x_] else [])
    by_cases e_ : x_ ∈ A_
    · have l_ := hA_ x_ e_
      rw [if_pos e_, if_pos e_, frx_f hA_ f_ g_ (cl_ x_) (by omega) (by omega), frx_f hA_ f_ g_ (ch_ x_) (by omega) (by omega)]
    · rw [if_neg e_, if_neg e_]
theorem frg_p (hA_ : ∀ y_, y_ ∈ A_ → cl_ y_ < y_ ∧ ch_ y_ < y_) {x_ : Nat} (e_ : x_ ∈ A_) : frg inn_ cl_ ch_ A_ x_ = frg inn_ cl_ ch_ A_ (cl_ x_) ++ frg inn_ cl_ ch_ A_ (ch_ x_) := by
  have l_ := hA_ x_ e_
  show (if x_ ∈ A_ then frx inn_ cl_ ch_ A_ x_ (cl_ x_) ++ frx inn_ cl_ ch_ A_ x_ (ch_ x_) else if inn_ x_ = true then [x_] else []) = frx inn_ cl_ ch_ A_ (cl_ x_ + 1) (cl_ x_) ++ frx inn_ cl_ ch_ A_ (ch_ x_ + 1) (ch_ x_)
  rw [if_pos e_, frx_f hA_ x_ (cl_ x_ + 1) (cl_ x_) (by omega) (by omega), frx_f hA_ x_ (ch_ x_ + 1) (ch_ x_) (by omega) (by omega)]
theorem frg_i {x_ : Nat} (e_ : ¬ x_ ∈ A_) (h_ : inn_ x_ = true) : frg inn_ cl_ ch_ A_ x_ = [x_] := by
  show (if x_ ∈ A_ then frx inn_ cl_ ch_ A_ x_ (cl_ x_) ++ frx inn_ cl_ ch_ A_ x_ (ch_ x_) else if inn_ x_ = true then [x_] else []) = [x_]
  rw [if_neg e_, if_pos h_]
theorem frg_o {x_ : Nat} (e_ : ¬ x_ ∈ A_) (h_ : ¬ inn_ x_ = true) : frg inn_ cl_ ch_ A_ x_ = [] := by
  show (if x_ ∈ A_ then frx inn_ cl_ ch_ A_ x_ (cl_ x_) ++ frx inn_ cl_ ch_ A_ x_ (ch_ x_) else if inn_ x_ = true then [x_] else []) = []
  rw [if_neg e_, if_neg h_]
theorem frg_n (hA_ : ∀ y_, y_ ∈ A_ → cl_ y_ < y_ ∧ ch_ y_ < y_) : ∀ m_ x_, x_ < m_ → ∀ z_, z_ ∈ frg inn_ cl_ ch_ A_ x_ → inn_ z_ = true ∧ ¬ z_ ∈ A_
  | 0, x_, h_, _, _ => absurd h_ (Nat.not_lt_zero _)
  | m_ + 1, x_, hx_, z_, hz_ => by
    by_cases e_ : x_ ∈ A_
    · have l_ := hA_ x_ e_
      rw [frg_p hA_ e_] at hz_
      rcases List.mem_append.mp hz_ with u_ | u_
      · exact frg_n hA_ m_ (cl_ x_) (by omega) z_ u_
      · exact frg_n hA_ m_ (ch_ x_) (by omega) z_ u_
    · by_cases i_ : inn_ x_ = true
      · rw [frg_i e_ i_] at hz_
        rw [List.mem_singleton.mp hz_]
        exact ⟨i_, e_⟩
      · rw [frg_o e_ i_] at hz_
        exact absurd hz_ List.not_mem_nil
end FG_
section FH_
variable {inn_ : Nat → Bool} {cl_ ch_ : Nat → Nat} {n_ : Nat} {T_ : Nat → Prop} {E_ : List Nat}
/-- what is_ gone through -/
theorem fra (ht_ : trh inn_ cl_ ch_ n_ T_) (hk_ : frk inn_ cl_ ch_ n_ E_) : (∀ y_, y_ ∈ n_ :: E_ → T_ y_ ∧ y_ ≤ n_ ∧ cl_ y_ < y_ ∧ ch_ y_ < y_ ∧ cl_ y_ ≠ ch_ y_) ∧ (∀ y_, y_ ∈ n_ :: E_ → y_ ≠ n_ → inn_ y_ = true) := by
  have a_ := (frc_a ht_ E_ hk_).1
  refine ⟨fun y_ hy_ => ?_, fun y_ hy_ e_ => ?_⟩
  · rcases List.mem_cons.mp hy_ with e_ | e_
    · rw [e_]
      have s_ := ht_.2.1 n_ ht_.1
      exact ⟨ht_.1, Nat.le_refl _, s_.1.1, s_.1.2.1, s_.1.2.2⟩
    · have b_ := a_ y_ e_
      have s_ := ht_.2.1 y_ b_.2.1
      exact ⟨b_.2.1, Nat.le_of_lt b_.2.2.1, s_.1.1, s_.1.2.1, s_.1.2.2⟩
  · rcases List.mem_cons.mp hy_ with u_ | u_
    · exact absurd u_ e_
    · exact (a_ y_ u_).1
theorem fra_l (ht_ : trh inn_ cl_ ch_ n_ T_) (hk_ : frk inn_ cl_ ch_ n_ E_) : ∀ y_, y_ ∈ n_ :: E_ → cl_ y_ < y_ ∧ ch_ y_ < y_ := fun y_ hy_ => ⟨((fra ht_ hk_).1 y_ hy_).2.2.1, ((fra ht_ hk_).1 y_ hy_).2.2.2.1⟩
/-- a_ side of_ one_ gone through is_ gone through, or of_ the_ cut_ -/
theorem fra_s (ht_ : trh inn_ cl_ ch_ n_ T_) (hk_ : frk inn_ cl_ ch_ n_ E_) {x_ z_ : Nat} (hx_ : x_ ∈ n_ :: E_) (hz_ : z_ = cl_ x_ ∨ z_ = ch_ x_) : z_ < x_ ∧ z_ ≠ n_ ∧ (z_ ∈ n_ :: E_ ∨ (z_ ∈ frc cl_ ch_ n_ E_ ∧ ¬ z_ ∈ n_ :: E_)) := by
  have f_ := (fra ht_ hk_).1 x_ hx_
  have lz : z_ < x_ := by
    rcases hz_ with e_ | e_
    · rw [e_]
      exact f_.2.2.1
    · rw [e_]
      exact f_.2.2.2.1
  refine ⟨lz, by omega, ?_⟩
  by_cases u_ : z_ ∈ n_ :: E_
  · exact Or.inl u_
  · exact Or.inr ⟨((frc_a ht_ E_ hk_).2 z_).mpr ⟨⟨x_, List.mem_cons.mp hx_, hz_⟩, fun v_ => u_ (List.mem_cons_of_mem _ v_)⟩, u_⟩
theorem frg_hS (ht_ : trh inn_ cl_ ch_ n_ T_) (hk_ : frk inn_ cl_ ch_ n_ E_) {z_ : Nat} : ∀ x_, z_ ∈ frg inn_ cl_ ch_ (n_ :: E_) x_ → x_ ≠ z_ → x_ ∈ n_ :: E_ ∧ ∃ y_, (y_ = cl_ x_ ∨ y_ = ch_ x_) ∧ z_ ∈ frg inn_ cl_ ch_ (n_ :: E_) y_ ∧ y_ < x_ := by
  intro x_ hz_ nx_
  by_cases e_ : x_ ∈ n_ :: E_
  · have l_ := fra_l ht_ hk_ x_ e_
    rw [frg_p (fra_l ht_ hk_) e_] at hz_
    rcases List.mem_append.mp hz_ with u_ | u_
    · exact ⟨e_, cl_ x_, Or.inl rfl, u_, l_.1⟩
    · exact ⟨e_, ch_ x_, Or.inr rfl, u_, l_.2⟩
  · exfalso
    by_cases i_ : inn_ x_ = true
    · rw [frg_i e_ i_] at hz_
      exact nx_ (List.mem_singleton.mp hz_).symm
    · rw [frg_o e_ i_] at hz_
      exact absurd hz_ List.not_mem_nil
theorem frg_hu (ht_ : trh inn_ cl_ ch_ n_ T_) (hk_ : frk inn_ cl_ ch_ n_ E_) {z_ : Nat} : ∀ x_ y_ u_, z_ ∈ frg inn_ cl_ ch_ (n_ :: E_) x_ → z_ ∈ frg inn_ cl_ ch_ (n_ :: E_) y_ → x_ ≠ z_ → y_ ≠ z_ → (u_ = cl_ x_ ∨ u_ = ch_ x_) → (u_ = cl_ y_ ∨ u_ = ch_ y_) → z_ ∈ frg inn_ cl_ ch_ (n_ :: E_) u_ → x_ = y_ := by
  intro x_ y_ u_ hx_ hy_ nx_ ny_ cx_ cy_ hu_
  have ax_ := (frg_hS ht_ hk_ x_ hx_ nx_).1
  have ay_ := (frg_hS ht_ hk_ y_ hy_ ny_).1
  have iu_ : inn_ u_ = true := by
    by_cases e_ : u_ ∈ n_ :: E_
    · exact (fra ht_ hk_).2 u_ e_ (fra_s ht_ hk_ ax_ cx_).2.1
    · by_cases i_ : inn_ u_ = true
      · exact i_
      · rw [frg_o e_ i_] at hu_
        exact absurd hu_ List.not_mem_nil
  exact ht_.2.2 x_ y_ u_ ((fra ht_ hk_).1 x_ ax_).1 ((fra ht_ hk_).1 y_ ay_).1 cx_ cy_ iu_
theorem frg_d (ht_ : trh inn_ cl_ ch_ n_ T_) (hk_ : frk inn_ cl_ ch_ n_ E_) {x_ z_ : Nat} (hx_ : x_ ∈ n_ :: E_) (h1_ : z_ ∈ frg inn_ cl_ ch_ (n_ :: E_) (cl_ x_)) (h2_ : z_ ∈ frg inn_ cl_ ch_ (n_ :: E_) (ch_ x_)) : False := by
  have f_ := (fra ht_ hk_).1 x_ hx_
  have nz := (frg_n (fra_l ht_ hk_) (cl_ x_ + 1) (cl_ x_) (Nat.lt_succ_self _) z_ h1_).2
  have nx_ : x_ ≠ z_ := fun e_ => nz (e_ ▸ hx_)
  have sx_ : z_ ∈ frg inn_ cl_ ch_ (n_ :: E_) x_ := by
    rw [frg_p (fra_l ht_ hk_) hx_]
    exact List.mem_append.mpr (Or.inl h1_)
  exact f_.2.2.2.2 (btw_2 (S_ := fun u_ => z_ ∈ frg inn_ cl_ ch_ (n_ :: E_) u_) (w_ := z_) (fun u_ hu_ nu_ => (frg_hS ht_ hk_ u_ hu_ nu_).2) (frg_hu ht_ hk_) (fun u_ hu_ nu_ => fra_l ht_ hk_ u_ (frg_hS ht_ hk_ u_ hu_ nu_).1) sx_ nx_ h1_ h2_)
theorem frg_nd (ht_ : trh inn_ cl_ ch_ n_ T_) (hk_ : frk inn_ cl_ ch_ n_ E_) : ∀ m_ x_, x_ < m_ → nod1 (frg inn_ cl_ ch_ (n_ :: E_) x_)
  | 0, x_, h_ => absurd h_ (Nat.not_lt_zero _)
  | m_ + 1, x_, hx_ => by
    by_cases e_ : x_ ∈ n_ :: E_
    · have l_ := fra_l ht_ hk_ x_ e_
      rw [frg_p (fra_l ht_ hk_) e_]
      exact nod1_a (frg_nd ht_ hk_ m_ (cl_ x_) (by omega)) (frg_nd ht_ hk_ m_ (ch_ x_) (by omega)) (fun z_ h1_ h2_ => frg_d ht_ hk_ e_ h1_ h2_)
    · by_cases i_ : inn_ x_ = true
      · rw [frg_i e_ i_]
        exact ⟨List.not_mem_nil, trivial⟩
      · rw [frg_o e_ i_]
        exact trivial
theorem frg_m1 (ht_ : trh inn_ cl_ ch_ n_ T_) (hk_ : frk inn_ cl_ ch_ n_ E_) {z_ : Nat} : ∀ m_ x_, x_ < m_ → x_ ∈ n_ :: E_ → z_ ∈ frg inn_ cl_ ch_ (n_ :: E_) x_ → z_ ∈ frc cl_ ch_ n_ E_
  | 0, x_, h_, _, _ => absurd h_ (Nat.not_lt_zero _)
  | m_ + 1, x_, hx_, e_, hz_ => by
    have l_ := fra_l ht_ hk_ x_ e_
    have st_ : ∀ y_, (y_ = cl_ x_ ∨ y_ = ch_ x_) → z_ ∈ frg inn_ cl_ ch_ (n_ :: E_) y_ → z_ ∈ frc cl_ ch_ n_ E_ := by
      intro y_ cy_ hy_
      have s_ := fra_s ht_ hk_ e_ cy_
      rcases s_.2.2 with u_ | u_
      · exact frg_m1 ht_ hk_ m_ y_ (by omega) u_ hy_
      · by_cases i_ : inn_ y_ = true
        · rw [frg_i u_.2 i_] at hy_
          rw [List.mem_singleton.mp hy_]
          exact u_.1
        · rw [frg_o u_.2 i_] at hy_
          exact absurd hy_ List.not_mem_nil
    rw [frg_p (fra_l ht_ hk_) e_] at hz_
    rcases List.mem_append.mp hz_ with u_ | u_
    · exact st_ (cl_ x_) (Or.inl rfl) u_
    · exact st_ (ch_ x_) (Or.inr rfl) u_
theorem frg_up (ht_ : trh inn_ cl_ ch_ n_ T_) (hk_ : frk inn_ cl_ ch_ n_ E_) {z_ : Nat} : ∀ k_ x_, n_ < x_ + k_ → x_ ∈ n_ :: E_ → z_ ∈ frg inn_ cl_ ch_ (n_ :: E_) x_ → z_ ∈ frg inn_ cl_ ch_ (n_ :: E_) n_
  | 0, x_, h_, e_, _ => by
    have := ((fra ht_ hk_).1 x_ e_).2.1
    omega
  | k_ + 1, x_, h_, e_, hz_ => by
    rcases List.mem_cons.mp e_ with u_ | u_
    · rw [u_] at hz_
      exact hz_
    · obtain ⟨_, _, _, p_, hp_, hx_⟩ := (frc_a ht_ E_ hk_).1 x_ u_
      have ap_ : p_ ∈ n_ :: E_ := List.mem_cons.mpr hp_
      have l_ := (fra_s ht_ hk_ ap_ hx_).1
      refine frg_up ht_ hk_ k_ p_ (by omega) ap_ ?_
      rw [frg_p (fra_l ht_ hk_) ap_]
      rcases hx_ with v_ | v_
      · rw [v_] at hz_
        exact List.mem_append.mpr (Or.inl hz_)
      · rw [v_] at hz_
        exact List.mem_append.mpr (Or.inr hz_)
/-- the_ inner nodes of_ the_ cut_ -/
theorem frg_m (ht_ : trh inn_ cl_ ch_ n_ T_) (hk_ : frk inn_ cl_ ch_ n_ E_) {z_ : Nat} : z_ ∈ frg inn_ cl_ ch_ (n_ :: E_) n_ ↔ z_ ∈ frc cl_ ch_ n_ E_ ∧ inn_ z_ = true := by
  constructor
  · intro h_
    exact ⟨frg_m1 ht_ hk_ (n_ + 1) n_ (Nat.lt_succ_self _) List.mem_cons_self h_, (frg_n (fra_l ht_ hk_) (n_ + 1) n_ (Nat.lt_succ_self _) z_ h_).1⟩
  · rintro ⟨h_, i_⟩
    obtain ⟨⟨p_, hp_, hs_⟩, nz⟩ := ((frc_a ht_ E_ hk_).2 z_).mp h_
    have ap_ : p_ ∈ n_ :: E_ := List.mem_cons.mpr hp_
    have s_ := fra_s ht_ hk_ ap_ hs_
    have na_ : ¬ z_ ∈ n_ :: E_ := fun u_ => by
      rcases List.mem_cons.mp u_ with e_ | e_
      · exact s_.2.1 e_
      · exact nz e_
    have zz_ : z_ ∈ frg inn_ cl_ ch_ (n_ :: E_) z_ := by
      rw [frg_i na_ i_]
      exact List.mem_singleton.mpr rfl
    refine frg_up ht_ hk_ (n_ + 1) p_ (by omega) ap_ ?_
    rw [frg_p (fra_l ht_ hk_) ap_]
    rcases hs_ with e_ | e_
    · rw [← e_]
      exact List.mem_append.mpr (Or.inl zz_)
    · rw [← e_]
      exact List.mem_append.mpr (Or.inr zz_)
/-- the_ same inner nodes: the_ same cut_ -/
theorem frg_u (ht_ : trh inn_ cl_ ch_ n_ T_) (hk_ : frk inn_ cl_ ch_ n_ E_) {E'_ : List Nat} (hk'_ : frk inn_ cl_ ch_ n_ E'_) (h_ : frg inn_ cl_ ch_ (n_ :: E_) n_ = frg inn_ cl_ ch_ (n_ :: E'_) n_) : frc cl_ ch_ n_ E_ = frc cl_ ch_ n_ E'_ := frc_u ht_ hk_ hk'_ (fun z_ i_ => by
  have a_ := frg_m ht_ hk_ (z_ := z_)
  have b_ := frg_m ht_ hk'_ (z_ := z_)
  rw [h_] at a_
  constructor
  · intro u_
    exact (b_.mp (a_.mpr ⟨u_, i_⟩)).1
  · intro u_
    exact (a_.mp (b_.mpr ⟨u_, i_⟩)).1)
end FH_
end
/-! 99.ztZM -/
section
/-! cuts with two inner nodes; written by wip/p55/gen/vg -/

/-! values: all_ different -/
def svh (cl_ ch_ : Nat → Nat) (tl_ th : Nat → Bool) (T_ U_ : Nat → Prop) (v_ : Nat → Nat → Bool) (P_ : Nat) : Prop := (∀ x_, T_ x_ → U_ x_ ∧ U_ (cl_ x_) ∧ U_ (ch_ x_)) ∧ (∀ x_, T_ x_ → ∀ q_, q_ < P_ → v_ x_ q_ = (Bool.xor (v_ (cl_ x_) q_) (tl_ x_) && Bool.xor (v_ (ch_ x_) q_) (th x_))) ∧ (∀ x_ y_ s_, U_ x_ → U_ y_ → (∀ q_, q_ < P_ → v_ x_ q_ = Bool.xor (v_ y_ q_) s_) → x_ = y_) ∧ ∀ x_ s_, U_ x_ → ¬ ∀ q_, q_ < P_ → v_ x_ q_ = s_
def lnk (v_ : Nat → Nat → Bool) (P_ x_ y_ a_ : Nat) : Prop := ∃ t_ s_, ∀ q_, q_ < P_ → v_ x_ q_ = (Bool.xor (v_ y_ q_) t_ && Bool.xor (v_ a_ q_) s_)
theorem lnk_3 {cl_ ch_ : Nat → Nat} {tl_ th : Nat → Bool} {T_ U_ : Nat → Prop} {v_ : Nat → Nat → Bool} {P_ x1_ x2_ x3_ y_ a_ : Nat} (hv_ : svh cl_ ch_ tl_ th T_ U_ v_ P_) (u1_ : U_ x1_) (u2_ : U_ x2_) (u3_ : U_ x3_) (ua_ : U_ a_) (h1_ : lnk v_ P_ x1_ y_ a_) (h2_ : lnk v_ P_ x2_ x1_ a_) (h3_ : lnk v_ P_ x3_ x2_ a_) (n21_ : x2_ ≠ x1_) (n32_ : x3_ ≠ x2_) (n31_ : x3_ ≠ x1_) (n2a : x2_ ≠ a_) (n3a : x3_ ≠ a_) : False := by
  obtain ⟨t0_, s0_, h1_⟩ := h1_
  obtain ⟨t1_, s1_, h2_⟩ := h2_
  obtain ⟨t2_, s2_, h3_⟩ := h3_
  have c1_ : (∀ q_, q_ < P_ → v_ x2_ q_ = Bool.xor (v_ x1_ q_) false) → False := fun h_ => n21_ (hv_.2.2.1 x2_ x1_ false u2_ u1_ h_)
  have c2_ : (∀ q_, q_ < P_ → v_ x2_ q_ = false) → False := fun h_ => hv_.2.2.2 x2_ false u2_ h_
  have c3_ : ∀ s_, (∀ q_, q_ < P_ → v_ x2_ q_ = Bool.xor (v_ a_ q_) s_) → False := fun s_ h_ => n2a (hv_.2.2.1 x2_ a_ s_ u2_ ua_ h_)
  have d1_ : (∀ q_, q_ < P_ → v_ x3_ q_ = Bool.xor (v_ x2_ q_) false) → False := fun h_ => n32_ (hv_.2.2.1 x3_ x2_ false u3_ u2_ h_)
  have d2_ : (∀ q_, q_ < P_ → v_ x3_ q_ = false) → False := fun h_ => hv_.2.2.2 x3_ false u3_ h_
  have d3_ : ∀ s_, (∀ q_, q_ < P_ → v_ x3_ q_ = Bool.xor (v_ a_ q_) s_) → False := fun s_ h_ => n3a (hv_.2.2.1 x3_ a_ s_ u3_ ua_ h_)
  have d4_ : (∀ q_, q_ < P_ → v_ x3_ q_ = Bool.xor (v_ x1_ q_) false) → False := fun h_ => n31_ (hv_.2.2.1 x3_ x1_ false u3_ u1_ h_)
  cases t1_ <;> cases s0_ <;> cases s1_ <;> cases t2_ <;> cases s2_ <;> cases t0_ <;> first
    | (refine c1_ (fun q_ hq_ => ?_); rw [h2_ q_ hq_, h1_ q_ hq_]; cases v_ y_ q_ <;> cases v_ a_ q_ <;> rfl)
    | (refine c2_ (fun q_ hq_ => ?_); rw [h2_ q_ hq_, h1_ q_ hq_]; cases v_ y_ q_ <;> cases v_ a_ q_ <;> rfl)
    | (refine c3_ false (fun q_ hq_ => ?_); rw [h2_ q_ hq_, h1_ q_ hq_]; cases v_ y_ q_ <;> cases v_ a_ q_ <;> rfl)
    | (refine c3_ true (fun q_ hq_ => ?_); rw [h2_ q_ hq_, h1_ q_ hq_]; cases v_ y_ q_ <;> cases v_ a_ q_ <;> rfl)
    | (refine d1_ (fun q_ hq_ => ?_); rw [h3_ q_ hq_, h2_ q_ hq_, h1_ q_ hq_]; cases v_ y_ q_ <;> cases v_ a_ q_ <;> rfl)
    | (refine d2_ (fun q_ hq_ => ?_); rw [h3_ q_ hq_, h2_ q_ hq_, h1_ q_ hq_]; cases v_ y_ q_ <;> cases v_ a_ q_ <;> rfl)
    | (refine d3_ false (fun q_ hq_ => ?_); rw [h3_ q_ hq_, h2_ q_ hq_, h1_ q_ hq_]; cases v_ y_ q_ <;> cases v_ a_ q_ <;> rfl)
    | (refine d3_ true (fun q_ hq_ => ?_); rw [h3_ q_ hq_, h2_ q_ hq_, h1_ q_ hq_]; cases v_ y_ q_ <;> cases v_ a_ q_ <;> rfl)
    | (refine d4_ (fun q_ hq_ => ?_); rw [h3_ q_ hq_, h2_ q_ hq_, h1_ q_ hq_]; cases v_ y_ q_ <;> cases v_ a_ q_ <;> rfl)
theorem app_n {l_ m_ : List Nat} (h_ : l_ ++ m_ = []) : l_ = [] ∧ m_ = [] := by
  cases l_ with
  | nil => exact ⟨rfl, h_⟩
  | cons x_ l_ =>
    have h_ : x_ :: (l_ ++ m_) = [] := h_
    exact absurd h_ (List.cons_ne_nil _ _)
theorem app_1 {l_ m_ : List Nat} {w_ : Nat} (h_ : l_ ++ m_ = [w_]) : l_ = [] ∨ m_ = [] := by
  cases l_ with
  | nil => exact Or.inl rfl
  | cons x_ l_ =>
    have h_ : x_ :: (l_ ++ m_) = [w_] := h_
    exact Or.inr (app_n (List.cons.inj h_).2).2
theorem len_p {l_ : List Nat} (h_ : l_ ≠ []) : 1 ≤ l_.length := by
  cases l_ with
  | nil => exact absurd rfl h_
  | cons x_ l_ => exact Nat.succ_le_succ (Nat.zero_le _)
theorem len_1 {l_ : List Nat} (h_ : l_.length = 1) : ∃ w_, l_ = [w_] := by
  cases l_ with
  | nil => exact absurd h_ (by decide)
  | cons x_ l_ =>
    cases l_ with
    | nil => exact ⟨x_, rfl⟩
    | cons y_ l_ =>
      have h_ : l_.length + 1 + 1 = 1 := h_
      omega
/-- the_ inner side -/
def cnx (inn_ : Nat → Bool) (cl_ ch_ : Nat → Nat) (x_ : Nat) : Nat := if inn_ (cl_ x_) = true then cl_ x_ else ch_ x_
def cnk (inn_ : Nat → Bool) (cl_ ch_ : Nat → Nat) : Nat → Nat → Nat
  | 0, x_ => x_
  | k_ + 1, x_ => cnk inn_ cl_ ch_ k_ (cnx inn_ cl_ ch_ x_)
def tpx (inn_ : Nat → Bool) (cl_ ch_ : Nat → Nat) : Nat → Nat → Nat
  | 0, x_ => x_
  | f_ + 1, x_ => if inn_ (cl_ x_) = true ∧ inn_ (ch_ x_) = true then x_ else tpx inn_ cl_ ch_ f_ (cnx inn_ cl_ ch_ x_)
section TW_
variable {inn_ : Nat → Bool} {cl_ ch_ : Nat → Nat} {tl_ th : Nat → Bool} {n_ a_ P_ : Nat} {T_ U_ : Nat → Prop} {v_ : Nat → Nat → Bool} {E_ : List Nat}
theorem tw_0 (ht_ : trh inn_ cl_ ch_ n_ T_) (hk_ : frk inn_ cl_ ch_ n_ E_) (hl_ : ∀ z_, z_ ∈ frc cl_ ch_ n_ E_ → ¬ inn_ z_ = true → z_ = a_) : ∀ m_ x_, x_ < m_ → x_ ∈ n_ :: E_ → frg inn_ cl_ ch_ (n_ :: E_) x_ ≠ []
  | 0, x_, h_, _ => absurd h_ (Nat.not_lt_zero _)
  | m_ + 1, x_, hx_, e_ => by
    intro h_
    rw [frg_p (fra_l ht_ hk_) e_] at h_
    obtain ⟨h1_, h2_⟩ := app_n h_
    have sd_ : ∀ y_, (y_ = cl_ x_ ∨ y_ = ch_ x_) → frg inn_ cl_ ch_ (n_ :: E_) y_ = [] → y_ = a_ := by
      intro y_ cy_ hy_
      have s_ := fra_s ht_ hk_ e_ cy_
      rcases s_.2.2 with u_ | u_
      · exact absurd hy_ (tw_0 ht_ hk_ hl_ m_ y_ (by omega) u_)
      · by_cases i_ : inn_ y_ = true
        · rw [frg_i u_.2 i_] at hy_
          exact absurd hy_ (List.cons_ne_nil _ _)
        · exact hl_ y_ u_.1 i_
    exact ((fra ht_ hk_).1 x_ e_).2.2.2.2 ((sd_ (cl_ x_) (Or.inl rfl) h1_).trans (sd_ (ch_ x_) (Or.inr rfl) h2_).symm)
theorem tw_s (ht_ : trh inn_ cl_ ch_ n_ T_) (hk_ : frk inn_ cl_ ch_ n_ E_) (hl_ : ∀ z_, z_ ∈ frc cl_ ch_ n_ E_ → ¬ inn_ z_ = true → z_ = a_) {x_ y_ : Nat} (e_ : x_ ∈ n_ :: E_) (cy_ : y_ = cl_ x_ ∨ y_ = ch_ x_) (hy_ : frg inn_ cl_ ch_ (n_ :: E_) y_ = []) : y_ = a_ ∧ ¬ inn_ y_ = true := by
  have s_ := fra_s ht_ hk_ e_ cy_
  rcases s_.2.2 with u_ | u_
  · exact absurd hy_ (tw_0 ht_ hk_ hl_ (y_ + 1) y_ (Nat.lt_succ_self _) u_)
  · by_cases i_ : inn_ y_ = true
    · rw [frg_i u_.2 i_] at hy_
      exact absurd hy_ (List.cons_ne_nil _ _)
    · exact ⟨hl_ y_ u_.1 i_, i_⟩
/-- not inner: nothing of_ it_ in the_ cut's inner nodes -/
theorem tw_o (ht_ : trh inn_ cl_ ch_ n_ T_) (hk_ : frk inn_ cl_ ch_ n_ E_) {x_ y_ : Nat} (e_ : x_ ∈ n_ :: E_) (cy_ : y_ = cl_ x_ ∨ y_ = ch_ x_) (i_ : ¬ inn_ y_ = true) : frg inn_ cl_ ch_ (n_ :: E_) y_ = [] := by
  have s_ := fra_s ht_ hk_ e_ cy_
  refine frg_o (fun u_ => i_ ((fra ht_ hk_).2 y_ u_ s_.2.1)) i_
theorem tw_c (ht_ : trh inn_ cl_ ch_ n_ T_) (hk_ : frk inn_ cl_ ch_ n_ E_) (hv_ : svh cl_ ch_ tl_ th T_ U_ v_ P_) (hl_ : ∀ z_, z_ ∈ frc cl_ ch_ n_ E_ → ¬ inn_ z_ = true → z_ = a_) {x_ : Nat} (e_ : x_ ∈ n_ :: E_) (h_ : frg inn_ cl_ ch_ (n_ :: E_) (cl_ x_) = [] ∨ frg inn_ cl_ ch_ (n_ :: E_) (ch_ x_) = []) : frg inn_ cl_ ch_ (n_ :: E_) x_ = frg inn_ cl_ ch_ (n_ :: E_) (cnx inn_ cl_ ch_ x_) ∧ lnk v_ P_ x_ (cnx inn_ cl_ ch_ x_) a_ ∧ cnx inn_ cl_ ch_ x_ < x_ ∧ a_ < x_ ∧ U_ x_ ∧ U_ a_ := by
  have f_ := (fra ht_ hk_).1 x_ e_
  have pu_ := hv_.1 x_ f_.1
  have pv_ := hv_.2.1 x_ f_.1
  rcases h_ with h_ | h_
  · obtain ⟨e1_, i1_⟩ := tw_s ht_ hk_ hl_ e_ (Or.inl rfl) h_
    have c_ : cnx inn_ cl_ ch_ x_ = ch_ x_ := if_neg i1_
    rw [c_, frg_p (fra_l ht_ hk_) e_, h_]
    refine ⟨rfl, ⟨th x_, tl_ x_, fun q_ hq_ => ?_⟩, f_.2.2.2.1, ?_, pu_.1, ?_⟩
    · rw [pv_ q_ hq_, e1_, Bool.and_comm]
    · rw [← e1_]
      exact f_.2.2.1
    · rw [← e1_]
      exact pu_.2.1
  · obtain ⟨e1_, i1_⟩ := tw_s ht_ hk_ hl_ e_ (Or.inr rfl) h_
    have i2_ : inn_ (cl_ x_) = true := by
      by_cases i_ : inn_ (cl_ x_) = true
      · exact i_
      · exfalso
        have w_ := tw_s ht_ hk_ hl_ e_ (Or.inl rfl) (tw_o ht_ hk_ e_ (Or.inl rfl) i_)
        exact f_.2.2.2.2 (w_.1.trans e1_.symm)
    have c_ : cnx inn_ cl_ ch_ x_ = cl_ x_ := if_pos i2_
    rw [c_, frg_p (fra_l ht_ hk_) e_, h_]
    refine ⟨List.append_nil _, ⟨tl_ x_, th x_, fun q_ hq_ => ?_⟩, f_.2.2.1, ?_, pu_.1, ?_⟩
    · rw [pv_ q_ hq_, e1_]
    · rw [← e1_]
      exact f_.2.2.2.1
    · rw [← e1_]
      exact pu_.2.2
theorem tw_z {x_ w_ : Nat} {A_ : List Nat} (e_ : ¬ x_ ∈ A_) (h_ : frg inn_ cl_ ch_ A_ x_ = [w_]) : w_ = x_ := by
  by_cases i_ : inn_ x_ = true
  · rw [frg_i e_ i_] at h_
    exact (List.cons.inj h_).1.symm
  · rw [frg_o e_ i_] at h_
    exact absurd h_.symm (List.cons_ne_nil _ _)
theorem tw_1 (ht_ : trh inn_ cl_ ch_ n_ T_) (hk_ : frk inn_ cl_ ch_ n_ E_) (hv_ : svh cl_ ch_ tl_ th T_ U_ v_ P_) (hl_ : ∀ z_, z_ ∈ frc cl_ ch_ n_ E_ → ¬ inn_ z_ = true → z_ = a_) {x_ w_ : Nat} (h_ : frg inn_ cl_ ch_ (n_ :: E_) x_ = [w_]) : ∃ i_, i_ < 3 ∧ w_ = cnk inn_ cl_ ch_ i_ x_ := by
  have st_ : ∀ y_, y_ ∈ n_ :: E_ → frg inn_ cl_ ch_ (n_ :: E_) y_ = [w_] → frg inn_ cl_ ch_ (n_ :: E_) (cl_ y_) = [] ∨ frg inn_ cl_ ch_ (n_ :: E_) (ch_ y_) = [] := by
    intro y_ ey_ hy_
    rw [frg_p (fra_l ht_ hk_) ey_] at hy_
    exact app_1 hy_
  by_cases e0_ : x_ ∈ n_ :: E_
  · obtain ⟨f0_, k0_, l0_, a0_, ux0_, ua_⟩ := tw_c ht_ hk_ hv_ hl_ e0_ (st_ x_ e0_ h_)
    rw [h_] at f0_
    by_cases e1_ : cnx inn_ cl_ ch_ x_ ∈ n_ :: E_
    · obtain ⟨f1_, k1_, l1_, a1_, ux1_, _⟩ := tw_c ht_ hk_ hv_ hl_ e1_ (st_ _ e1_ f0_.symm)
      rw [← f0_] at f1_
      by_cases e2_ : cnx inn_ cl_ ch_ (cnx inn_ cl_ ch_ x_) ∈ n_ :: E_
      · obtain ⟨f2_, k2_, l2_, a2_, ux2_, _⟩ := tw_c ht_ hk_ hv_ hl_ e2_ (st_ _ e2_ f1_.symm)
        exact (lnk_3 hv_ ux2_ ux1_ ux0_ ua_ k2_ k1_ k0_ (by omega) (by omega) (by omega) (by omega) (by omega)).elim
      · exact ⟨2, by decide, tw_z e2_ f1_.symm⟩
    · exact ⟨1, by decide, tw_z e1_ f0_.symm⟩
  · exact ⟨0, by decide, tw_z e0_ h_⟩
theorem tw_2 (ht_ : trh inn_ cl_ ch_ n_ T_) (hk_ : frk inn_ cl_ ch_ n_ E_) (hv_ : svh cl_ ch_ tl_ th T_ U_ v_ P_) (hl_ : ∀ z_, z_ ∈ frc cl_ ch_ n_ E_ → ¬ inn_ z_ = true → z_ = a_) : ∀ f_ x_, x_ < f_ → x_ ∈ n_ :: E_ → (frg inn_ cl_ ch_ (n_ :: E_) x_).length = 2 → ∃ i_ j_, i_ < 3 ∧ j_ < 3 ∧ frg inn_ cl_ ch_ (n_ :: E_) x_ = [cnk inn_ cl_ ch_ i_ (cl_ (tpx inn_ cl_ ch_ f_ x_)), cnk inn_ cl_ ch_ j_ (ch_ (tpx inn_ cl_ ch_ f_ x_))]
  | 0, x_, h_, _, _ => absurd h_ (Nat.not_lt_zero _)
  | f_ + 1, x_, hx_, e_, h2_ => by
    have fp_ := frg_p (inn_ := inn_) (fra_l ht_ hk_) e_
    by_cases b_ : inn_ (cl_ x_) = true ∧ inn_ (ch_ x_) = true
    · have tt_ : tpx inn_ cl_ ch_ (f_ + 1) x_ = x_ := if_pos b_
      have ne : ∀ y_, (y_ = cl_ x_ ∨ y_ = ch_ x_) → inn_ y_ = true → 1 ≤ (frg inn_ cl_ ch_ (n_ :: E_) y_).length := by
        intro y_ cy_ i_
        have nn_ : frg inn_ cl_ ch_ (n_ :: E_) y_ ≠ [] := by
          by_cases u_ : y_ ∈ n_ :: E_
          · exact tw_0 ht_ hk_ hl_ (y_ + 1) y_ (Nat.lt_succ_self _) u_
          · rw [frg_i u_ i_]
            exact List.cons_ne_nil _ _
        exact len_p nn_
      have n1_ := ne (cl_ x_) (Or.inl rfl) b_.1
      have n2_ := ne (ch_ x_) (Or.inr rfl) b_.2
      rw [fp_, List.length_append] at h2_
      obtain ⟨w1_, g1_⟩ := len_1 (l_ := frg inn_ cl_ ch_ (n_ :: E_) (cl_ x_)) (by omega)
      obtain ⟨w2_, g2_⟩ := len_1 (l_ := frg inn_ cl_ ch_ (n_ :: E_) (ch_ x_)) (by omega)
      obtain ⟨i_, hi_, e1_⟩ := tw_1 ht_ hk_ hv_ hl_ g1_
      obtain ⟨j_, hj_, e2_⟩ := tw_1 ht_ hk_ hv_ hl_ g2_
      refine ⟨i_, j_, hi_, hj_, ?_⟩
      rw [tt_, fp_, g1_, g2_, ← e1_, ← e2_]
      rfl
    · have tt_ : tpx inn_ cl_ ch_ (f_ + 1) x_ = tpx inn_ cl_ ch_ f_ (cnx inn_ cl_ ch_ x_) := if_neg b_
      have em_ : frg inn_ cl_ ch_ (n_ :: E_) (cl_ x_) = [] ∨ frg inn_ cl_ ch_ (n_ :: E_) (ch_ x_) = [] := by
        by_cases i_ : inn_ (cl_ x_) = true
        · exact Or.inr (tw_o ht_ hk_ e_ (Or.inr rfl) (fun u_ => b_ ⟨i_, u_⟩))
        · exact Or.inl (tw_o ht_ hk_ e_ (Or.inl rfl) i_)
      obtain ⟨f0_, k0_, l0_, a0_, ux0_, ua_⟩ := tw_c ht_ hk_ hv_ hl_ e_ em_
      rw [f0_] at h2_
      have ec : cnx inn_ cl_ ch_ x_ ∈ n_ :: E_ := by
        by_cases u_ : cnx inn_ cl_ ch_ x_ ∈ n_ :: E_
        · exact u_
        · exfalso
          by_cases i_ : inn_ (cnx inn_ cl_ ch_ x_) = true
          · rw [frg_i u_ i_] at h2_
            have h2_ : 1 = 2 := h2_
            omega
          · rw [frg_o u_ i_] at h2_
            have h2_ : 0 = 2 := h2_
            omega
      rw [f0_, tt_]
      exact tw_2 ht_ hk_ hv_ hl_ f_ _ (by omega) ec h2_
end TW_
end
/-! 99.ztZN -/
section
/-! cuts with one inner node; written by wip/p55/gen/vg -/

/-! what hangs on_ one_: 0 no_, 1 yes_, 2 as_ it_ is_, 3 turned -/
def kan (u_ v_ : Nat) : Nat := if u_ = 0 ∨ v_ = 0 then 0 else if u_ = 1 then v_ else u_
def ktn (s_ : Bool) (u_ : Nat) : Nat := if s_ = true then (if u_ = 0 then 1 else if u_ = 1 then 0 else if u_ = 2 then 3 else 2) else u_
def kev (u_ : Nat) (z_ : Bool) : Bool := if u_ = 0 then false else if u_ = 1 then true else if u_ = 2 then z_ else !z_
theorem kan_e0 : ∀ u_ v_ : Fin 4, ∀ z_ : Bool, (u_.val < 2 ∨ v_.val < 2) → kev (kan u_.val v_.val) z_ = (kev u_.val z_ && kev v_.val z_) := by decide
theorem kan_l0 : ∀ u_ v_ : Fin 4, kan u_.val v_.val < 4 := by decide
theorem ktn_l0 : ∀ s_ : Bool, ∀ u_ : Fin 4, ktn s_ u_.val < 4 ∧ (2 ≤ ktn s_ u_.val ↔ 2 ≤ u_.val) ∧ ∀ z_, kev (ktn s_ u_.val) z_ = Bool.xor (kev u_.val z_) s_ := by decide
theorem kan_c0 : ∀ u_ v_ : Fin 4, (v_.val < 2 → kan u_.val v_.val = 0 ∨ kan u_.val v_.val = u_.val) ∧ (u_.val < 2 → kan u_.val v_.val = 0 ∨ kan u_.val v_.val = v_.val) := by decide
theorem kan_e {u_ v_ : Nat} (hu_ : u_ < 4) (hv_ : v_ < 4) (z_ : Bool) (h_ : u_ < 2 ∨ v_ < 2) : kev (kan u_ v_) z_ = (kev u_ z_ && kev v_ z_) := kan_e0 ⟨u_, hu_⟩ ⟨v_, hv_⟩ z_ h_
theorem kan_l {u_ v_ : Nat} (hu_ : u_ < 4) (hv_ : v_ < 4) : kan u_ v_ < 4 := kan_l0 ⟨u_, hu_⟩ ⟨v_, hv_⟩
theorem ktn_l {s_ : Bool} {u_ : Nat} (hu_ : u_ < 4) : ktn s_ u_ < 4 ∧ (2 ≤ ktn s_ u_ ↔ 2 ≤ u_) ∧ ∀ z_, kev (ktn s_ u_) z_ = Bool.xor (kev u_ z_) s_ := ktn_l0 s_ ⟨u_, hu_⟩
theorem kan_c {u_ v_ : Nat} (hu_ : u_ < 4) (hv_ : v_ < 4) : (v_ < 2 → kan u_ v_ = 0 ∨ kan u_ v_ = u_) ∧ (u_ < 2 → kan u_ v_ = 0 ∨ kan u_ v_ = v_) := kan_c0 ⟨u_, hu_⟩ ⟨v_, hv_⟩
def kvl (cl_ ch_ : Nat → Nat) (tl_ th : Nat → Bool) (a_ b_ w_ : Nat) : Nat → Nat → Nat → Nat
  | 0, _, _ => 0
  | m_ + 1, x_, q_ => if x_ = m_ then (if x_ = w_ then 2 else if x_ = a_ then q_ % 2 else if x_ = b_ then q_ / 2 else kan (ktn (tl_ x_) (kvl cl_ ch_ tl_ th a_ b_ w_ m_ (cl_ x_) q_)) (ktn (th x_) (kvl cl_ ch_ tl_ th a_ b_ w_ m_ (ch_ x_) q_))) else kvl cl_ ch_ tl_ th a_ b_ w_ m_ x_ q_
def kdx (cl_ ch_ : Nat → Nat) (tl_ th : Nat → Bool) (a_ b_ w_ x_ q_ : Nat) : Nat := kvl cl_ ch_ tl_ th a_ b_ w_ (x_ + 1) x_ q_
section KD_
variable {cl_ ch_ : Nat → Nat} {tl_ th : Nat → Bool} {a_ b_ w_ : Nat}
theorem kvl_f : ∀ m_ x_ q_, x_ < m_ → kvl cl_ ch_ tl_ th a_ b_ w_ m_ x_ q_ = kdx cl_ ch_ tl_ th a_ b_ w_ x_ q_
  | 0, x_, q_, h_ => absurd h_ (Nat.not_lt_zero _)
  | m_ + 1, x_, q_, h_ => by
    by_cases e_ : x_ = m_
    · rw [e_]
      rfl
    · have ih_ := kvl_f m_ x_ q_ (by omega)
      rw [← ih_]
      exact if_neg e_
theorem kdx_r {x_ q_ : Nat} : kdx cl_ ch_ tl_ th a_ b_ w_ x_ q_ = (if x_ = w_ then 2 else if x_ = a_ then q_ % 2 else if x_ = b_ then q_ / 2 else kan (ktn (tl_ x_) (kvl cl_ ch_ tl_ th a_ b_ w_ x_ (cl_ x_) q_)) (ktn (th x_) (kvl cl_ ch_ tl_ th a_ b_ w_ x_ (ch_ x_) q_))) := if_pos rfl
theorem kdx_w {q_ : Nat} : kdx cl_ ch_ tl_ th a_ b_ w_ w_ q_ = 2 := by
  rw [kdx_r, if_pos rfl]
theorem kdx_a {q_ : Nat} (h_ : a_ ≠ w_) : kdx cl_ ch_ tl_ th a_ b_ w_ a_ q_ = q_ % 2 := by
  rw [kdx_r, if_neg h_, if_pos rfl]
theorem kdx_b {q_ : Nat} (h_ : b_ ≠ w_) (g_ : b_ ≠ a_) : kdx cl_ ch_ tl_ th a_ b_ w_ b_ q_ = q_ / 2 := by
  rw [kdx_r, if_neg h_, if_neg g_, if_pos rfl]
theorem kdx_n {x_ q_ : Nat} (h1_ : x_ ≠ w_) (h2_ : x_ ≠ a_) (h3_ : x_ ≠ b_) (l1_ : cl_ x_ < x_) (l2_ : ch_ x_ < x_) : kdx cl_ ch_ tl_ th a_ b_ w_ x_ q_ = kan (ktn (tl_ x_) (kdx cl_ ch_ tl_ th a_ b_ w_ (cl_ x_) q_)) (ktn (th x_) (kdx cl_ ch_ tl_ th a_ b_ w_ (ch_ x_) q_)) := by
  rw [kdx_r, if_neg h1_, if_neg h2_, if_neg h3_, kvl_f x_ (cl_ x_) q_ l1_, kvl_f x_ (ch_ x_) q_ l2_]
theorem kdx_o {x_ q_ : Nat} (h_ : x_ = a_ ∨ x_ = b_) (g_ : x_ ≠ w_) (hq_ : q_ < 4) : kdx cl_ ch_ tl_ th a_ b_ w_ x_ q_ < 2 := by
  by_cases e_ : x_ = a_
  · rw [e_] at g_
    rw [e_, kdx_a g_]
    omega
  · rcases h_ with u_ | u_
    · exact absurd u_ e_
    · rw [u_] at g_ e_
      rw [u_, kdx_b g_ e_]
      omega
end KD_
section ON_
variable {inn_ : Nat → Bool} {cl_ ch_ : Nat → Nat} {tl_ th : Nat → Bool} {n_ a_ b_ w_ P_ : Nat} {T_ U_ : Nat → Prop} {v_ : Nat → Nat → Bool} {E_ : List Nat}
/-- one_ inner node w_, the_ leaves among a_ and b_ -/
def onh (inn_ : Nat → Bool) (cl_ ch_ : Nat → Nat) (n_ a_ b_ w_ : Nat) (E_ : List Nat) : Prop := frg inn_ cl_ ch_ (n_ :: E_) n_ = [w_] ∧ (∀ z_, z_ ∈ frc cl_ ch_ n_ E_ → ¬ inn_ z_ = true → z_ = a_ ∨ z_ = b_) ∧ ¬ a_ ∈ n_ :: E_ ∧ ¬ b_ ∈ n_ :: E_
theorem on_w (ht_ : trh inn_ cl_ ch_ n_ T_) (hk_ : frk inn_ cl_ ch_ n_ E_) (ho_ : onh inn_ cl_ ch_ n_ a_ b_ w_ E_) : inn_ w_ = true ∧ ¬ w_ ∈ n_ :: E_ ∧ w_ ∈ frc cl_ ch_ n_ E_ := by
  have m_ : w_ ∈ frg inn_ cl_ ch_ (n_ :: E_) n_ := by
    rw [ho_.1]
    exact List.mem_singleton.mpr rfl
  have a_ := frg_n (fra_l ht_ hk_) (n_ + 1) n_ (Nat.lt_succ_self _) w_ m_
  exact ⟨a_.1, a_.2, ((frg_m ht_ hk_).mp m_).1⟩
theorem on_s (ht_ : trh inn_ cl_ ch_ n_ T_) (hk_ : frk inn_ cl_ ch_ n_ E_) (ho_ : onh inn_ cl_ ch_ n_ a_ b_ w_ E_) {x_ y_ : Nat} (hx_ : x_ ∈ n_ :: E_) (hy_ : y_ = cl_ x_ ∨ y_ = ch_ x_) : y_ < x_ ∧ (y_ ∈ n_ :: E_ ∨ y_ = w_ ∨ y_ = a_ ∨ y_ = b_) := by
  have s_ := fra_s ht_ hk_ hx_ hy_
  refine ⟨s_.1, ?_⟩
  rcases s_.2.2 with u_ | u_
  · exact Or.inl u_
  · by_cases i_ : inn_ y_ = true
    · have m_ := (frg_m ht_ hk_).mpr ⟨u_.1, i_⟩
      rw [ho_.1] at m_
      exact Or.inr (Or.inl (List.mem_singleton.mp m_))
    · exact Or.inr (Or.inr (ho_.2.1 y_ u_.1 i_))
theorem on_n (ht_ : trh inn_ cl_ ch_ n_ T_) (hk_ : frk inn_ cl_ ch_ n_ E_) (ho_ : onh inn_ cl_ ch_ n_ a_ b_ w_ E_) {x_ : Nat} (hx_ : x_ ∈ n_ :: E_) (q_ : Nat) : kdx cl_ ch_ tl_ th a_ b_ w_ x_ q_ = kan (ktn (tl_ x_) (kdx cl_ ch_ tl_ th a_ b_ w_ (cl_ x_) q_)) (ktn (th x_) (kdx cl_ ch_ tl_ th a_ b_ w_ (ch_ x_) q_)) := by
  have l_ := fra_l ht_ hk_ x_ hx_
  refine kdx_n (fun e_ => (on_w ht_ hk_ ho_).2.1 (e_ ▸ hx_)) (fun e_ => ho_.2.2.1 (e_ ▸ hx_)) (fun e_ => ho_.2.2.2 (e_ ▸ hx_)) l_.1 l_.2
theorem on_4 (ht_ : trh inn_ cl_ ch_ n_ T_) (hk_ : frk inn_ cl_ ch_ n_ E_) (ho_ : onh inn_ cl_ ch_ n_ a_ b_ w_ E_) {q_ : Nat} (hq_ : q_ < 4) : ∀ m_ x_, x_ < m_ → (x_ ∈ n_ :: E_ ∨ x_ = w_ ∨ x_ = a_ ∨ x_ = b_) → kdx cl_ ch_ tl_ th a_ b_ w_ x_ q_ < 4
  | 0, x_, h_, _ => absurd h_ (Nat.not_lt_zero _)
  | m_ + 1, x_, hx_, hd_ => by
    by_cases e_ : x_ ∈ n_ :: E_
    · have s1_ := on_s ht_ hk_ ho_ e_ (y_ := cl_ x_) (Or.inl rfl)
      have s2_ := on_s ht_ hk_ ho_ e_ (y_ := ch_ x_) (Or.inr rfl)
      rw [on_n ht_ hk_ ho_ e_]
      exact kan_l (ktn_l (on_4 ht_ hk_ ho_ hq_ m_ _ (by omega) s1_.2)).1 (ktn_l (on_4 ht_ hk_ ho_ hq_ m_ _ (by omega) s2_.2)).1
    · by_cases g_ : x_ = w_
      · rw [g_, kdx_w]
        decide
      · have o_ : x_ = a_ ∨ x_ = b_ := by
          rcases hd_ with u_ | u_ | u_
          · exact absurd u_ e_
          · exact absurd u_ g_
          · exact u_
        have := kdx_o (cl_ := cl_) (ch_ := ch_) (tl_ := tl_) (th := th) o_ g_ hq_
        omega
/-- without w_ below: nothing hangs on_ it_ -/
theorem on_2 (ht_ : trh inn_ cl_ ch_ n_ T_) (hk_ : frk inn_ cl_ ch_ n_ E_) (ho_ : onh inn_ cl_ ch_ n_ a_ b_ w_ E_) {q_ : Nat} (hq_ : q_ < 4) : ∀ m_ x_, x_ < m_ → (x_ ∈ n_ :: E_ ∨ x_ = w_ ∨ x_ = a_ ∨ x_ = b_) → ¬ w_ ∈ frg inn_ cl_ ch_ (n_ :: E_) x_ → kdx cl_ ch_ tl_ th a_ b_ w_ x_ q_ < 2
  | 0, x_, h_, _, _ => absurd h_ (Nat.not_lt_zero _)
  | m_ + 1, x_, hx_, hd_, hn_ => by
    by_cases e_ : x_ ∈ n_ :: E_
    · have s1_ := on_s ht_ hk_ ho_ e_ (y_ := cl_ x_) (Or.inl rfl)
      have s2_ := on_s ht_ hk_ ho_ e_ (y_ := ch_ x_) (Or.inr rfl)
      rw [frg_p (fra_l ht_ hk_) e_] at hn_
      have k1_ := on_2 ht_ hk_ ho_ hq_ m_ (cl_ x_) (by omega) s1_.2 (fun u_ => hn_ (List.mem_append.mpr (Or.inl u_)))
      have k2_ := on_2 ht_ hk_ ho_ hq_ m_ (ch_ x_) (by omega) s2_.2 (fun u_ => hn_ (List.mem_append.mpr (Or.inr u_)))
      have c1_ := ktn_l (s_ := tl_ x_) (show kdx cl_ ch_ tl_ th a_ b_ w_ (cl_ x_) q_ < 4 by omega)
      have c2_ := ktn_l (s_ := th x_) (show kdx cl_ ch_ tl_ th a_ b_ w_ (ch_ x_) q_ < 4 by omega)
      rw [on_n ht_ hk_ ho_ e_]
      have z1_ : ktn (tl_ x_) (kdx cl_ ch_ tl_ th a_ b_ w_ (cl_ x_) q_) < 2 := by
        have := c1_.2.1
        omega
      have z2_ : ktn (th x_) (kdx cl_ ch_ tl_ th a_ b_ w_ (ch_ x_) q_) < 2 := by
        have := c2_.2.1
        omega
      rcases (kan_c c1_.1 c2_.1).1 z2_ with u_ | u_
      · rw [u_]
        decide
      · rw [u_]
        exact z1_
    · by_cases g_ : x_ = w_
      · exfalso
        apply hn_
        rw [g_] at e_
        rw [g_, frg_i e_ (on_w ht_ hk_ ho_).1]
        exact List.mem_singleton.mpr rfl
      · have o_ : x_ = a_ ∨ x_ = b_ := by
          rcases hd_ with u_ | u_ | u_
          · exact absurd u_ e_
          · exact absurd u_ g_
          · exact u_
        exact kdx_o o_ g_ hq_
/-- one_ side has_ no_ w_ below -/
theorem on_1 (ht_ : trh inn_ cl_ ch_ n_ T_) (hk_ : frk inn_ cl_ ch_ n_ E_) {x_ : Nat} (e_ : x_ ∈ n_ :: E_) : ¬ w_ ∈ frg inn_ cl_ ch_ (n_ :: E_) (cl_ x_) ∨ ¬ w_ ∈ frg inn_ cl_ ch_ (n_ :: E_) (ch_ x_) := by
  by_cases c_ : w_ ∈ frg inn_ cl_ ch_ (n_ :: E_) (cl_ x_)
  · exact Or.inr (fun u_ => frg_d ht_ hk_ e_ c_ u_)
  · exact Or.inl c_
theorem toN_e {s_ : Bool} {z_ : Bool} : kev s_.toNat z_ = s_ := by
  cases s_ <;> rfl
theorem on_v (ht_ : trh inn_ cl_ ch_ n_ T_) (hk_ : frk inn_ cl_ ch_ n_ E_) (hv_ : svh cl_ ch_ tl_ th T_ U_ v_ P_) (ho_ : onh inn_ cl_ ch_ n_ a_ b_ w_ E_) {q_ : Nat} (hq_ : q_ < P_) : ∀ m_ x_, x_ < m_ → (x_ ∈ n_ :: E_ ∨ x_ = w_ ∨ x_ = a_ ∨ x_ = b_) → v_ x_ q_ = kev (kdx cl_ ch_ tl_ th a_ b_ w_ x_ ((v_ a_ q_).toNat + 2 * (v_ b_ q_).toNat)) (v_ w_ q_)
  | 0, x_, h_, _ => absurd h_ (Nat.not_lt_zero _)
  | m_ + 1, x_, hx_, hd_ => by
    have b1_ : (v_ a_ q_).toNat < 2 := Bool.toNat_lt (v_ a_ q_)
    have b2_ : (v_ b_ q_).toNat < 2 := Bool.toNat_lt (v_ b_ q_)
    have h4_ : (v_ a_ q_).toNat + 2 * (v_ b_ q_).toNat < 4 := by omega
    by_cases e_ : x_ ∈ n_ :: E_
    · have s1_ := on_s ht_ hk_ ho_ e_ (y_ := cl_ x_) (Or.inl rfl)
      have s2_ := on_s ht_ hk_ ho_ e_ (y_ := ch_ x_) (Or.inr rfl)
      have i1_ := on_v ht_ hk_ hv_ ho_ hq_ m_ (cl_ x_) (by omega) s1_.2
      have i2_ := on_v ht_ hk_ hv_ ho_ hq_ m_ (ch_ x_) (by omega) s2_.2
      have g1_ := on_4 (tl_ := tl_) (th := th) ht_ hk_ ho_ h4_ (cl_ x_ + 1) (cl_ x_) (Nat.lt_succ_self _) s1_.2
      have g2_ := on_4 (tl_ := tl_) (th := th) ht_ hk_ ho_ h4_ (ch_ x_ + 1) (ch_ x_) (Nat.lt_succ_self _) s2_.2
      have c1_ := ktn_l (s_ := tl_ x_) g1_
      have c2_ := ktn_l (s_ := th x_) g2_
      have one_ : ktn (tl_ x_) (kdx cl_ ch_ tl_ th a_ b_ w_ (cl_ x_) ((v_ a_ q_).toNat + 2 * (v_ b_ q_).toNat)) < 2 ∨ ktn (th x_) (kdx cl_ ch_ tl_ th a_ b_ w_ (ch_ x_) ((v_ a_ q_).toNat + 2 * (v_ b_ q_).toNat)) < 2 := by
        rcases on_1 (w_ := w_) ht_ hk_ e_ with u_ | u_
        · have z_ := on_2 (tl_ := tl_) (th := th) ht_ hk_ ho_ h4_ (cl_ x_ + 1) (cl_ x_) (Nat.lt_succ_self _) s1_.2 u_
          have := c1_.2.1
          exact Or.inl (by omega)
        · have z_ := on_2 (tl_ := tl_) (th := th) ht_ hk_ ho_ h4_ (ch_ x_ + 1) (ch_ x_) (Nat.lt_succ_self _) s2_.2 u_
          have := c2_.2.1
          exact Or.inr (by omega)
      rw [on_n ht_ hk_ ho_ e_, kan_e c1_.1 c2_.1 _ one_, c1_.2.2, c2_.2.2, ← i1_, ← i2_]
      exact hv_.2.1 x_ ((fra ht_ hk_).1 x_ e_).1 q_ hq_
    · by_cases g_ : x_ = w_
      · rw [g_, kdx_w]
        rfl
      · by_cases u_ : x_ = a_
        · rw [u_] at g_
          rw [u_, kdx_a g_, show ((v_ a_ q_).toNat + 2 * (v_ b_ q_).toNat) % 2 = (v_ a_ q_).toNat by omega]
          exact toN_e.symm
        · have o_ : x_ = b_ := by
            rcases hd_ with d_ | d_ | d_ | d_
            · exact absurd d_ e_
            · exact absurd d_ g_
            · exact absurd d_ u_
            · exact d_
          rw [o_] at g_ u_
          rw [o_, kdx_b g_ u_, show ((v_ a_ q_).toNat + 2 * (v_ b_ q_).toNat) / 2 = (v_ b_ q_).toNat by omega]
          exact toN_e.symm
/-- what hangs on_ w_ hangs so_ on_ one_ side -/
theorem on_d (ht_ : trh inn_ cl_ ch_ n_ T_) (hk_ : frk inn_ cl_ ch_ n_ E_) (ho_ : onh inn_ cl_ ch_ n_ a_ b_ w_ E_) {y_ : Nat} (sy_ : w_ ∈ frg inn_ cl_ ch_ (n_ :: E_) y_) (ny_ : y_ ≠ w_) : ∃ u_, (u_ = cl_ y_ ∨ u_ = ch_ y_) ∧ w_ ∈ frg inn_ cl_ ch_ (n_ :: E_) u_ ∧ u_ < y_ ∧ kdx cl_ ch_ tl_ th a_ b_ w_ u_ 0 < 4 ∧ ∃ t_, ∀ q_, q_ < 4 → kdx cl_ ch_ tl_ th a_ b_ w_ u_ q_ < 4 ∧ (kdx cl_ ch_ tl_ th a_ b_ w_ y_ q_ = 0 ∨ kdx cl_ ch_ tl_ th a_ b_ w_ y_ q_ = ktn t_ (kdx cl_ ch_ tl_ th a_ b_ w_ u_ q_)) := by
  have e_ := (frg_hS ht_ hk_ y_ sy_ ny_).1
  have s1_ := on_s ht_ hk_ ho_ e_ (y_ := cl_ y_) (Or.inl rfl)
  have s2_ := on_s ht_ hk_ ho_ e_ (y_ := ch_ y_) (Or.inr rfl)
  have f1_ : ∀ q_, q_ < 4 → kdx cl_ ch_ tl_ th a_ b_ w_ (cl_ y_) q_ < 4 := fun q_ hq_ => on_4 ht_ hk_ ho_ hq_ (cl_ y_ + 1) (cl_ y_) (Nat.lt_succ_self _) s1_.2
  have f2_ : ∀ q_, q_ < 4 → kdx cl_ ch_ tl_ th a_ b_ w_ (ch_ y_) q_ < 4 := fun q_ hq_ => on_4 ht_ hk_ ho_ hq_ (ch_ y_ + 1) (ch_ y_) (Nat.lt_succ_self _) s2_.2
  have sy2_ := sy_
  rw [frg_p (fra_l ht_ hk_) e_] at sy2_
  rcases List.mem_append.mp sy2_ with u_ | u_
  · have nu_ : ¬ w_ ∈ frg inn_ cl_ ch_ (n_ :: E_) (ch_ y_) := fun z_ => frg_d ht_ hk_ e_ u_ z_
    refine ⟨cl_ y_, Or.inl rfl, u_, s1_.1, f1_ 0 (by decide), tl_ y_, fun q_ hq_ => ⟨f1_ q_ hq_, ?_⟩⟩
    have z_ := on_2 (tl_ := tl_) (th := th) ht_ hk_ ho_ hq_ (ch_ y_ + 1) (ch_ y_) (Nat.lt_succ_self _) s2_.2 nu_
    have c1_ := ktn_l (s_ := tl_ y_) (f1_ q_ hq_)
    have c2_ := ktn_l (s_ := th y_) (f2_ q_ hq_)
    rw [on_n ht_ hk_ ho_ e_]
    exact (kan_c c1_.1 c2_.1).1 (by
      have := c2_.2.1
      omega)
  · have nu_ : ¬ w_ ∈ frg inn_ cl_ ch_ (n_ :: E_) (cl_ y_) := fun z_ => frg_d ht_ hk_ e_ z_ u_
    refine ⟨ch_ y_, Or.inr rfl, u_, s2_.1, f2_ 0 (by decide), th y_, fun q_ hq_ => ⟨f2_ q_ hq_, ?_⟩⟩
    have z_ := on_2 (tl_ := tl_) (th := th) ht_ hk_ ho_ hq_ (cl_ y_ + 1) (cl_ y_) (Nat.lt_succ_self _) s1_.2 nu_
    have c1_ := ktn_l (s_ := tl_ y_) (f1_ q_ hq_)
    have c2_ := ktn_l (s_ := th y_) (f2_ q_ hq_)
    rw [on_n ht_ hk_ ho_ e_]
    exact (kan_c c1_.1 c2_.1).2 (by
      have := c1_.2.1
      omega)
/-- with one_ sign -/
theorem on_g (ht_ : trh inn_ cl_ ch_ n_ T_) (hk_ : frk inn_ cl_ ch_ n_ E_) (ho_ : onh inn_ cl_ ch_ n_ a_ b_ w_ E_) {q_ p_ : Nat} (hq_ : q_ < 4) (hp_ : p_ < 4) : ∀ m_ y_, y_ < m_ → w_ ∈ frg inn_ cl_ ch_ (n_ :: E_) y_ → 2 ≤ kdx cl_ ch_ tl_ th a_ b_ w_ y_ q_ → 2 ≤ kdx cl_ ch_ tl_ th a_ b_ w_ y_ p_ → kdx cl_ ch_ tl_ th a_ b_ w_ y_ q_ = kdx cl_ ch_ tl_ th a_ b_ w_ y_ p_
  | 0, y_, h_, _, _, _ => absurd h_ (Nat.not_lt_zero _)
  | m_ + 1, y_, hy_, sy_, h1_, h2_ => by
    by_cases ny_ : y_ = w_
    · rw [ny_, kdx_w, kdx_w]
    · obtain ⟨u_, _, s1_, lu_, _, t_, ht'_⟩ := on_d (tl_ := tl_) (th := th) ht_ hk_ ho_ sy_ ny_
      obtain ⟨b1_, k1_⟩ := ht'_ q_ hq_
      obtain ⟨b2_, k2_⟩ := ht'_ p_ hp_
      have k1_ : kdx cl_ ch_ tl_ th a_ b_ w_ y_ q_ = ktn t_ (kdx cl_ ch_ tl_ th a_ b_ w_ u_ q_) := by
        rcases k1_ with g_ | g_
        · omega
        · exact g_
      have k2_ : kdx cl_ ch_ tl_ th a_ b_ w_ y_ p_ = ktn t_ (kdx cl_ ch_ tl_ th a_ b_ w_ u_ p_) := by
        rcases k2_ with g_ | g_
        · omega
        · exact g_
      have d1_ := (ktn_l (s_ := t_) b1_).2.1
      have d2_ := (ktn_l (s_ := t_) b2_).2.1
      rw [k1_] at h1_
      rw [k2_] at h2_
      rw [k1_, k2_, on_g ht_ hk_ ho_ hq_ hp_ m_ u_ (by omega) s1_ (d1_.mp h1_) (d2_.mp h2_)]
/-- a_ place where all_ that hang on_ w_ do_ so_ -/
theorem on_p (ht_ : trh inn_ cl_ ch_ n_ T_) (hk_ : frk inn_ cl_ ch_ n_ E_) (ho_ : onh inn_ cl_ ch_ n_ a_ b_ w_ E_) : ∃ p_, p_ < 4 ∧ ∀ x_, w_ ∈ frg inn_ cl_ ch_ (n_ :: E_) x_ → (∃ q_, q_ < 4 ∧ 2 ≤ kdx cl_ ch_ tl_ th a_ b_ w_ x_ q_) → 2 ≤ kdx cl_ ch_ tl_ th a_ b_ w_ x_ p_ := by
  have ow_ := on_w ht_ hk_ ho_
  have sw_ : w_ ∈ frg inn_ cl_ ch_ (n_ :: E_) w_ := by
    rw [frg_i ow_.2.1 ow_.1]
    exact List.mem_singleton.mpr rfl
  have wn_ : w_ ≤ n_ := by
    obtain ⟨⟨p_, hp_, hs_⟩, _⟩ := ((frc_a ht_ E_ hk_).2 w_).mp ow_.2.2
    have f_ := (fra ht_ hk_).1 p_ (List.mem_cons.mpr hp_)
    rcases hs_ with g_ | g_
    · omega
    · omega
  obtain ⟨y_, ⟨sy_, p_, hp_, hy_⟩, mx_⟩ := nat_max (p_ := fun x_ => w_ ∈ frg inn_ cl_ ch_ (n_ :: E_) x_ ∧ ∃ q_, q_ < 4 ∧ 2 ≤ kdx cl_ ch_ tl_ th a_ b_ w_ x_ q_) (B_ := n_) (fun k_ hk2_ => by
    by_cases e_ : k_ = w_
    · omega
    · exact ((fra ht_ hk_).1 k_ (frg_hS ht_ hk_ k_ hk2_.1 e_).1).2.1) (n_ + 1) w_ (by omega) ⟨sw_, 0, by decide, by rw [kdx_w]; exact Nat.le_refl _⟩
  refine ⟨p_, hp_, fun x_ sx_ hx_ => ?_⟩
  have lx_ := mx_ x_ ⟨sx_, hx_⟩
  exact (btw_c (S_ := fun u_ => w_ ∈ frg inn_ cl_ ch_ (n_ :: E_) u_) (w_ := w_) (D_ := fun u_ q_ => q_ < 4 ∧ 2 ≤ kdx cl_ ch_ tl_ th a_ b_ w_ u_ q_) (fun u_ hu_ nu_ => (frg_hS ht_ hk_ u_ hu_ nu_).2) (frg_hu ht_ hk_) (fun y_ sy_ ny_ => by
    obtain ⟨u_, cu_, s1_, lu_, _, t_, ht'_⟩ := on_d (tl_ := tl_) (th := th) ht_ hk_ ho_ sy_ ny_
    refine ⟨u_, cu_, s1_, lu_, fun q_ hq_ => ⟨hq_.1, ?_⟩⟩
    obtain ⟨b1_, k1_⟩ := ht'_ q_ hq_.1
    have d1_ := (ktn_l (s_ := t_) b1_).2.1
    have h2_ := hq_.2
    rcases k1_ with g_ | g_
    · omega
    · rw [g_] at h2_
      exact d1_.mp h2_) (y_ + 1) y_ (Nat.lt_succ_self _) sy_ x_ sx_ lx_ p_ ⟨hp_, hy_⟩).2
end ON_
/-! keys -/
def knk (X_ u_ : Nat) : Nat := if 2 ≤ u_ then 2 else if X_ = 3 then 1 - u_ else u_
def kdf (x_ y_ : Nat) : Nat := if x_ = y_ then 0 else 1
def kky (k_ : Nat → Nat) (p_ : Nat) : Nat := if 2 ≤ k_ p_ then 8 + knk (k_ p_) (k_ (p_ ^^^ 1)) + 3 * knk (k_ p_) (k_ (p_ ^^^ 2)) + 9 * knk (k_ p_) (k_ (p_ ^^^ 3)) else kdf (k_ 1) (k_ 0) + 2 * kdf (k_ 2) (k_ 0) + 4 * kdf (k_ 3) (k_ 0)
theorem knk_l {X_ u_ : Nat} : knk X_ u_ ≤ 2 := by
  unfold knk
  split
  · exact Nat.le_refl _
  · split <;> omega
theorem kdf_l {x_ y_ : Nat} : kdf x_ y_ ≤ 1 := by
  unfold kdf
  split <;> omega
theorem kky_l {k_ : Nat → Nat} {p_ : Nat} : kky k_ p_ < 35 := by
  have a1_ := knk_l (X_ := k_ p_) (u_ := k_ (p_ ^^^ 1))
  have a2_ := knk_l (X_ := k_ p_) (u_ := k_ (p_ ^^^ 2))
  have a3_ := knk_l (X_ := k_ p_) (u_ := k_ (p_ ^^^ 3))
  have b1_ := kdf_l (x_ := k_ 1) (y_ := k_ 0)
  have b2_ := kdf_l (x_ := k_ 2) (y_ := k_ 0)
  have b3_ := kdf_l (x_ := k_ 3) (y_ := k_ 0)
  unfold kky
  split <;> omega
theorem knk_u0 : ∀ X_ Y_ u_ v_ : Fin 4, 2 ≤ X_.val → 2 ≤ Y_.val → (2 ≤ u_.val → u_.val = X_.val) → (2 ≤ v_.val → v_.val = Y_.val) → knk X_.val u_.val = knk Y_.val v_.val → v_.val = ktn (decide (X_.val ≠ Y_.val)) u_.val := by decide
theorem knk_u {X_ Y_ u_ v_ : Nat} (hX_ : X_ < 4) (hY_ : Y_ < 4) (hu_ : u_ < 4) (hv_ : v_ < 4) (h1_ : 2 ≤ X_) (h2_ : 2 ≤ Y_) (h3_ : 2 ≤ u_ → u_ = X_) (h4_ : 2 ≤ v_ → v_ = Y_) (h_ : knk X_ u_ = knk Y_ v_) : v_ = ktn (decide (X_ ≠ Y_)) u_ := knk_u0 ⟨X_, hX_⟩ ⟨Y_, hY_⟩ ⟨u_, hu_⟩ ⟨v_, hv_⟩ h1_ h2_ h3_ h4_ h_
theorem kdf_u0 : ∀ x_ z_ y_ t_ : Fin 2, kdf z_.val x_.val = kdf t_.val y_.val → t_.val = ktn (decide (x_.val ≠ y_.val)) z_.val := by decide
theorem kdf_u {x_ z_ y_ t_ : Nat} (hx_ : x_ < 2) (hz_ : z_ < 2) (hy_ : y_ < 2) (ht_ : t_ < 2) (h_ : kdf z_ x_ = kdf t_ y_) : t_ = ktn (decide (x_ ≠ y_)) z_ := kdf_u0 ⟨x_, hx_⟩ ⟨z_, hz_⟩ ⟨y_, hy_⟩ ⟨t_, ht_⟩ h_
theorem x4_0 : ∀ p_ q_ : Fin 4, (q_.val = p_.val ∨ q_.val = p_.val ^^^ 1 ∨ q_.val = p_.val ^^^ 2 ∨ q_.val = p_.val ^^^ 3) ∧ p_.val ^^^ 1 < 4 ∧ p_.val ^^^ 2 < 4 ∧ p_.val ^^^ 3 < 4 := by decide
theorem x4_c {p_ q_ : Nat} (hp_ : p_ < 4) (hq_ : q_ < 4) : (q_ = p_ ∨ q_ = p_ ^^^ 1 ∨ q_ = p_ ^^^ 2 ∨ q_ = p_ ^^^ 3) ∧ p_ ^^^ 1 < 4 ∧ p_ ^^^ 2 < 4 ∧ p_ ^^^ 3 < 4 := x4_0 ⟨p_, hp_⟩ ⟨q_, hq_⟩
theorem kky_u {k_ j_ : Nat → Nat} {p_ : Nat} (hp_ : p_ < 4) (hk_ : ∀ q_, q_ < 4 → k_ q_ < 4) (hj_ : ∀ q_, q_ < 4 → j_ q_ < 4) (k1_ : (∀ q_, q_ < 4 → k_ q_ < 2) ∨ (2 ≤ k_ p_ ∧ ∀ q_, q_ < 4 → 2 ≤ k_ q_ → k_ q_ = k_ p_)) (j1_ : (∀ q_, q_ < 4 → j_ q_ < 2) ∨ (2 ≤ j_ p_ ∧ ∀ q_, q_ < 4 → 2 ≤ j_ q_ → j_ q_ = j_ p_)) (h_ : kky k_ p_ = kky j_ p_) : ∃ s_, ∀ q_, q_ < 4 → j_ q_ = ktn s_ (k_ q_) := by
  have a1_ := knk_l (X_ := k_ p_) (u_ := k_ (p_ ^^^ 1))
  have a2_ := knk_l (X_ := k_ p_) (u_ := k_ (p_ ^^^ 2))
  have a3_ := knk_l (X_ := k_ p_) (u_ := k_ (p_ ^^^ 3))
  have b1_ := kdf_l (x_ := k_ 1) (y_ := k_ 0)
  have b2_ := kdf_l (x_ := k_ 2) (y_ := k_ 0)
  have b3_ := kdf_l (x_ := k_ 3) (y_ := k_ 0)
  have c1_ := knk_l (X_ := j_ p_) (u_ := j_ (p_ ^^^ 1))
  have c2_ := knk_l (X_ := j_ p_) (u_ := j_ (p_ ^^^ 2))
  have c3_ := knk_l (X_ := j_ p_) (u_ := j_ (p_ ^^^ 3))
  have d1_ := kdf_l (x_ := j_ 1) (y_ := j_ 0)
  have d2_ := kdf_l (x_ := j_ 2) (y_ := j_ 0)
  have d3_ := kdf_l (x_ := j_ 3) (y_ := j_ 0)
  have hk0_ : kky k_ p_ = if 2 ≤ k_ p_ then 8 + knk (k_ p_) (k_ (p_ ^^^ 1)) + 3 * knk (k_ p_) (k_ (p_ ^^^ 2)) + 9 * knk (k_ p_) (k_ (p_ ^^^ 3)) else kdf (k_ 1) (k_ 0) + 2 * kdf (k_ 2) (k_ 0) + 4 * kdf (k_ 3) (k_ 0) := rfl
  have hj0_ : kky j_ p_ = if 2 ≤ j_ p_ then 8 + knk (j_ p_) (j_ (p_ ^^^ 1)) + 3 * knk (j_ p_) (j_ (p_ ^^^ 2)) + 9 * knk (j_ p_) (j_ (p_ ^^^ 3)) else kdf (j_ 1) (j_ 0) + 2 * kdf (j_ 2) (j_ 0) + 4 * kdf (j_ 3) (j_ 0) := rfl
  by_cases ck_ : 2 ≤ k_ p_
  · rw [if_pos ck_] at hk0_
    by_cases cj_ : 2 ≤ j_ p_
    · rw [if_pos cj_] at hj0_
      have e1_ : knk (k_ p_) (k_ (p_ ^^^ 1)) = knk (j_ p_) (j_ (p_ ^^^ 1)) := by omega
      have e2_ : knk (k_ p_) (k_ (p_ ^^^ 2)) = knk (j_ p_) (j_ (p_ ^^^ 2)) := by omega
      have e3_ : knk (k_ p_) (k_ (p_ ^^^ 3)) = knk (j_ p_) (j_ (p_ ^^^ 3)) := by omega
      have gk_ : ∀ q_, q_ < 4 → 2 ≤ k_ q_ → k_ q_ = k_ p_ := by
        rcases k1_ with u_ | u_
        · have := u_ p_ hp_
          omega
        · exact u_.2
      have gj_ : ∀ q_, q_ < 4 → 2 ≤ j_ q_ → j_ q_ = j_ p_ := by
        rcases j1_ with u_ | u_
        · have := u_ p_ hp_
          omega
        · exact u_.2
      have st_ : ∀ q_, q_ < 4 → knk (k_ p_) (k_ q_) = knk (j_ p_) (j_ q_) → j_ q_ = ktn (decide (k_ p_ ≠ j_ p_)) (k_ q_) := fun q_ hq_ e_ => knk_u (hk_ p_ hp_) (hj_ p_ hp_) (hk_ q_ hq_) (hj_ q_ hq_) ck_ cj_ (gk_ q_ hq_) (gj_ q_ hq_) e_
      refine ⟨decide (k_ p_ ≠ j_ p_), fun q_ hq_ => ?_⟩
      obtain ⟨hx_, x1_, x2_, x3_⟩ := x4_c hp_ hq_
      rcases hx_ with u_ | u_ | u_ | u_
      · rw [u_]
        refine st_ p_ hp_ ?_
        unfold knk
        rw [if_pos ck_, if_pos cj_]
      · rw [u_]
        exact st_ _ x1_ e1_
      · rw [u_]
        exact st_ _ x2_ e2_
      · rw [u_]
        exact st_ _ x3_ e3_
    · rw [if_neg cj_] at hj0_
      omega
  · rw [if_neg ck_] at hk0_
    by_cases cj_ : 2 ≤ j_ p_
    · rw [if_pos cj_] at hj0_
      omega
    · rw [if_neg cj_] at hj0_
      have e1_ : kdf (k_ 1) (k_ 0) = kdf (j_ 1) (j_ 0) := by omega
      have e2_ : kdf (k_ 2) (k_ 0) = kdf (j_ 2) (j_ 0) := by omega
      have e3_ : kdf (k_ 3) (k_ 0) = kdf (j_ 3) (j_ 0) := by omega
      have gk_ : ∀ q_, q_ < 4 → k_ q_ < 2 := by
        rcases k1_ with u_ | u_
        · exact u_
        · exact absurd u_.1 ck_
      have gj_ : ∀ q_, q_ < 4 → j_ q_ < 2 := by
        rcases j1_ with u_ | u_
        · exact u_
        · exact absurd u_.1 cj_
      have st_ : ∀ q_, q_ < 4 → kdf (k_ q_) (k_ 0) = kdf (j_ q_) (j_ 0) → j_ q_ = ktn (decide (k_ 0 ≠ j_ 0)) (k_ q_) := fun q_ hq_ e_ => kdf_u (gk_ 0 (by decide)) (gk_ q_ hq_) (gj_ 0 (by decide)) (gj_ q_ hq_) e_
      refine ⟨decide (k_ 0 ≠ j_ 0), fun q_ hq_ => ?_⟩
      have qc_ : q_ = 0 ∨ q_ = 1 ∨ q_ = 2 ∨ q_ = 3 := by omega
      rcases qc_ with u_ | u_ | u_ | u_
      · rw [u_]
        refine st_ 0 (by decide) ?_
        unfold kdf
        rw [if_pos rfl, if_pos rfl]
      · rw [u_]
        exact st_ 1 (by decide) e1_
      · rw [u_]
        exact st_ 2 (by decide) e2_
      · rw [u_]
        exact st_ 3 (by decide) e3_
end
