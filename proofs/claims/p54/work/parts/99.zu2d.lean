/-! the reference: cell; written by wip/p55/gen/vg -/

/-- the_ reference's inverter among the_ first cells of_ a_ library -/
def rfv (A_ : Nat → Nat → Nat → Int) (a_ : Int) : Nat → Int
  | 0 => -1
  | k_ + 1 => if A_ 185 0 (12 * a_ + (k_ : Int)).toNat = 1 ∧ A_ 186 0 (12 * a_ + (k_ : Int)).toNat = 1 ∧ (rfv A_ a_ k_ = -1 ∨ A_ 187 0 (12 * a_ + (k_ : Int)).toNat < A_ 187 0 (12 * a_ + rfv A_ a_ k_).toNat) then (k_ : Int) else rfv A_ a_ k_
theorem rfv_s {A_ : Nat → Nat → Nat → Int} {a_ : Int} {k_ : Nat} : rfv A_ a_ (k_ + 1) = if A_ 185 0 (12 * a_ + (k_ : Int)).toNat = 1 ∧ A_ 186 0 (12 * a_ + (k_ : Int)).toNat = 1 ∧ (rfv A_ a_ k_ = -1 ∨ A_ 187 0 (12 * a_ + (k_ : Int)).toNat < A_ 187 0 (12 * a_ + rfv A_ a_ k_).toNat) then (k_ : Int) else rfv A_ a_ k_ := rfl

/-! M_.inverterOf -/
def vw_379v : sx_Wl := ([], [], [])
def vq_379v (a1_ : Int) (S0_ : sm_S) (u_ : Option sm_V) (S1_ : sm_S) : Prop := S0_ = S1_ ∧ ∃ v_ : Int, u_ = some (.inl v_) ∧ (v_ = rfv S1_.2.2.1 a1_ (S1_.2.2.1 184 0 a1_.toNat).toNat ∧ -1 ≤ v_ ∧ v_ ≤ 11)
set_option maxHeartbeats 400000 in
set_option maxRecDepth 20000 in
theorem vl_379v {sc_ : Nat × (Nat → Int)} (a1_ : Int) (S0_ : sm_S) (ha_ : 0 ≤ a1_ ∧ a1_ ≤ 2) : ∀ nn_ : Nat, (∀ (b_ : Int) (c_ : Int) (S_ : sm_S), gi S_ → ai_fr (sx_W vw_379v) S0_ S_ → ((0 ≤ c_ ∧ c_ ≤ 12 ∧ c_ ≤ S_.2.2.1 184 0 a1_.toNat) ∧ (b_ = rfv S_.2.2.1 a1_ c_.toNat) ∧ (-1 ≤ b_ ∧ b_ ≤ 11 ∧ b_ < c_) ∧ (S_ = S0_) ∧ True) → ((20 - c_).toNat) < nn_ → sm_T (mt_P sc_) 0 379 (4, [some (.inr (.inr (some (13, 0)))), some (.inl a1_), some (.inl b_), some (.inl c_), none], [], S_) (fun ro9_ => ∃ u_ S1_, ro9_ = (.inl u_, S1_, 0) ∧ vq_379v a1_ S0_ u_ S1_)) := by
  intro nn_
  induction nn_ with
  | zero => exact fun _ _ _ _ _ _ h_ => absurd h_ (Nat.not_lt_zero _)
  | succ nn_ ih_ =>
    rintro b_ c_ S_ hI_ hF_ ⟨h0_, h1_, h2_, hS_, -⟩ hm_
    subst hS_
    have cb_ : 0 ≤ S_.2.2.1 184 0 a1_.toNat ∧ S_.2.2.1 184 0 a1_.toNat ≤ 12 := hI_.2 184 0 _
    refine sm_T_go 4 (c1 := (10, [some (.inr (.inr (some (13, 0)))), some (.inl a1_), some (.inl b_), some (.inl c_), none], [.inl a1_, .inr (.inr (some (184, 0))), .inl c_], S_)) rfl ?_
    refine sm_T_iald (n := 3) rfl rfl (by omega) (by omega) ?_
    have bx1_ : 0 ≤ S_.2.2.1 184 0 a1_.toNat ∧ S_.2.2.1 184 0 a1_.toNat ≤ 12 := hI_.2 184 0 _
    refine sm_T_br (a := 3) (z := 87) rfl (fun cx2_ => ?_) (fun cx2_ => ?_)
    · have cx2_ : (S_.2.2.1 184 0 a1_.toNat) ≤ c_ := of_decide_eq_true cx2_
      refine sm_T_go 1 (c1 := (99, [some (.inr (.inr (some (13, 0)))), some (.inl a1_), some (.inl b_), some (.inl c_), none], [.inl b_], S_)) rfl ?_
      refine sm_T_ri rfl ⟨_, _, rfl, (by first | rfl | exact hS_.symm), _, rfl, ?_⟩
      exact ⟨h1_.trans (congrArg (rfv _ a1_) (by omega)), by omega, by omega⟩
    · have cx2_ : ¬ ((S_.2.2.1 184 0 a1_.toNat) ≤ c_) := of_decide_eq_false cx2_
      refine sm_T_go 4 (c1 := (21, [some (.inr (.inr (some (13, 0)))), some (.inl a1_), some (.inl b_), some (.inl c_), none], [.inl a1_, .inl 12, .inr (.inr (some (185, 0)))], S_)) rfl ?_
      refine sm_T_bin (w := 12 * a1_) rfl (bi_mul (by omega) (by omega) (by omega)) ?_ -- pc_ 21
      refine sm_T_go 1 (c1 := (23, [some (.inr (.inr (some (13, 0)))), some (.inl a1_), some (.inl b_), some (.inl c_), none], [.inl c_, .inl (12 * a1_), .inr (.inr (some (185, 0)))], S_)) rfl ?_
      refine sm_T_bin (w := 12 * a1_ + c_) rfl (bi_add (by omega) (by omega) (by omega)) ?_ -- pc_ 23
      refine sm_T_iald (n := 36) rfl rfl (by omega) (by omega) ?_
      have bx3_ : 0 ≤ S_.2.2.1 185 0 (12 * a1_ + c_).toNat ∧ S_.2.2.1 185 0 (12 * a1_ + c_).toNat ≤ 3 := hI_.2 185 0 _
      refine sm_T_go 1 (c1 := (26, [some (.inr (.inr (some (13, 0)))), some (.inl a1_), some (.inl b_), some (.inl c_), none], [.inl 1, .inl (S_.2.2.1 185 0 (12 * a1_ + c_).toNat)], S_)) rfl ?_
      refine sm_T_br (a := 1) (z := 22) rfl (fun cx4_ => ?_) (fun cx4_ => ?_)
      · have cx4_ : (S_.2.2.1 185 0 (12 * a1_ + c_).toNat) ≠ 1 := of_decide_eq_true cx4_
        refine sm_T_go 6 (c1 := (92, [some (.inr (.inr (some (13, 0)))), some (.inl a1_), some (.inl b_), some (.inl c_), some (.inl 0)], [], S_)) rfl ?_
        refine sm_T_inc (a := 3) (z := 1) (v := c_) (w := c_ + 1) rfl rfl (by omega) (by omega) (by omega) ?_ -- pc_ 92
        refine sm_T_go 1 (c1 := (4, [some (.inr (.inr (some (13, 0)))), some (.inl a1_), some (.inl b_), some (.inl (c_ + 1)), some (.inl 0)], [], S_)) rfl ?_
        refine sm_T_wk [some (.inr (.inr (some (13, 0)))), some (.inl a1_), some (.inl b_), some (.inl (c_ + 1)), none] (by exact ⟨rfl, rfl, rfl, rfl, trivial⟩) ?_
        refine ih_ b_ (c_ + 1) S_ hI_ hF_ ⟨?_, ?_, ?_, ?_, trivial⟩ ?_
        · omega
        · rw [show (c_ + 1).toNat = c_.toNat + 1 by omega, rfv_s, show ((c_.toNat : Nat) : Int) = c_ by omega, ← h1_]
          first | (rw [if_pos (by omega)]) | (rw [if_neg (by omega)])
        · omega
        · rfl
        · omega
      · have cx4_ : ¬ ((S_.2.2.1 185 0 (12 * a1_ + c_).toNat) ≠ 1) := of_decide_eq_false cx4_
        refine sm_T_go 4 (c1 := (36, [some (.inr (.inr (some (13, 0)))), some (.inl a1_), some (.inl b_), some (.inl c_), none], [.inl a1_, .inl 12, .inr (.inr (some (186, 0)))], S_)) rfl ?_
        refine sm_T_bin (w := 12 * a1_) rfl (bi_mul (by omega) (by omega) (by omega)) ?_ -- pc_ 36
        refine sm_T_go 1 (c1 := (38, [some (.inr (.inr (some (13, 0)))), some (.inl a1_), some (.inl b_), some (.inl c_), none], [.inl c_, .inl (12 * a1_), .inr (.inr (some (186, 0)))], S_)) rfl ?_
        refine sm_T_bin (w := 12 * a1_ + c_) rfl (bi_add (by omega) (by omega) (by omega)) ?_ -- pc_ 38
        refine sm_T_iald (n := 36) rfl rfl (by omega) (by omega) ?_
        have bx5_ : 0 ≤ S_.2.2.1 186 0 (12 * a1_ + c_).toNat ∧ S_.2.2.1 186 0 (12 * a1_ + c_).toNat ≤ 255 := hI_.2 186 0 _
        refine sm_T_go 1 (c1 := (41, [some (.inr (.inr (some (13, 0)))), some (.inl a1_), some (.inl b_), some (.inl c_), none], [.inl 1, .inl (S_.2.2.1 186 0 (12 * a1_ + c_).toNat)], S_)) rfl ?_
        refine sm_T_br (a := 1) (z := 7) rfl (fun cx6_ => ?_) (fun cx6_ => ?_)
        · have cx6_ : (S_.2.2.1 186 0 (12 * a1_ + c_).toNat) ≠ 1 := of_decide_eq_true cx6_
          refine sm_T_go 6 (c1 := (92, [some (.inr (.inr (some (13, 0)))), some (.inl a1_), some (.inl b_), some (.inl c_), some (.inl 0)], [], S_)) rfl ?_
          refine sm_T_inc (a := 3) (z := 1) (v := c_) (w := c_ + 1) rfl rfl (by omega) (by omega) (by omega) ?_ -- pc_ 92
          refine sm_T_go 1 (c1 := (4, [some (.inr (.inr (some (13, 0)))), some (.inl a1_), some (.inl b_), some (.inl (c_ + 1)), some (.inl 0)], [], S_)) rfl ?_
          refine sm_T_wk [some (.inr (.inr (some (13, 0)))), some (.inl a1_), some (.inl b_), some (.inl (c_ + 1)), none] (by exact ⟨rfl, rfl, rfl, rfl, trivial⟩) ?_
          refine ih_ b_ (c_ + 1) S_ hI_ hF_ ⟨?_, ?_, ?_, ?_, trivial⟩ ?_
          · omega
          · rw [show (c_ + 1).toNat = c_.toNat + 1 by omega, rfv_s, show ((c_.toNat : Nat) : Int) = c_ by omega, ← h1_]
            first | (rw [if_pos (by omega)]) | (rw [if_neg (by omega)])
          · omega
          · rfl
          · omega
        · have cx6_ : ¬ ((S_.2.2.1 186 0 (12 * a1_ + c_).toNat) ≠ 1) := of_decide_eq_false cx6_
          refine sm_T_go 7 (c1 := (58, [some (.inr (.inr (some (13, 0)))), some (.inl a1_), some (.inl b_), some (.inl c_), some (.inl 1)], [.inl (-1), .inl b_], S_)) rfl ?_
          refine sm_T_br (a := 0) (z := 28) rfl (fun cx7_ => ?_) (fun cx7_ => ?_)
          · have cx7_ : b_ = (-1) := of_decide_eq_true cx7_
            refine sm_T_go 3 (c1 := (92, [some (.inr (.inr (some (13, 0)))), some (.inl a1_), some (.inl c_), some (.inl c_), some (.inl 1)], [], S_)) rfl ?_
            refine sm_T_inc (a := 3) (z := 1) (v := c_) (w := c_ + 1) rfl rfl (by omega) (by omega) (by omega) ?_ -- pc_ 92
            refine sm_T_go 1 (c1 := (4, [some (.inr (.inr (some (13, 0)))), some (.inl a1_), some (.inl c_), some (.inl (c_ + 1)), some (.inl 1)], [], S_)) rfl ?_
            refine sm_T_wk [some (.inr (.inr (some (13, 0)))), some (.inl a1_), some (.inl c_), some (.inl (c_ + 1)), none] (by exact ⟨rfl, rfl, rfl, rfl, trivial⟩) ?_
            refine ih_ c_ (c_ + 1) S_ hI_ hF_ ⟨?_, ?_, ?_, ?_, trivial⟩ ?_
            · omega
            · rw [show (c_ + 1).toNat = c_.toNat + 1 by omega, rfv_s, show ((c_.toNat : Nat) : Int) = c_ by omega, ← h1_]
              first | (rw [if_pos (by omega)]) | (rw [if_neg (by omega)])
            · omega
            · rfl
            · omega
          · have cx7_ : ¬ (b_ = (-1)) := of_decide_eq_false cx7_
            refine sm_T_go 4 (c1 := (68, [some (.inr (.inr (some (13, 0)))), some (.inl a1_), some (.inl b_), some (.inl c_), some (.inl 1)], [.inl a1_, .inl 12, .inr (.inr (some (187, 0)))], S_)) rfl ?_
            refine sm_T_bin (w := 12 * a1_) rfl (bi_mul (by omega) (by omega) (by omega)) ?_ -- pc_ 68
            refine sm_T_go 1 (c1 := (70, [some (.inr (.inr (some (13, 0)))), some (.inl a1_), some (.inl b_), some (.inl c_), some (.inl 1)], [.inl c_, .inl (12 * a1_), .inr (.inr (some (187, 0)))], S_)) rfl ?_
            refine sm_T_bin (w := 12 * a1_ + c_) rfl (bi_add (by omega) (by omega) (by omega)) ?_ -- pc_ 70
            refine sm_T_iald (n := 36) rfl rfl (by omega) (by omega) ?_
            have bx8_ : 0 ≤ S_.2.2.1 187 0 (12 * a1_ + c_).toNat ∧ S_.2.2.1 187 0 (12 * a1_ + c_).toNat ≤ 1000 := hI_.2 187 0 _
            refine sm_T_go 4 (c1 := (79, [some (.inr (.inr (some (13, 0)))), some (.inl a1_), some (.inl b_), some (.inl c_), some (.inl 1)], [.inl a1_, .inl 12, .inr (.inr (some (187, 0))), .inl (S_.2.2.1 187 0 (12 * a1_ + c_).toNat)], S_)) rfl ?_
            refine sm_T_bin (w := 12 * a1_) rfl (bi_mul (by omega) (by omega) (by omega)) ?_ -- pc_ 79
            refine sm_T_go 1 (c1 := (81, [some (.inr (.inr (some (13, 0)))), some (.inl a1_), some (.inl b_), some (.inl c_), some (.inl 1)], [.inl b_, .inl (12 * a1_), .inr (.inr (some (187, 0))), .inl (S_.2.2.1 187 0 (12 * a1_ + c_).toNat)], S_)) rfl ?_
            refine sm_T_bin (w := 12 * a1_ + b_) rfl (bi_add (by omega) (by omega) (by omega)) ?_ -- pc_ 81
            refine sm_T_iald (n := 36) rfl rfl (by omega) (by omega) ?_
            have bx9_ : 0 ≤ S_.2.2.1 187 0 (12 * a1_ + b_).toNat ∧ S_.2.2.1 187 0 (12 * a1_ + b_).toNat ≤ 1000 := hI_.2 187 0 _
            refine sm_T_br (a := 3) (z := 7) rfl (fun cx10_ => ?_) (fun cx10_ => ?_)
            · have cx10_ : (S_.2.2.1 187 0 (12 * a1_ + b_).toNat) ≤ (S_.2.2.1 187 0 (12 * a1_ + c_).toNat) := of_decide_eq_true cx10_
              refine sm_T_go 2 (c1 := (92, [some (.inr (.inr (some (13, 0)))), some (.inl a1_), some (.inl b_), some (.inl c_), some (.inl 1)], [], S_)) rfl ?_
              refine sm_T_inc (a := 3) (z := 1) (v := c_) (w := c_ + 1) rfl rfl (by omega) (by omega) (by omega) ?_ -- pc_ 92
              refine sm_T_go 1 (c1 := (4, [some (.inr (.inr (some (13, 0)))), some (.inl a1_), some (.inl b_), some (.inl (c_ + 1)), some (.inl 1)], [], S_)) rfl ?_
              refine sm_T_wk [some (.inr (.inr (some (13, 0)))), some (.inl a1_), some (.inl b_), some (.inl (c_ + 1)), none] (by exact ⟨rfl, rfl, rfl, rfl, trivial⟩) ?_
              refine ih_ b_ (c_ + 1) S_ hI_ hF_ ⟨?_, ?_, ?_, ?_, trivial⟩ ?_
              · omega
              · rw [show (c_ + 1).toNat = c_.toNat + 1 by omega, rfv_s, show ((c_.toNat : Nat) : Int) = c_ by omega, ← h1_]
                first | (rw [if_pos (by omega)]) | (rw [if_neg (by omega)])
              · omega
              · rfl
              · omega
            · have cx10_ : ¬ ((S_.2.2.1 187 0 (12 * a1_ + b_).toNat) ≤ (S_.2.2.1 187 0 (12 * a1_ + c_).toNat)) := of_decide_eq_false cx10_
              refine sm_T_go 3 (c1 := (92, [some (.inr (.inr (some (13, 0)))), some (.inl a1_), some (.inl c_), some (.inl c_), some (.inl 1)], [], S_)) rfl ?_
              refine sm_T_inc (a := 3) (z := 1) (v := c_) (w := c_ + 1) rfl rfl (by omega) (by omega) (by omega) ?_ -- pc_ 92
              refine sm_T_go 1 (c1 := (4, [some (.inr (.inr (some (13, 0)))), some (.inl a1_), some (.inl c_), some (.inl (c_ + 1)), some (.inl 1)], [], S_)) rfl ?_
              refine sm_T_wk [some (.inr (.inr (some (13, 0)))), some (.inl a1_), some (.inl c_), some (.inl (c_ + 1)), none] (by exact ⟨rfl, rfl, rfl, rfl, trivial⟩) ?_
              refine ih_ c_ (c_ + 1) S_ hI_ hF_ ⟨?_, ?_, ?_, ?_, trivial⟩ ?_
              · omega
              · rw [show (c_ + 1).toNat = c_.toNat + 1 by omega, rfv_s, show ((c_.toNat : Nat) : Int) = c_ by omega, ← h1_]
                first | (rw [if_pos (by omega)]) | (rw [if_neg (by omega)])
              · omega
              · rfl
              · omega
set_option maxHeartbeats 400000 in
set_option maxRecDepth 20000 in
theorem vc_379v {sc_ : Nat × (Nat → Int)} (a1_ : Int) (S0_ : sm_S) (hI_ : gi S0_) (ha_ : 0 ≤ a1_ ∧ a1_ ≤ 2) : sm_T (mt_P sc_) 0 379 (0, [some (.inr (.inr (some (13, 0)))), some (.inl a1_), none, none, none], [], S0_) (fun ro9_ => ∃ u_ S1_, ro9_ = (.inl u_, S1_, 0) ∧ vq_379v a1_ S0_ u_ S1_) := by
  have hF_ : ai_fr (sx_W vw_379v) S0_ S0_ := ai_fr_rf
  refine sm_T_go 4 (c1 := (4, [some (.inr (.inr (some (13, 0)))), some (.inl a1_), some (.inl (-1)), some (.inl 0), none], [], S0_)) rfl ?_
  refine (vl_379v a1_ S0_ ha_ _) (-1) 0 S0_ hI_ hF_ ⟨?_, ?_, ?_, ?_, trivial⟩ (Nat.lt_succ_self _)
  · exact ⟨by decide, by decide, (hI_.2 184 0 a1_.toNat).1⟩
  · rfl
  · omega
  · rfl
/-! M_.cell -/
