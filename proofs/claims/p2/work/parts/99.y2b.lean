/-! M_.isSame -/
def vw_301 : sx_Wl := ([], [], [])
def vq_301 (t_ : Int) (w_ : Int) (b_ : Nat → Int) (n_ : Nat) (T_ : Nat) (p_ : Nat) (q_ : Nat) (S0_ : sm_S) (u_ : Option sm_V) (S1_ : sm_S) : Prop := S0_ = S1_ ∧ ∃ v_ : Int, u_ = some (.inl v_) ∧ (v_ = if nm_q b_ n_ p_ q_ = true then 1 else 0)
set_option maxHeartbeats 400000 in
theorem vc_301 {sc_ : Nat × (Nat → Int)} (t_ : Int) (w_ : Int) (b_ : Nat → Int) (n_ : Nat) (T_ : Nat) (p_ : Nat) (q_ : Nat) (S0_ : sm_S) (hI_ : gi S0_) (ht_ : rtab b_ n_ T_ S0_) (h1_ : rtk b_ n_ T_ t_ p_) (h2_ : rtk b_ n_ T_ w_ q_) : sm_T (mt_P sc_) 0 301 (0, [some (.inr (.inr (some (13, 0)))), some (.inl t_), some (.inl w_)], [], S0_) (fun r_ => ∃ u_ S1_, r_ = (.inl u_, S1_, 0) ∧ vq_301 t_ w_ b_ n_ T_ p_ q_ S0_ u_ S1_) := by
  have hF_ : ai_fr (sx_W vw_301) S0_ S0_ := ai_fr_rf
  have e1_ := rtk_at ht_ h1_
  have e2_ := rtk_at ht_ h2_
  have e3_ := nm_rk e1_.2.1 e2_.2.1
  rw [← e1_.2.2.1, ← e1_.2.2.2.1, ← e2_.2.2.1, ← e2_.2.2.2.1] at e3_
  have e4_ := lcmp0 (x := S0_.2.2.2 122 0 t_.toNat) (y := S0_.2.2.2 122 0 w_.toNat)
  refine sm_T_go 3 (c1 := (5, [some (.inr (.inr (some (13, 0)))), some (.inl t_), some (.inl w_)], [.inl t_, .inr (.inr (some (122, 0)))], S0_)) rfl ?_
  refine sm_T_lald (n := 65537) rfl rfl (by omega) (by omega) ?_
  refine sm_T_go 3 (c1 := (11, [some (.inr (.inr (some (13, 0)))), some (.inl t_), some (.inl w_)], [.inl w_, .inr (.inr (some (122, 0))), .inr (.inl (S0_.2.2.2 122 0 t_.toNat))], S0_)) rfl ?_
  refine sm_T_lald (n := 65537) rfl rfl (by omega) (by omega) ?_
  refine sm_T_go 1 (c1 := (13, [some (.inr (.inr (some (13, 0)))), some (.inl t_), some (.inl w_)], [.inl (sm_lcmp ((S0_.2.2.2 122 0 t_.toNat)) ((S0_.2.2.2 122 0 w_.toNat)))], S0_)) rfl ?_
  refine sm_T_b0 (a := 1) (z := 22) rfl (fun cx1_ => ?_) (fun cx1_ => ?_)
  · have cx1_ : (sm_lcmp ((S0_.2.2.2 122 0 t_.toNat)) ((S0_.2.2.2 122 0 w_.toNat))) ≠ 0 := of_decide_eq_true cx1_
    refine sm_T_go 1 (c1 := (36, [some (.inr (.inr (some (13, 0)))), some (.inl t_), some (.inl w_)], [.inl 0], S0_)) rfl ?_
    refine sm_T_rz rfl (by omega) ⟨_, _, rfl, rfl, _, rfl, ?_⟩
    first | (rw [if_pos (e3_.mp ⟨e4_.mp (by omega), by omega⟩)]) | (rw [if_neg (fun z_ => by have z1_ := e3_.mpr z_; have z2_ := e4_.mpr z1_.1; have z3_ := z1_.2; omega)])
  · have cx1_ : ¬ ((sm_lcmp ((S0_.2.2.2 122 0 t_.toNat)) ((S0_.2.2.2 122 0 w_.toNat))) ≠ 0) := of_decide_eq_false cx1_
    refine sm_T_go 3 (c1 := (21, [some (.inr (.inr (some (13, 0)))), some (.inl t_), some (.inl w_)], [.inl t_, .inr (.inr (some (123, 0)))], S0_)) rfl ?_
    refine sm_T_iald (n := 65537) rfl rfl (by omega) (by omega) ?_
    have bx2_ : (-2147483648) ≤ S0_.2.2.1 123 0 t_.toNat ∧ S0_.2.2.1 123 0 t_.toNat ≤ 2147483647 := hI_.2 123 0 _
    refine sm_T_go 3 (c1 := (27, [some (.inr (.inr (some (13, 0)))), some (.inl t_), some (.inl w_)], [.inl w_, .inr (.inr (some (123, 0))), .inl (S0_.2.2.1 123 0 t_.toNat)], S0_)) rfl ?_
    refine sm_T_iald (n := 65537) rfl rfl (by omega) (by omega) ?_
    have bx3_ : (-2147483648) ≤ S0_.2.2.1 123 0 w_.toNat ∧ S0_.2.2.1 123 0 w_.toNat ≤ 2147483647 := hI_.2 123 0 _
    refine sm_T_br (a := 1) (z := 7) rfl (fun cx4_ => ?_) (fun cx4_ => ?_)
    · have cx4_ : (S0_.2.2.1 123 0 t_.toNat) ≠ (S0_.2.2.1 123 0 w_.toNat) := of_decide_eq_true cx4_
      refine sm_T_go 1 (c1 := (36, [some (.inr (.inr (some (13, 0)))), some (.inl t_), some (.inl w_)], [.inl 0], S0_)) rfl ?_
      refine sm_T_rz rfl (by omega) ⟨_, _, rfl, rfl, _, rfl, ?_⟩
      first | (rw [if_pos (e3_.mp ⟨e4_.mp (by omega), by omega⟩)]) | (rw [if_neg (fun z_ => by have z1_ := e3_.mpr z_; have z2_ := e4_.mpr z1_.1; have z3_ := z1_.2; omega)])
    · have cx4_ : ¬ ((S0_.2.2.1 123 0 t_.toNat) ≠ (S0_.2.2.1 123 0 w_.toNat)) := of_decide_eq_false cx4_
      refine sm_T_go 2 (c1 := (36, [some (.inr (.inr (some (13, 0)))), some (.inl t_), some (.inl w_)], [.inl 1], S0_)) rfl ?_
      refine sm_T_rz rfl (by omega) ⟨_, _, rfl, rfl, _, rfl, ?_⟩
      first | (rw [if_pos (e3_.mp ⟨e4_.mp (by omega), by omega⟩)]) | (rw [if_neg (fun z_ => by have z1_ := e3_.mpr z_; have z2_ := e4_.mpr z1_.1; have z3_ := z1_.2; omega)])
