/-! 99.ztZV -/
section
/-! ways of a literal: the reference; written by wip/p55/gen/vg -/

/-! the_ ways of_ a_ literal, the_ reference -/
def wrr (S_ : sm_S) (w_ : Nat) (b_ : Int × Int × Int × (Nat → Int)) : Prop := S_.2.2.1 206 0 w_ = b_.1 ∧ (b_.1 = 1000000000 ∨ (b_.1 < 1000000000 ∧ S_.2.2.1 207 0 w_ = b_.2.1 ∧ S_.2.2.1 209 0 w_ = b_.2.2.1 ∧ ∀ k_ : Nat, (k_ : Int) < S_.2.2.1 185 0 (12 * S_.1 13 0 106 + b_.2.1).toNat → S_.2.2.1 208 0 (3 * w_ + k_) = b_.2.2.2 k_))
def adr (a_ b_ : Int) : Int := a_ + b_
def pcq (F_ : Int) (S_ : sm_S) (x_ t_ : Int) : Int := cst F_ S_ x_ t_
def tbr (t_ : Nat) (x_ : Int) : Int := if t_ = 0 then x_ else i_xor x_ 255
theorem wrr_o {w_ : Nat} {S_ S'_ : sm_S} {b_ : Int × Int × Int × (Nat → Int)} (h_ : wrr S_ w_ b_) (e1_ : S'_.2.2.1 206 0 w_ = S_.2.2.1 206 0 w_) (e2_ : S'_.2.2.1 207 0 w_ = S_.2.2.1 207 0 w_) (e3_ : S'_.2.2.1 209 0 w_ = S_.2.2.1 209 0 w_) (e4_ : ∀ k_, k_ < 3 → S'_.2.2.1 208 0 (3 * w_ + k_) = S_.2.2.1 208 0 (3 * w_ + k_)) (e5_ : S'_.2.2.1 185 0 = S_.2.2.1 185 0) (e6_ : S'_.1 13 0 106 = S_.1 13 0 106) (c85_ : ∀ k_, S_.2.2.1 185 0 k_ ≤ 3) : wrr S'_ w_ b_ := by
  unfold wrr at *
  rw [e1_, e2_, e3_, e5_, e6_]
  refine ⟨h_.1, ?_⟩
  rcases h_.2 with g_ | g_
  · exact Or.inl g_
  · refine Or.inr ⟨g_.1, g_.2.1, g_.2.2.1, fun k_ hk_ => ?_⟩
    have q_ := c85_ (12 * S_.1 13 0 106 + b_.2.1).toNat
    rw [e4_ k_ (by omega)]
    exact g_.2.2.2 k_ hk_
theorem wrr_f {w_ v_ : Int} {S_ S'_ : sm_S} {b_ : Int × Int × Int × (Nat → Int)} (h_ : wrr S_ w_.toNat b_) (g_ : wfr v_ S_ S'_) (ne : w_.toNat ≠ v_.toNat) (e5_ : S'_.2.2.1 185 0 = S_.2.2.1 185 0) (e6_ : S'_.1 13 0 106 = S_.1 13 0 106) (c85_ : ∀ k_, S_.2.2.1 185 0 k_ ≤ 3) : wrr S'_ w_.toNat b_ := wrr_o h_ (g_.1 _ ne).1 (g_.1 _ ne).2.1 (g_.1 _ ne).2.2 (fun k_ hk_ => g_.2 _ (by omega)) e5_ e6_ c85_
theorem wrr_fr {u_ : sx_Wl} {w_ : Nat} {S_ S'_ : sm_S} {b_ : Int × Int × Int × (Nat → Int)} (h_ : wrr S_ w_ b_) (g_ : ai_fr (sx_W u_) S_ S'_) (a1_ : (sx_W u_).2.1 206 = false := by rfl) (a2_ : (sx_W u_).2.1 207 = false := by rfl) (a3_ : (sx_W u_).2.1 208 = false := by rfl) (a4_ : (sx_W u_).2.1 209 = false := by rfl) (a5_ : (sx_W u_).2.1 185 = false := by rfl) (a6_ : (sx_W u_).1 13 106 = false := by rfl) : wrr S'_ w_ b_ := by
  unfold wrr at *
  rw [fr_arr (t := 206) g_ a1_, fr_arr (t := 207) g_ a2_, fr_arr (t := 208) g_ a3_, fr_arr (t := 209) g_ a4_, fr_arr (t := 185) g_ a5_, g_.1 13 0 106 a6_]
  exact h_
theorem wfr_rf {w_ : Int} {S_ : sm_S} : wfr w_ S_ S_ := ⟨fun _ _ => ⟨rfl, rfl, rfl⟩, fun _ _ => rfl⟩
theorem cdn_r {dl_ : List Nat} {V_ : Nat → Int} {cu_ o_ k_ sz_ : Int} {vv_ : Nat} (hl_ : 2 ≤ dl_.length ∧ dl_.length ≤ 3) (hsz_ : sz_ = (dl_.length : Int)) (hcv_ : ∀ k_ x_ : Nat, dl_[k_]? = some x_ → V_ (3 * cu_.toNat + k_) = (x_ : Int)) (h0_ : 0 ≤ cu_) (ho_ : o_ = ((vv_ / 2 ^ dl_.length : Nat) : Int)) (h5_ : vv_ / 2 ^ dl_.length ≤ 5) (hk_ : 0 ≤ k_ ∧ k_ < sz_) : cdn dl_ dl_.length (vv_ / 2 ^ dl_.length) k_.toNat = V_ (3 * cu_ + iat sz_ o_ k_).toNat := by
  have o0_ : 0 ≤ o_ := by
    rw [ho_]
    first | exact Int.natCast_nonneg _ | exact Int.ofNat_nonneg _ | exact Int.ofNat_zero_le _
  have b_ := iat_b (sz_ := sz_) (o_ := o_) (k_ := k_) (by omega) (by omega) (by omega)
  unfold cdn
  rw [show ((k_.toNat : Nat) : Int) = k_ by omega, ← ho_, ← hsz_]
  obtain ⟨x_, hx_⟩ : ∃ x_, dl_[(iat sz_ o_ k_).toNat]? = some x_ := ⟨_, List.getElem?_eq_getElem (by omega)⟩
  unfold cva
  rw [hx_]
  show (x_ : Int) = _
  rw [← hcv_ _ _ hx_, show 3 * cu_.toNat + (iat sz_ o_ k_).toNat = (3 * cu_ + iat sz_ o_ k_).toNat by omega]
theorem tn_r {vv_ ip_ : Nat} {k_ : Int} (hip_ : ip_ = 2 ∨ ip_ = 3) (hk_ : 0 ≤ k_ ∧ k_ < (ip_ : Int)) : i_shr ((vv_ % 2 ^ ip_ : Nat) : Int) k_ % 2 = ((vv_ / 2 ^ k_.toNat % 2 : Nat) : Int) := by
  have m_ : vv_ % 2 ^ ip_ < 8 := by
    rcases hip_ with e_ | e_
    · rw [e_]
      show vv_ % 4 < 8
      omega
    · rw [e_]
      show vv_ % 8 < 8
      omega
  rw [i_shrv hk_.1 (by omega) (by omega)]
  have c_ : k_ = 0 ∨ k_ = 1 ∨ k_ = 2 := by omega
  rcases hip_ with e_ | e_
  · rcases c_ with c_ | c_ | c_
    · rw [c_, e_]
      show ((vv_ % 4 : Nat) : Int) / 1 % 2 = ((vv_ / 1 % 2 : Nat) : Int)
      omega
    · rw [c_, e_]
      show ((vv_ % 4 : Nat) : Int) / 2 % 2 = ((vv_ / 2 % 2 : Nat) : Int)
      omega
    · exfalso
      omega
  · rcases c_ with c_ | c_ | c_
    · rw [c_, e_]
      show ((vv_ % 8 : Nat) : Int) / 1 % 2 = ((vv_ / 1 % 2 : Nat) : Int)
      omega
    · rw [c_, e_]
      show ((vv_ % 8 : Nat) : Int) / 2 % 2 = ((vv_ / 2 % 2 : Nat) : Int)
      omega
    · rw [c_, e_]
      show ((vv_ % 8 : Nat) : Int) / 4 % 2 = ((vv_ / 4 % 2 : Nat) : Int)
      omega
theorem vv_d {o_ tu_ ip_ : Nat} (hip_ : ip_ = 2 ∨ ip_ = 3) (h_ : tu_ < 2 ^ ip_) : (o_ * 2 ^ ip_ + tu_) / 2 ^ ip_ = o_ ∧ (o_ * 2 ^ ip_ + tu_) % 2 ^ ip_ = tu_ := by
  rcases hip_ with e_ | e_
  · rw [e_] at h_ ⊢
    have h_ : tu_ < 4 := h_
    show (o_ * 4 + tu_) / 4 = o_ ∧ (o_ * 4 + tu_) % 4 = tu_
    omega
  · rw [e_] at h_ ⊢
    have h_ : tu_ < 8 := h_
    show (o_ * 8 + tu_) / 8 = o_ ∧ (o_ * 8 + tu_) % 8 = tu_
    omega
theorem vv_w {o_ tu_ ip_ : Nat} (hip_ : ip_ = 2 ∨ ip_ = 3) (h_ : tu_ < 2 ^ ip_) (ho_ : (ip_ = 2 ∧ o_ ≤ 1) ∨ (ip_ = 3 ∧ o_ ≤ 5)) : o_ * 2 ^ ip_ + tu_ < wic ip_ := by
  unfold wic
  rcases hip_ with e_ | e_
  · rw [e_] at h_ ⊢
    have h_ : tu_ < 4 := h_
    rw [if_pos rfl]
    show o_ * 4 + tu_ < 8
    omega
  · rw [e_] at h_ ⊢
    have h_ : tu_ < 8 := h_
    rw [if_neg (by decide)]
    show o_ * 8 + tu_ < 48
    omega
theorem vv_s {o_ ip_ : Nat} (hip_ : ip_ = 2 ∨ ip_ = 3) : o_ * 2 ^ ip_ + 2 ^ ip_ = (o_ + 1) * 2 ^ ip_ := by
  rw [Nat.add_mul, Nat.one_mul]
theorem vv_e {o_ ip_ : Nat} (h_ : (ip_ = 2 ∧ o_ = 2) ∨ (ip_ = 3 ∧ o_ = 6)) : o_ * 2 ^ ip_ = wic ip_ := by
  unfold wic
  rcases h_ with ⟨e_, f_⟩ | ⟨e_, f_⟩ <;> rw [e_, f_] <;> decide
theorem p2_i {ip_ : Nat} (hip_ : ip_ = 2 ∨ ip_ = 3) : i_shl 1 (ip_ : Int) = ((2 ^ ip_ : Nat) : Int) := by
  rcases hip_ with e_ | e_ <;> rw [e_] <;> decide
/-! M_.cellOver -/
def vw_405n : sx_Wl := ([], [], [])
def vq_405n (fn_ : Int) (sz_ : Int) (or9_ : Int) (tu_ : Int) (S0_ : sm_S) (u_ : Option sm_V) (S1_ : sm_S) : Prop := S0_ = S1_ ∧ ∃ v_ : Int, u_ = some (.inl v_) ∧ ((-2147483648 ≤ v_ ∧ v_ ≤ 2147483647) ∧ v_ = tbv (fun s_ => decide (i_shr fn_ (rst sz_ or9_ tu_ (s_ : Int) sz_.toNat) % 2 = 1)) 8)
set_option maxHeartbeats 400000 in
set_option maxRecDepth 20000 in
theorem vl_405n {sc_ : Nat × (Nat → Int)} (fn_ : Int) (sz_ : Int) (or9_ : Int) (tu_ : Int) (S0_ : sm_S) (hs_ : 1 ≤ sz_ ∧ sz_ ≤ 3 ∧ 0 ≤ or9_ ∧ or9_ ≤ 5) : ∀ nn_ : Nat, (∀ (to_ : Int) (v9_ : Int) (S_ : sm_S), gi S_ → ai_fr (sx_W vw_405n) S0_ S_ → ((0 ≤ v9_ ∧ v9_ ≤ 8 ∧ -2147483648 ≤ to_ ∧ to_ ≤ 2147483647) ∧ (to_ = tbv (fun s_ => decide (i_shr fn_ (rst sz_ or9_ tu_ (s_ : Int) sz_.toNat) % 2 = 1)) v9_.toNat) ∧ (S_ = S0_) ∧ True) → ((10 * (100 - v9_) + 9).toNat) < nn_ → sm_T (mt_P sc_) 1 405 (6, [some (.inl fn_), some (.inl sz_), some (.inl or9_), some (.inl tu_), some (.inl to_), some (.inl v9_), none, none], [], S_) (fun ro9_ => ∃ u_ S1_, ro9_ = (.inl u_, S1_, 0) ∧ vq_405n fn_ sz_ or9_ tu_ S0_ u_ S1_)) ∧ (∀ (to_ : Int) (v9_ : Int) (s_ : Int) (k_ : Int) (S_ : sm_S), gi S_ → ai_fr (sx_W vw_405n) S0_ S_ → ((0 ≤ v9_ ∧ v9_ < 8 ∧ -2147483648 ≤ to_ ∧ to_ ≤ 2147483647 ∧ 0 ≤ k_ ∧ k_ ≤ 3 ∧ k_ ≤ sz_) ∧ (to_ = tbv (fun s_ => decide (i_shr fn_ (rst sz_ or9_ tu_ (s_ : Int) sz_.toNat) % 2 = 1)) v9_.toNat) ∧ (s_ = rst sz_ or9_ tu_ v9_ k_.toNat) ∧ (S_ = S0_) ∧ True) → ((10 * (100 - v9_) + 5 - k_).toNat) < nn_ → sm_T (mt_P sc_) 1 405 (19, [some (.inl fn_), some (.inl sz_), some (.inl or9_), some (.inl tu_), some (.inl to_), some (.inl v9_), some (.inl s_), some (.inl k_)], [], S_) (fun ro9_ => ∃ u_ S1_, ro9_ = (.inl u_, S1_, 0) ∧ vq_405n fn_ sz_ or9_ tu_ S0_ u_ S1_)) := by
  intro nn_
  induction nn_ with
  | zero => exact ⟨fun _ _ _ _ _ _ h_ => absurd h_ (Nat.not_lt_zero _), fun _ _ _ _ _ _ _ _ h_ => absurd h_ (Nat.not_lt_zero _)⟩
  | succ nn_ ih_ =>
    refine ⟨?_, ?_⟩
    · rintro to_ v9_ S_ hI_ hF_ ⟨h0_, hto_, hS_, -⟩ hm_
      refine sm_T_go 2 (c1 := (10, [some (.inl fn_), some (.inl sz_), some (.inl or9_), some (.inl tu_), some (.inl to_), some (.inl v9_), none, none], [.inl 8, .inl v9_], S_)) rfl ?_
      refine sm_T_br (a := 3) (z := 66) rfl (fun cx1_ => ?_) (fun cx1_ => ?_)
      · have cx1_ : 8 ≤ v9_ := of_decide_eq_true cx1_
        refine sm_T_go 1 (c1 := (78, [some (.inl fn_), some (.inl sz_), some (.inl or9_), some (.inl tu_), some (.inl to_), some (.inl v9_), none, none], [.inl to_], S_)) rfl ?_
        refine sm_T_ri rfl ⟨_, _, rfl, (by first | rfl | exact hS_.symm), _, rfl, ?_⟩
        refine ⟨by omega, ?_⟩
        rw [hto_, show v9_.toNat = 8 by omega]
      · have cx1_ : ¬ (8 ≤ v9_) := of_decide_eq_false cx1_
        refine sm_T_go 4 (c1 := (19, [some (.inl fn_), some (.inl sz_), some (.inl or9_), some (.inl tu_), some (.inl to_), some (.inl v9_), some (.inl 0), some (.inl 0)], [], S_)) rfl ?_
        refine ih_.2 to_ v9_ 0 0 S_ hI_ hF_ ⟨?_, ?_, ?_, ?_, trivial⟩ ?_
        · omega
        · exact hto_
        · rfl
        · first | rfl | exact hS_
        · omega
    · rintro to_ v9_ s_ k_ S_ hI_ hF_ ⟨h0_, hto_, hst_, hS_, -⟩ hm_
      refine sm_T_go 2 (c1 := (22, [some (.inl fn_), some (.inl sz_), some (.inl or9_), some (.inl tu_), some (.inl to_), some (.inl v9_), some (.inl s_), some (.inl k_)], [.inl sz_, .inl k_], S_)) rfl ?_
      refine sm_T_br (a := 3) (z := 34) rfl (fun cx1_ => ?_) (fun cx1_ => ?_)
      · have cx1_ : sz_ ≤ k_ := of_decide_eq_true cx1_
        refine sm_T_go 3 (c1 := (61, [some (.inl fn_), some (.inl sz_), some (.inl or9_), some (.inl tu_), some (.inl to_), some (.inl v9_), some (.inl s_), some (.inl k_)], [.inl s_, .inl fn_, .inl to_], S_)) rfl ?_
        refine sm_T_bin (w := (i_shr fn_ s_)) rfl rfl ?_ -- pc_ 61
        have bx2_ := i_shr_n fn_ s_
        refine sm_T_go 1 (c1 := (63, [some (.inl fn_), some (.inl sz_), some (.inl or9_), some (.inl tu_), some (.inl to_), some (.inl v9_), some (.inl s_), some (.inl k_)], [.inl 1, .inl (i_shr fn_ s_), .inl to_], S_)) rfl ?_
        refine sm_T_bin (w := ((i_shr fn_ s_) % 2)) rfl (bi_msk (k := 1) (by decide)) ?_ -- pc_ 63
        refine sm_T_go 1 (c1 := (66, [some (.inl fn_), some (.inl sz_), some (.inl or9_), some (.inl tu_), some (.inl to_), some (.inl v9_), some (.inl s_), some (.inl k_)], [.inl v9_, .inl ((i_shr fn_ s_) % 2), .inl to_], S_)) rfl ?_
        refine sm_T_bin (w := (i_shl ((i_shr fn_ s_) % 2) v9_)) rfl rfl ?_ -- pc_ 66
        have bx3_ := i_shl_n ((i_shr fn_ s_) % 2) v9_
        refine sm_T_bin (w := (i_or to_ (i_shl ((i_shr fn_ s_) % 2) v9_))) rfl rfl ?_ -- pc_ 67
        have bx4_ := i_or_n to_ (i_shl ((i_shr fn_ s_) % 2) v9_)
        refine sm_T_go 1 (c1 := (70, [some (.inl fn_), some (.inl sz_), some (.inl or9_), some (.inl tu_), some (.inl (i_or to_ (i_shl ((i_shr fn_ s_) % 2) v9_))), some (.inl v9_), some (.inl s_), some (.inl k_)], [], S_)) rfl ?_
        refine sm_T_inc (a := 5) (z := 1) (v := v9_) (w := v9_ + 1) rfl rfl (by omega) (by omega) (by omega) ?_ -- pc_ 70
        refine sm_T_go 1 (c1 := (6, [some (.inl fn_), some (.inl sz_), some (.inl or9_), some (.inl tu_), some (.inl (i_or to_ (i_shl ((i_shr fn_ s_) % 2) v9_))), some (.inl (v9_ + 1)), some (.inl s_), some (.inl k_)], [], S_)) rfl ?_
        refine sm_T_wk [some (.inl fn_), some (.inl sz_), some (.inl or9_), some (.inl tu_), some (.inl (i_or to_ (i_shl ((i_shr fn_ s_) % 2) v9_))), some (.inl (v9_ + 1)), none, none] (by exact ⟨rfl, rfl, rfl, rfl, rfl, rfl, trivial⟩) ?_
        refine ih_.1 (i_or to_ (i_shl ((i_shr fn_ s_) % 2) v9_)) (v9_ + 1) S_ hI_ hF_ ⟨?_, ?_, ?_, trivial⟩ ?_
        · omega
        · rw [show (v9_ + 1).toNat = v9_.toNat + 1 by omega]
          have z9_ : s_ = rst sz_ or9_ tu_ ((v9_.toNat : Nat) : Int) sz_.toNat := by (rw [hst_, show ((v9_.toNat : Nat) : Int) = v9_ by omega, show k_.toNat = sz_.toNat by omega])
          have y9_ := tbv_orb (f_ := fun s_ => decide (i_shr fn_ (rst sz_ or9_ tu_ (s_ : Int) sz_.toNat) % 2 = 1)) (k_ := v9_.toNat) (x_ := i_shr fn_ s_) (by omega) (by (rw [z9_]))
          rw [show ((v9_.toNat : Nat) : Int) = v9_ by omega, ← hto_] at y9_
          exact y9_
        · first | rfl | exact hS_
        · omega
      · have cx1_ : ¬ (sz_ ≤ k_) := of_decide_eq_false cx1_
        refine sm_T_go 5 (c1 := (33, [some (.inl fn_), some (.inl sz_), some (.inl or9_), some (.inl tu_), some (.inl to_), some (.inl v9_), some (.inl s_), some (.inl k_)], [.inl k_, .inl or9_, .inl sz_, .inl v9_, .inl s_], S_)) rfl ?_
        refine sm_T_cal (d1 := 0) (Q1 := vq_403 sz_ or9_ k_ S_) rfl rfl (by decide) (vc_403 sz_ or9_ k_ S_ hI_ (by omega)) (fun u_ Sx5_ px8_ => ?_)
        obtain ⟨rfl, vx10_, rfl, px8_⟩ := px8_
        have e33_ := px8_
        refine sm_T_bin (w := (i_shr v9_ vx10_)) rfl rfl ?_ -- pc_ 36
        have bx11_ := i_shr_n v9_ vx10_
        refine sm_T_go 2 (c1 := (40, [some (.inl fn_), some (.inl sz_), some (.inl or9_), some (.inl tu_), some (.inl to_), some (.inl v9_), some (.inl s_), some (.inl k_)], [.inl k_, .inl tu_, .inl (i_shr v9_ vx10_), .inl s_], S_)) rfl ?_
        refine sm_T_bin (w := (i_shr tu_ k_)) rfl rfl ?_ -- pc_ 40
        have bx12_ := i_shr_n tu_ k_
        refine sm_T_bin (w := (i_xor (i_shr v9_ vx10_) (i_shr tu_ k_))) rfl rfl ?_ -- pc_ 41
        have bx13_ := i_xor_n (i_shr v9_ vx10_) (i_shr tu_ k_)
        refine sm_T_go 1 (c1 := (43, [some (.inl fn_), some (.inl sz_), some (.inl or9_), some (.inl tu_), some (.inl to_), some (.inl v9_), some (.inl s_), some (.inl k_)], [.inl 1, .inl (i_xor (i_shr v9_ vx10_) (i_shr tu_ k_)), .inl s_], S_)) rfl ?_
        refine sm_T_bin (w := ((i_xor (i_shr v9_ vx10_) (i_shr tu_ k_)) % 2)) rfl (bi_msk (k := 1) (by decide)) ?_ -- pc_ 43
        refine sm_T_go 1 (c1 := (46, [some (.inl fn_), some (.inl sz_), some (.inl or9_), some (.inl tu_), some (.inl to_), some (.inl v9_), some (.inl s_), some (.inl k_)], [.inl k_, .inl ((i_xor (i_shr v9_ vx10_) (i_shr tu_ k_)) % 2), .inl s_], S_)) rfl ?_
        refine sm_T_bin (w := (i_shl ((i_xor (i_shr v9_ vx10_) (i_shr tu_ k_)) % 2) k_)) rfl rfl ?_ -- pc_ 46
        have bx14_ := i_shl_n ((i_xor (i_shr v9_ vx10_) (i_shr tu_ k_)) % 2) k_
        refine sm_T_bin (w := (i_or s_ (i_shl ((i_xor (i_shr v9_ vx10_) (i_shr tu_ k_)) % 2) k_))) rfl rfl ?_ -- pc_ 47
        have bx15_ := i_or_n s_ (i_shl ((i_xor (i_shr v9_ vx10_) (i_shr tu_ k_)) % 2) k_)
        refine sm_T_go 1 (c1 := (50, [some (.inl fn_), some (.inl sz_), some (.inl or9_), some (.inl tu_), some (.inl to_), some (.inl v9_), some (.inl (i_or s_ (i_shl ((i_xor (i_shr v9_ vx10_) (i_shr tu_ k_)) % 2) k_))), some (.inl k_)], [], S_)) rfl ?_
        refine sm_T_inc (a := 7) (z := 1) (v := k_) (w := k_ + 1) rfl rfl (by omega) (by omega) (by omega) ?_ -- pc_ 50
        refine sm_T_go 1 (c1 := (19, [some (.inl fn_), some (.inl sz_), some (.inl or9_), some (.inl tu_), some (.inl to_), some (.inl v9_), some (.inl (i_or s_ (i_shl ((i_xor (i_shr v9_ vx10_) (i_shr tu_ k_)) % 2) k_))), some (.inl (k_ + 1))], [], S_)) rfl ?_
        refine ih_.2 to_ v9_ (i_or s_ (i_shl ((i_xor (i_shr v9_ vx10_) (i_shr tu_ k_)) % 2) k_)) (k_ + 1) S_ hI_ hF_ ⟨?_, ?_, ?_, ?_, trivial⟩ ?_
        · omega
        · exact hto_
        · rw [show (k_ + 1).toNat = k_.toNat + 1 by omega]
          show _ = i_or (rst sz_ or9_ tu_ v9_ k_.toNat) (i_shl (i_xor (i_shr v9_ (iat sz_ or9_ ((k_.toNat : Nat) : Int))) (i_shr tu_ ((k_.toNat : Nat) : Int)) % 2) ((k_.toNat : Nat) : Int))
          rw [show ((k_.toNat : Nat) : Int) = k_ by omega, ← hst_, ← e33_.1]
        · first | rfl | exact hS_
        · omega
set_option maxHeartbeats 400000 in
set_option maxRecDepth 20000 in
theorem vc_405n {sc_ : Nat × (Nat → Int)} (fn_ : Int) (sz_ : Int) (or9_ : Int) (tu_ : Int) (S0_ : sm_S) (hI_ : gi S0_) (hs_ : 1 ≤ sz_ ∧ sz_ ≤ 3 ∧ 0 ≤ or9_ ∧ or9_ ≤ 5) : sm_T (mt_P sc_) 1 405 (0, [some (.inl fn_), some (.inl sz_), some (.inl or9_), some (.inl tu_), none, none, none, none], [], S0_) (fun ro9_ => ∃ u_ S1_, ro9_ = (.inl u_, S1_, 0) ∧ vq_405n fn_ sz_ or9_ tu_ S0_ u_ S1_) := by
  have hF_ : ai_fr (sx_W vw_405n) S0_ S0_ := ai_fr_rf
  refine sm_T_go 4 (c1 := (6, [some (.inl fn_), some (.inl sz_), some (.inl or9_), some (.inl tu_), some (.inl 0), some (.inl 0), none, none], [], S0_)) rfl ?_
  refine (vl_405n fn_ sz_ or9_ tu_ S0_ hs_ _).1 0 0 S0_ hI_ hF_ ⟨?_, ?_, ?_, trivial⟩ (Nat.lt_succ_self _)
  · omega
  · rfl
  · first | rfl | exact hS_
/-! M_.tryWay -/
def vw_406n : sx_Wl := ([], [206, 207, 208, 209], [])
def vq_406n (n_ : Int) (t_ : Int) (c_ : Int) (cu_ : Int) (or9_ : Int) (tu_ : Int) (F_ : Int) (dl_ : List Nat) (vv_ : Nat) (b_ : Int × Int × Int × (Nat → Int)) (S0_ : sm_S) (u_ : Option sm_V) (S1_ : sm_S) : Prop := u_ = none ∧ gi S1_ ∧ ai_fr (sx_W vw_406n) S0_ S1_ ∧ ((wyc F_ n_ S1_ (2 * n_) ∧ wyc F_ n_ S1_ (2 * n_ + 1) ∧ wf2 n_ S0_ S1_) ∧ wfr (2 * n_ + t_) S0_ S1_ ∧ wrr S1_ (2 * n_ + t_).toNat (wst b_ (cco adr (pcq F_ S0_) (S0_.2.2.1 187 0 (12 * S0_.1 13 0 106 + c_).toNat) dl_ dl_.length vv_ dl_.length) (((c_.toNat : Nat) : Int), ((vv_ % 2 ^ dl_.length : Nat) : Int), cdn dl_ dl_.length (vv_ / 2 ^ dl_.length))))
set_option maxHeartbeats 4000000 in
set_option maxRecDepth 20000 in
theorem vl_406n {sc_ : Nat × (Nat → Int)} (n_ : Int) (t_ : Int) (c_ : Int) (cu_ : Int) (or9_ : Int) (tu_ : Int) (F_ : Int) (dl_ : List Nat) (vv_ : Nat) (b_ : Int × Int × Int × (Nat → Int)) (S0_ : sm_S) (hf_ : S0_.2.2.1 160 0 (S0_.1 13 0 105).toNat = F_) (hn_ : 1 ≤ F_ ∧ F_ ≤ n_ ∧ n_ ≤ 1012) (hh_ : 0 ≤ c_ ∧ c_ ≤ 11 ∧ 0 ≤ cu_ ∧ cu_ < S0_.1 13 0 114 ∧ 0 ≤ or9_ ∧ or9_ ≤ 5 ∧ 0 ≤ tu_ ∧ tu_ ≤ 7) (hct_ : ctp (cnd9 n_ (S0_.2.2.1 202 0)) S0_) (hsz_ : S0_.2.2.1 204 0 cu_.toNat = S0_.2.2.1 185 0 (12 * S0_.1 13 0 106 + c_).toNat) (hw0_ : wyc F_ n_ S0_ (2 * n_)) (hw1_ : wyc F_ n_ S0_ (2 * n_ + 1)) (hx_ : 0 ≤ t_ ∧ t_ ≤ 1) (hdl_ : (2 ≤ dl_.length ∧ dl_.length ≤ 3) ∧ S0_.2.2.1 204 0 cu_.toNat = (dl_.length : Int)) (hcv_ : ∀ k_ x_ : Nat, dl_[k_]? = some x_ → S0_.2.2.1 205 0 (3 * cu_.toNat + k_) = (x_ : Int)) (hvv_ : vv_ < wic dl_.length ∧ or9_ = ((vv_ / 2 ^ dl_.length : Nat) : Int) ∧ tu_ = ((vv_ % 2 ^ dl_.length : Nat) : Int)) (hb_ : wrr S0_ (2 * n_ + t_).toNat b_) : ∀ nn_ : Nat, (∀ (lt_ : Int) (k_ : Int) (S_ : sm_S), gi S_ → ai_fr (sx_W vw_406n) S0_ S_ → ((0 ≤ k_ ∧ k_ ≤ 3 ∧ 0 ≤ lt_ ∧ lt_ ≤ 1000 + 1000000000 * k_ ∧ S0_.1 13 0 114 ≤ 64) ∧ (∀ j9_ : Int, 0 ≤ j9_ → j9_ < k_ → cst F_ S0_ (S0_.2.2.1 205 0 (3 * cu_ + iat (S0_.2.2.1 204 0 cu_.toNat) or9_ j9_).toNat) (i_shr tu_ j9_ % 2) ≤ lt_) ∧ (S_ = S0_) ∧ (lt_ = cco adr (pcq F_ S0_) (S0_.2.2.1 187 0 (12 * S0_.1 13 0 106 + c_).toNat) dl_ dl_.length vv_ k_.toNat) ∧ (k_ ≤ (dl_.length : Int)) ∧ True) → ((900 - k_).toNat) < nn_ → sm_T (mt_P sc_) 2 406 (20, [some (.inr (.inr (some (13, 0)))), some (.inl n_), some (.inl t_), some (.inl c_), some (.inl cu_), some (.inl or9_), some (.inl tu_), some (.inr (.inl lt_)), none, some (.inl k_), none], [], S_) (fun ro9_ => ∃ u_ S1_, ro9_ = (.inl u_, S1_, 0) ∧ vq_406n n_ t_ c_ cu_ or9_ tu_ F_ dl_ vv_ b_ S0_ u_ S1_)) ∧ (∀ (w_ : Int) (k_ : Int) (S_ : sm_S), gi S_ → ai_fr (sx_W vw_406n) S0_ S_ → ((0 ≤ k_ ∧ k_ ≤ 3 ∧ w_ = 2 * n_ + t_ ∧ S0_.1 13 0 114 ≤ 64 ∧ k_ ≤ S0_.2.2.1 204 0 cu_.toNat) ∧ (∀ j9_ : Int, 0 ≤ j9_ → j9_ < S0_.2.2.1 204 0 cu_.toNat → cst F_ S0_ (S0_.2.2.1 205 0 (3 * cu_ + iat (S0_.2.2.1 204 0 cu_.toNat) or9_ j9_).toNat) (i_shr tu_ j9_ % 2) < 1000000000) ∧ (S_.2.2.1 207 0 w_.toNat = c_ ∧ S_.2.2.1 209 0 w_.toNat = tu_) ∧ (∀ j9_ : Int, 0 ≤ j9_ → j9_ < k_ → S_.2.2.1 208 0 (3 * w_ + j9_).toNat = S0_.2.2.1 205 0 (3 * cu_ + iat (S0_.2.2.1 204 0 cu_.toNat) or9_ j9_).toNat) ∧ (wfr w_ S0_ S_) ∧ (S_.2.2.1 206 0 w_.toNat = cco adr (pcq F_ S0_) (S0_.2.2.1 187 0 (12 * S0_.1 13 0 106 + c_).toNat) dl_ dl_.length vv_ dl_.length ∧ cco adr (pcq F_ S0_) (S0_.2.2.1 187 0 (12 * S0_.1 13 0 106 + c_).toNat) dl_ dl_.length vv_ dl_.length < b_.1) ∧ True) → ((500 - k_).toNat) < nn_ → sm_T (mt_P sc_) 2 406 (131, [some (.inr (.inr (some (13, 0)))), some (.inl n_), some (.inl t_), some (.inl c_), some (.inl cu_), some (.inl or9_), some (.inl tu_), none, none, some (.inl w_), some (.inl k_)], [], S_) (fun ro9_ => ∃ u_ S1_, ro9_ = (.inl u_, S1_, 0) ∧ vq_406n n_ t_ c_ cu_ or9_ tu_ F_ dl_ vv_ b_ S0_ u_ S1_)) := by
  intro nn_
  induction nn_ with
  | zero => exact ⟨fun _ _ _ _ _ _ h_ => absurd h_ (Nat.not_lt_zero _), fun _ _ _ _ _ _ h_ => absurd h_ (Nat.not_lt_zero _)⟩
  | succ nn_ ih_ =>
    refine ⟨?_, ?_⟩
    · rintro lt_ k_ S_ hI_ hF_ ⟨h0_, h1_, h4_, hco_, hkl_, -⟩ hm_
      have f204_ : S_.2.2.1 204 0 = S0_.2.2.1 204 0 := fr_arr hF_ rfl
      have f205_ : S_.2.2.1 205 0 = S0_.2.2.1 205 0 := fr_arr hF_ rfl
      have f160_ : S_.2.2.1 160 0 (S_.1 13 0 105).toNat = F_ := by (rw [hF_.1 13 0 105 rfl, fr_arr (t := 160) (i := 0) hF_ rfl]; exact hf_)
      have c9_ : cst F_ S_ = cst F_ S0_ := cst_fr hF_
      have x204_ : S_.2.2.1 204 0 cu_.toNat = S0_.2.2.1 204 0 cu_.toNat := congrFun f204_ _
      have b204_ : 0 ≤ S_.2.2.1 204 0 cu_.toNat ∧ S_.2.2.1 204 0 cu_.toNat ≤ 3 := hI_.2 204 0 _
      have g106_ : S_.1 13 0 106 = S0_.1 13 0 106 := hF_.1 13 0 106 rfl
      refine sm_T_go 4 (c1 := (28, [some (.inr (.inr (some (13, 0)))), some (.inl n_), some (.inl t_), some (.inl c_), some (.inl cu_), some (.inl or9_), some (.inl tu_), some (.inr (.inl lt_)), none, some (.inl k_), none], [.inl cu_, .inr (.inr (some (204, 0))), .inl k_], S_)) rfl ?_
      refine sm_T_iald (n := 64) rfl rfl (by omega) (by omega) ?_
      have bx1_ : 0 ≤ S_.2.2.1 204 0 cu_.toNat ∧ S_.2.2.1 204 0 cu_.toNat ≤ 3 := hI_.2 204 0 _
      refine sm_T_br (a := 3) (z := 50) rfl (fun cx2_ => ?_) (fun cx2_ => ?_)
      · have cx2_ : (S_.2.2.1 204 0 cu_.toNat) ≤ k_ := of_decide_eq_true cx2_
        refine sm_T_go 2 (c1 := (81, [some (.inr (.inr (some (13, 0)))), some (.inl n_), some (.inl t_), some (.inl c_), some (.inl cu_), some (.inl or9_), some (.inl tu_), some (.inr (.inl lt_)), none, some (.inl k_), none], [.inl n_, .inl 2], S_)) rfl ?_
        refine sm_T_bin (w := 2 * n_) rfl (bi_mul (by omega) (by omega) (by omega)) ?_ -- pc_ 81
        refine sm_T_go 1 (c1 := (83, [some (.inr (.inr (some (13, 0)))), some (.inl n_), some (.inl t_), some (.inl c_), some (.inl cu_), some (.inl or9_), some (.inl tu_), some (.inr (.inl lt_)), none, some (.inl k_), none], [.inl t_, .inl (2 * n_)], S_)) rfl ?_
        refine sm_T_bin (w := 2 * n_ + t_) rfl (bi_add (by omega) (by omega) (by omega)) ?_ -- pc_ 83
        refine sm_T_go 5 (c1 := (94, [some (.inr (.inr (some (13, 0)))), some (.inl n_), some (.inl t_), some (.inl c_), some (.inl cu_), some (.inl or9_), some (.inl tu_), some (.inr (.inl lt_)), none, some (.inl (2 * n_ + t_)), none], [.inl (2 * n_ + t_), .inr (.inr (some (206, 0))), .inr (.inl lt_)], S_)) rfl ?_
        refine sm_T_iald (n := 4096) rfl rfl (by omega) (by omega) ?_
        have bx3_ : 0 ≤ S_.2.2.1 206 0 (2 * n_ + t_).toNat ∧ S_.2.2.1 206 0 (2 * n_ + t_).toNat ≤ 1000000000 := hI_.2 206 0 _
        refine sm_T_go 2 (c1 := (97, [some (.inr (.inr (some (13, 0)))), some (.inl n_), some (.inl t_), some (.inl c_), some (.inl cu_), some (.inl or9_), some (.inl tu_), some (.inr (.inl lt_)), none, some (.inl (2 * n_ + t_)), none], [.inl (sm_lcmp lt_ ((l_i2l (S_.2.2.1 206 0 (2 * n_ + t_).toNat))))], S_)) rfl ?_
        refine sm_T_b0 (a := 2) (z := 4) rfl (fun cx4_ => ?_) (fun cx4_ => ?_)
        · have cx4_ : (sm_lcmp lt_ ((l_i2l (S_.2.2.1 206 0 (2 * n_ + t_).toNat)))) < 0 := of_decide_eq_true cx4_
          have L8_ : lt_ < S_.2.2.1 206 0 (2 * n_ + t_).toNat := by (have q9_ := lcmp_lt.mp cx4_; rw [l_i2l_s (by omega) (by omega)] at q9_; exact q9_)
          have L7_ := l2i_s (x_ := lt_) (by omega)
          have bx5_ := l_l2i_n lt_
          refine sm_T_go 5 (c1 := (110, [some (.inr (.inr (some (13, 0)))), some (.inl n_), some (.inl t_), some (.inl c_), some (.inl cu_), some (.inl or9_), some (.inl tu_), some (.inr (.inl lt_)), none, some (.inl (2 * n_ + t_)), none], [.inl (l_l2i lt_), .inl (2 * n_ + t_), .inr (.inr (some (206, 0)))], S_)) rfl ?_
          refine sm_T_iast (n := 4096) rfl rfl (by omega) (by omega) ?_
          have hIx6_ : gi (sm_aI S_ 206 0 (2 * n_ + t_).toNat (l_l2i lt_)) := gi_aI hI_ (show 0 ≤ (l_l2i lt_) ∧ (l_l2i lt_) ≤ 1000000000 from ⟨by omega, by omega⟩)
          have hFx7_ : ai_fr (sx_W vw_406n) S0_ (sm_aI S_ 206 0 (2 * n_ + t_).toNat (l_l2i lt_)) := ai_fr_tr hF_ (ai_fr_aI rfl)
          refine sm_T_go 4 (c1 := (118, [some (.inr (.inr (some (13, 0)))), some (.inl n_), some (.inl t_), some (.inl c_), some (.inl cu_), some (.inl or9_), some (.inl tu_), some (.inr (.inl lt_)), none, some (.inl (2 * n_ + t_)), none], [.inl c_, .inl (2 * n_ + t_), .inr (.inr (some (207, 0)))], sm_aI S_ 206 0 (2 * n_ + t_).toNat (l_l2i lt_))) rfl ?_
          refine sm_T_iast (n := 4096) rfl rfl (by omega) (by omega) ?_
          have hIx8_ : gi (sm_aI (sm_aI S_ 206 0 (2 * n_ + t_).toNat (l_l2i lt_)) 207 0 (2 * n_ + t_).toNat c_) := gi_aI hIx6_ (show (-1) ≤ c_ ∧ c_ ≤ 11 from ⟨by omega, by omega⟩)
          have hFx9_ : ai_fr (sx_W vw_406n) S0_ (sm_aI (sm_aI S_ 206 0 (2 * n_ + t_).toNat (l_l2i lt_)) 207 0 (2 * n_ + t_).toNat c_) := ai_fr_tr hFx7_ (ai_fr_aI rfl)
          refine sm_T_go 4 (c1 := (127, [some (.inr (.inr (some (13, 0)))), some (.inl n_), some (.inl t_), some (.inl c_), some (.inl cu_), some (.inl or9_), some (.inl tu_), some (.inr (.inl lt_)), none, some (.inl (2 * n_ + t_)), none], [.inl tu_, .inl (2 * n_ + t_), .inr (.inr (some (209, 0)))], sm_aI (sm_aI S_ 206 0 (2 * n_ + t_).toNat (l_l2i lt_)) 207 0 (2 * n_ + t_).toNat c_)) rfl ?_
          refine sm_T_iast (n := 4096) rfl rfl (by omega) (by omega) ?_
          have hIx10_ : gi (sm_aI (sm_aI (sm_aI S_ 206 0 (2 * n_ + t_).toNat (l_l2i lt_)) 207 0 (2 * n_ + t_).toNat c_) 209 0 (2 * n_ + t_).toNat tu_) := gi_aI hIx8_ (show 0 ≤ tu_ ∧ tu_ ≤ 7 from ⟨by omega, by omega⟩)
          have hFx11_ : ai_fr (sx_W vw_406n) S0_ (sm_aI (sm_aI (sm_aI S_ 206 0 (2 * n_ + t_).toNat (l_l2i lt_)) 207 0 (2 * n_ + t_).toNat c_) 209 0 (2 * n_ + t_).toNat tu_) := ai_fr_tr hFx9_ (ai_fr_aI rfl)
          refine sm_T_go 2 (c1 := (131, [some (.inr (.inr (some (13, 0)))), some (.inl n_), some (.inl t_), some (.inl c_), some (.inl cu_), some (.inl or9_), some (.inl tu_), some (.inr (.inl lt_)), none, some (.inl (2 * n_ + t_)), some (.inl 0)], [], sm_aI (sm_aI (sm_aI S_ 206 0 (2 * n_ + t_).toNat (l_l2i lt_)) 207 0 (2 * n_ + t_).toNat c_) 209 0 (2 * n_ + t_).toNat tu_)) rfl ?_
          refine sm_T_wk [some (.inr (.inr (some (13, 0)))), some (.inl n_), some (.inl t_), some (.inl c_), some (.inl cu_), some (.inl or9_), some (.inl tu_), none, none, some (.inl (2 * n_ + t_)), some (.inl 0)] (by exact ⟨rfl, rfl, rfl, rfl, rfl, rfl, rfl, rfl, rfl, trivial⟩) ?_
          refine ih_.2 (2 * n_ + t_) 0 (sm_aI (sm_aI (sm_aI S_ 206 0 (2 * n_ + t_).toNat (l_l2i lt_)) 207 0 (2 * n_ + t_).toNat c_) 209 0 (2 * n_ + t_).toNat tu_) hIx10_ hFx11_ ⟨?_, ?_, ?_, ?_, ?_, ?_, trivial⟩ ?_
          · omega
          · (intro j9_ u0_ u1_; have w9_ := h1_ j9_ u0_ (by omega); omega)
          · ((try simp only [rd_eq, rd_ne, rf_eq, rf_nk, rf_nt, rd_fa, rd_af, rd_fl, rd_al, rd_lf, rd_la, rd_leq, rd_lne, rd_fr, rd_ar, ne_eq, Nat.reduceEqDiff, not_false_eq_true]); first | exact ⟨if_pos rfl, if_pos rfl⟩ | exact ⟨trivial, trivial⟩ | (constructor <;> first | rfl | rw [if_pos rfl]))
          · (intro j9_ u0_ u1_; exfalso; omega)
          · (rw [← h4_]; exact ⟨fun j9_ h9_ => by ((try simp only [rd_eq, rd_ne, rf_eq, rf_nk, rf_nt, rd_fa, rd_af, rd_fl, rd_al, rd_lf, rd_la, rd_leq, rd_lne, rd_fr, rd_ar, ne_eq, Nat.reduceEqDiff, not_false_eq_true]); rw [if_neg (by omega), if_neg (by omega), if_neg (by omega)]; exact ⟨rfl, rfl, rfl⟩), fun j9_ _ => by (try simp only [rd_eq, rd_ne, rf_eq, rf_nk, rf_nt, rd_fa, rd_af, rd_fl, rd_al, rd_lf, rd_la, rd_leq, rd_lne, rd_fr, rd_ar, ne_eq, Nat.reduceEqDiff, not_false_eq_true])⟩)
          · rw [show k_.toNat = dl_.length by (have z9_ := hdl_.2; have y9_ := hkl_; omega)] at hco_
            refine ⟨?_, by (rw [← hco_, ← hb_.1, ← h4_]; exact L8_)⟩
            rw [rd_ne (by decide), rd_ne (by decide), rd_eq, if_pos rfl, L7_, hco_]
          · omega
        · have cx4_ : ¬ ((sm_lcmp lt_ ((l_i2l (S_.2.2.1 206 0 (2 * n_ + t_).toNat)))) < 0) := of_decide_eq_false cx4_
          have L6_ : ¬ (lt_ < S_.2.2.1 206 0 (2 * n_ + t_).toNat) := fun q8_ => cx4_ (lcmp_lt.mpr (by (rw [l_i2l_s (by omega) (by omega)]; exact q8_)))
          refine sm_T_rv rfl ⟨_, _, rfl, rfl, hI_, hF_, ?_⟩
          rw [show k_.toNat = dl_.length by (have z9_ := hdl_.2; have y9_ := hkl_; omega)] at hco_
          rw [h4_] at L6_ ⊢
          refine ⟨⟨hw0_, hw1_, wf2_rf⟩, wfr_rf, ?_⟩
          unfold wst
          rw [if_neg (by (rw [← hco_, ← hb_.1]; exact L6_))]
          exact hb_
      · have cx2_ : ¬ ((S_.2.2.1 204 0 cu_.toNat) ≤ k_) := of_decide_eq_false cx2_
        have b9_ := hct_ cu_ (by omega) (by omega)
        refine sm_T_go 6 (c1 := (42, [some (.inr (.inr (some (13, 0)))), some (.inl n_), some (.inl t_), some (.inl c_), some (.inl cu_), some (.inl or9_), some (.inl tu_), some (.inr (.inl lt_)), none, some (.inl k_), none], [.inl cu_, .inl 3, .inr (.inr (some (205, 0))), .inr (.inr (some (13, 0))), .inr (.inl lt_)], S_)) rfl ?_
        refine sm_T_bin (w := 3 * cu_) rfl (bi_mul (by omega) (by omega) (by omega)) ?_ -- pc_ 42
        refine sm_T_go 3 (c1 := (49, [some (.inr (.inr (some (13, 0)))), some (.inl n_), some (.inl t_), some (.inl c_), some (.inl cu_), some (.inl or9_), some (.inl tu_), some (.inr (.inl lt_)), none, some (.inl k_), none], [.inl cu_, .inr (.inr (some (204, 0))), .inl (3 * cu_), .inr (.inr (some (205, 0))), .inr (.inr (some (13, 0))), .inr (.inl lt_)], S_)) rfl ?_
        refine sm_T_iald (n := 64) rfl rfl (by omega) (by omega) ?_
        refine sm_T_go 2 (c1 := (54, [some (.inr (.inr (some (13, 0)))), some (.inl n_), some (.inl t_), some (.inl c_), some (.inl cu_), some (.inl or9_), some (.inl tu_), some (.inr (.inl lt_)), none, some (.inl k_), none], [.inl k_, .inl or9_, .inl (S_.2.2.1 204 0 cu_.toNat), .inl (3 * cu_), .inr (.inr (some (205, 0))), .inr (.inr (some (13, 0))), .inr (.inl lt_)], S_)) rfl ?_
        refine sm_T_cal (d1 := 0) (Q1 := vq_403 (S_.2.2.1 204 0 cu_.toNat) or9_ k_ S_) rfl rfl (by decide) (vc_403 (S_.2.2.1 204 0 cu_.toNat) or9_ k_ S_ hI_ (by omega)) (fun u_ Sx12_ px15_ => ?_)
        obtain ⟨rfl, vx17_, rfl, px15_⟩ := px15_
        have e54_ := px15_
        rw [x204_] at e54_
        have n9_ := b9_.2 vx17_ (by omega) (by omega)
        rw [← f205_] at n9_
        have n8_ := n9_.1
        have n7_ := n9_.2.1
        refine sm_T_bin (w := 3 * cu_ + vx17_) rfl (bi_add (by omega) (by omega) (by omega)) ?_ -- pc_ 57
        refine sm_T_iald (n := 192) rfl rfl (by omega) (by omega) ?_
        have bx18_ : 0 ≤ S_.2.2.1 205 0 (3 * cu_ + vx17_).toNat ∧ S_.2.2.1 205 0 (3 * cu_ + vx17_).toNat ≤ 1012 := hI_.2 205 0 _
        refine sm_T_go 2 (c1 := (63, [some (.inr (.inr (some (13, 0)))), some (.inl n_), some (.inl t_), some (.inl c_), some (.inl cu_), some (.inl or9_), some (.inl tu_), some (.inr (.inl lt_)), none, some (.inl k_), none], [.inl k_, .inl tu_, .inl (S_.2.2.1 205 0 (3 * cu_ + vx17_).toNat), .inr (.inr (some (13, 0))), .inr (.inl lt_)], S_)) rfl ?_
        refine sm_T_bin (w := (i_shr tu_ k_)) rfl rfl ?_ -- pc_ 63
        refine sm_T_go 1 (c1 := (65, [some (.inr (.inr (some (13, 0)))), some (.inl n_), some (.inl t_), some (.inl c_), some (.inl cu_), some (.inl or9_), some (.inl tu_), some (.inr (.inl lt_)), none, some (.inl k_), none], [.inl 1, .inl (i_shr tu_ k_), .inl (S_.2.2.1 205 0 (3 * cu_ + vx17_).toNat), .inr (.inr (some (13, 0))), .inr (.inl lt_)], S_)) rfl ?_
        refine sm_T_bin (w := ((i_shr tu_ k_) % 2)) rfl (bi_msk (k := 1) (by decide)) ?_ -- pc_ 65
        refine sm_T_cal (d1 := 1) (Q1 := vq_404 (S_.2.2.1 205 0 (3 * cu_ + vx17_).toNat) ((i_shr tu_ k_) % 2) F_ S_) rfl rfl (by decide) (vc_404 (S_.2.2.1 205 0 (3 * cu_ + vx17_).toNat) ((i_shr tu_ k_) % 2) F_ S_ hI_ (by exact f160_) (by omega)) (fun u_ Sx19_ px22_ => ?_)
        obtain ⟨rfl, vx24_, rfl, px22_⟩ := px22_
        have e66_ := px22_
        rw [c9_, f205_, e54_.1] at e66_
        have L9_ := l_0_s (x_ := lt_) (y_ := vx24_) (by omega) (by omega)
        have cd9_ := cdn_r (V_ := S0_.2.2.1 205 0) (k_ := k_) hdl_.1 hdl_.2 hcv_ (by omega) hvv_.2.1 (wic_o (by omega) hvv_.1) (by omega)
        have tn9_ := tn_r (vv_ := vv_) (ip_ := dl_.length) (k_ := k_) (by omega) (by omega)
        rw [← hvv_.2.2] at tn9_
        refine sm_T_go 3 (c1 := (73, [some (.inr (.inr (some (13, 0)))), some (.inl n_), some (.inl t_), some (.inl c_), some (.inl cu_), some (.inl or9_), some (.inl tu_), some (.inr (.inl (l_0 lt_ ((l_i2l vx24_))))), none, some (.inl k_), none], [], S_)) rfl ?_
        refine sm_T_inc (a := 9) (z := 1) (v := k_) (w := k_ + 1) rfl rfl (by omega) (by omega) (by omega) ?_ -- pc_ 73
        refine sm_T_go 1 (c1 := (20, [some (.inr (.inr (some (13, 0)))), some (.inl n_), some (.inl t_), some (.inl c_), some (.inl cu_), some (.inl or9_), some (.inl tu_), some (.inr (.inl (l_0 lt_ ((l_i2l vx24_))))), none, some (.inl (k_ + 1)), none], [], S_)) rfl ?_
        refine ih_.1 ((l_0 lt_ ((l_i2l vx24_)))) (k_ + 1) S_ hI_ hF_ ⟨?_, ?_, ?_, ?_, ?_, trivial⟩ ?_
        · (rw [L9_]; omega)
        · intro j9_ u0_ u1_
          rw [L9_]
          by_cases z9_ : j9_ = k_
          · rw [z9_]; omega
          · have w9_ := h1_ j9_ u0_ (by omega); omega
        · exact h4_
        · rw [show (k_ + 1).toNat = k_.toNat + 1 by omega, cco_s, L9_, ← hco_, cd9_, ← tn9_, e66_.1]
          rfl
        · (have z9_ := hdl_.2; omega)
        · omega
    · rintro w_ k_ S_ hI_ hF_ ⟨h0_, h1_, h2_, h3_, h5_, hco_, -⟩ hm_
      have f204_ : S_.2.2.1 204 0 = S0_.2.2.1 204 0 := fr_arr hF_ rfl
      have f205_ : S_.2.2.1 205 0 = S0_.2.2.1 205 0 := fr_arr hF_ rfl
      have f160_ : S_.2.2.1 160 0 (S_.1 13 0 105).toNat = F_ := by (rw [hF_.1 13 0 105 rfl, fr_arr (t := 160) (i := 0) hF_ rfl]; exact hf_)
      have c9_ : cst F_ S_ = cst F_ S0_ := cst_fr hF_
      have x204_ : S_.2.2.1 204 0 cu_.toNat = S0_.2.2.1 204 0 cu_.toNat := congrFun f204_ _
      have b204_ : 0 ≤ S_.2.2.1 204 0 cu_.toNat ∧ S_.2.2.1 204 0 cu_.toNat ≤ 3 := hI_.2 204 0 _
      have g106_ : S_.1 13 0 106 = S0_.1 13 0 106 := hF_.1 13 0 106 rfl
      refine sm_T_go 4 (c1 := (139, [some (.inr (.inr (some (13, 0)))), some (.inl n_), some (.inl t_), some (.inl c_), some (.inl cu_), some (.inl or9_), some (.inl tu_), none, none, some (.inl w_), some (.inl k_)], [.inl cu_, .inr (.inr (some (204, 0))), .inl k_], S_)) rfl ?_
      refine sm_T_iald (n := 64) rfl rfl (by omega) (by omega) ?_
      have bx1_ : 0 ≤ S_.2.2.1 204 0 cu_.toNat ∧ S_.2.2.1 204 0 cu_.toNat ≤ 3 := hI_.2 204 0 _
      refine sm_T_br (a := 3) (z := 45) rfl (fun cx2_ => ?_) (fun cx2_ => ?_)
      · have cx2_ : (S_.2.2.1 204 0 cu_.toNat) ≤ k_ := of_decide_eq_true cx2_
        refine sm_T_rv rfl ⟨_, _, rfl, rfl, hI_, hF_, ?_⟩
        refine ⟨?_, ?_, ?_⟩
        · have z0_ : S_.2.2.1 185 0 = S0_.2.2.1 185 0 := fr_arr hF_ rfl
          have z2_ : S_.2.2.1 202 0 = S0_.2.2.1 202 0 := fr_arr hF_ rfl
          have own_ : wyc F_ n_ S_ w_ := fun _ => by
            rw [h2_.1, h2_.2, z0_, g106_, ← hsz_]
            refine ⟨by omega, (hct_ cu_ (by omega) (by omega)).1, fun k9_ v0_ v1_ => ?_⟩
            rw [h3_ k9_ v0_ (by omega)]
            refine ⟨by (rw [z2_]; exact (hct_ cu_ (by omega) (by omega)).2 _ (iat_b (by omega) (by omega) (by omega)).1 (iat_b (by omega) (by omega) (by omega)).2), ?_⟩
            rw [c9_]
            exact h1_ k9_ v0_ v1_
          have oth_ : ∀ l9_ : Int, 0 ≤ l9_ → l9_ ≠ w_ → wyc F_ n_ S0_ l9_ → wyc F_ n_ S_ l9_ := fun l9_ u0_ u1_ u2_ => wyc_cg hI_ u2_ u0_ (h5_.1 _ (by omega)).1 (h5_.1 _ (by omega)).2.1 (h5_.1 _ (by omega)).2.2 (fun k9_ v0_ v1_ => h5_.2 _ (by omega)) z0_ g106_ z2_ (fun x9_ t9_ _ _ _ _ => by rw [c9_])
          have v9_ : w_ = 2 * n_ ∨ w_ = 2 * n_ + 1 := by omega
          rcases v9_ with v9_ | v9_
          · exact ⟨by (rw [← v9_]; exact own_), oth_ _ (by omega) (by omega) hw1_, wf2_w h5_ (by omega) (Or.inl v9_)⟩
          · exact ⟨oth_ _ (by omega) (by omega) hw0_, by (rw [← v9_]; exact own_), wf2_w h5_ (by omega) (Or.inr v9_)⟩
        · rw [← h0_.2.2.1]
          exact h5_
        · rw [← h0_.2.2.1]
          unfold wst
          rw [if_pos hco_.2]
          refine ⟨hco_.1, Or.inr ⟨?_, by (rw [h2_.1]; show c_ = ((c_.toNat : Nat) : Int); omega), by (rw [h2_.2]; exact hvv_.2.2), fun j_ hj_ => ?_⟩⟩
          · have z9_ := hco_.2
            show cco adr (pcq F_ S0_) (S0_.2.2.1 187 0 (12 * S0_.1 13 0 106 + c_).toNat) dl_ dl_.length vv_ dl_.length < 1000000000
            rcases hb_.2 with y9_ | y9_ <;> omega
          · have hj_ : (j_ : Int) < S_.2.2.1 185 0 (12 * S_.1 13 0 106 + ((c_.toNat : Nat) : Int)).toNat := hj_
            rw [show ((c_.toNat : Nat) : Int) = c_ by omega, g106_, show S_.2.2.1 185 0 = S0_.2.2.1 185 0 from fr_arr hF_ rfl, ← hsz_] at hj_
            have z9_ := h3_ (j_ : Int) (by omega) (by omega)
            rw [show (3 * w_ + (j_ : Int)).toNat = 3 * w_.toNat + j_ by omega] at z9_
            rw [z9_]
            have y9_ := cdn_r (V_ := S0_.2.2.1 205 0) (k_ := (j_ : Int)) hdl_.1 hdl_.2 hcv_ (by omega) hvv_.2.1 (wic_o (by omega) hvv_.1) (by omega)
            rw [Int.toNat_natCast] at y9_
            exact y9_.symm
      · have cx2_ : ¬ ((S_.2.2.1 204 0 cu_.toNat) ≤ k_) := of_decide_eq_false cx2_
        have b9_ := hct_ cu_ (by omega) (by omega)
        refine sm_T_go 4 (c1 := (150, [some (.inr (.inr (some (13, 0)))), some (.inl n_), some (.inl t_), some (.inl c_), some (.inl cu_), some (.inl or9_), some (.inl tu_), none, none, some (.inl w_), some (.inl k_)], [.inl w_, .inl 3, .inr (.inr (some (208, 0)))], S_)) rfl ?_
        refine sm_T_bin (w := 3 * w_) rfl (bi_mul (by omega) (by omega) (by omega)) ?_ -- pc_ 150
        refine sm_T_go 1 (c1 := (153, [some (.inr (.inr (some (13, 0)))), some (.inl n_), some (.inl t_), some (.inl c_), some (.inl cu_), some (.inl or9_), some (.inl tu_), none, none, some (.inl w_), some (.inl k_)], [.inl k_, .inl (3 * w_), .inr (.inr (some (208, 0)))], S_)) rfl ?_
        refine sm_T_bin (w := 3 * w_ + k_) rfl (bi_add (by omega) (by omega) (by omega)) ?_ -- pc_ 153
        refine sm_T_go 4 (c1 := (161, [some (.inr (.inr (some (13, 0)))), some (.inl n_), some (.inl t_), some (.inl c_), some (.inl cu_), some (.inl or9_), some (.inl tu_), none, none, some (.inl w_), some (.inl k_)], [.inl cu_, .inl 3, .inr (.inr (some (205, 0))), .inl (3 * w_ + k_), .inr (.inr (some (208, 0)))], S_)) rfl ?_
        refine sm_T_bin (w := 3 * cu_) rfl (bi_mul (by omega) (by omega) (by omega)) ?_ -- pc_ 161
        refine sm_T_go 3 (c1 := (168, [some (.inr (.inr (some (13, 0)))), some (.inl n_), some (.inl t_), some (.inl c_), some (.inl cu_), some (.inl or9_), some (.inl tu_), none, none, some (.inl w_), some (.inl k_)], [.inl cu_, .inr (.inr (some (204, 0))), .inl (3 * cu_), .inr (.inr (some (205, 0))), .inl (3 * w_ + k_), .inr (.inr (some (208, 0)))], S_)) rfl ?_
        refine sm_T_iald (n := 64) rfl rfl (by omega) (by omega) ?_
        refine sm_T_go 2 (c1 := (173, [some (.inr (.inr (some (13, 0)))), some (.inl n_), some (.inl t_), some (.inl c_), some (.inl cu_), some (.inl or9_), some (.inl tu_), none, none, some (.inl w_), some (.inl k_)], [.inl k_, .inl or9_, .inl (S_.2.2.1 204 0 cu_.toNat), .inl (3 * cu_), .inr (.inr (some (205, 0))), .inl (3 * w_ + k_), .inr (.inr (some (208, 0)))], S_)) rfl ?_
        refine sm_T_cal (d1 := 0) (Q1 := vq_403 (S_.2.2.1 204 0 cu_.toNat) or9_ k_ S_) rfl rfl (by decide) (vc_403 (S_.2.2.1 204 0 cu_.toNat) or9_ k_ S_ hI_ (by omega)) (fun u_ Sx3_ px6_ => ?_)
        obtain ⟨rfl, vx8_, rfl, px6_⟩ := px6_
        have e173_ := px6_
        rw [x204_] at e173_
        have n9_ := b9_.2 vx8_ (by omega) (by omega)
        rw [← f205_] at n9_
        have n8_ := n9_.1
        have n7_ := n9_.2.1
        refine sm_T_bin (w := 3 * cu_ + vx8_) rfl (bi_add (by omega) (by omega) (by omega)) ?_ -- pc_ 176
        refine sm_T_iald (n := 192) rfl rfl (by omega) (by omega) ?_
        have bx9_ : 0 ≤ S_.2.2.1 205 0 (3 * cu_ + vx8_).toNat ∧ S_.2.2.1 205 0 (3 * cu_ + vx8_).toNat ≤ 1012 := hI_.2 205 0 _
        refine sm_T_iast (n := 12288) rfl rfl (by omega) (by omega) ?_
        have hIx10_ : gi (sm_aI S_ 208 0 (3 * w_ + k_).toNat (S_.2.2.1 205 0 (3 * cu_ + vx8_).toNat)) := gi_aI hI_ (show 0 ≤ (S_.2.2.1 205 0 (3 * cu_ + vx8_).toNat) ∧ (S_.2.2.1 205 0 (3 * cu_ + vx8_).toNat) ≤ 2047 from ⟨by omega, by omega⟩)
        have hFx11_ : ai_fr (sx_W vw_406n) S0_ (sm_aI S_ 208 0 (3 * w_ + k_).toNat (S_.2.2.1 205 0 (3 * cu_ + vx8_).toNat)) := ai_fr_tr hF_ (ai_fr_aI rfl)
        refine sm_T_inc (a := 10) (z := 1) (v := k_) (w := k_ + 1) rfl rfl (by omega) (by omega) (by omega) ?_ -- pc_ 179
        refine sm_T_go 1 (c1 := (131, [some (.inr (.inr (some (13, 0)))), some (.inl n_), some (.inl t_), some (.inl c_), some (.inl cu_), some (.inl or9_), some (.inl tu_), none, none, some (.inl w_), some (.inl (k_ + 1))], [], sm_aI S_ 208 0 (3 * w_ + k_).toNat (S_.2.2.1 205 0 (3 * cu_ + vx8_).toNat))) rfl ?_
        refine ih_.2 w_ (k_ + 1) (sm_aI S_ 208 0 (3 * w_ + k_).toNat (S_.2.2.1 205 0 (3 * cu_ + vx8_).toNat)) hIx10_ hFx11_ ⟨?_, ?_, ?_, ?_, ?_, ?_, trivial⟩ ?_
        · omega
        · exact h1_
        · ((try simp only [rd_eq, rd_ne, rf_eq, rf_nk, rf_nt, rd_fa, rd_af, rd_fl, rd_al, rd_lf, rd_la, rd_leq, rd_lne, rd_fr, rd_ar, ne_eq, Nat.reduceEqDiff, not_false_eq_true]); exact h2_)
        · intro j9_ u0_ u1_
          rw [rd_eq]
          by_cases z9_ : (3 * w_ + j9_).toNat = (3 * w_ + k_).toNat
          · rw [if_pos z9_, f205_, e173_.1, show j9_ = k_ by omega]
          · rw [if_neg z9_]; exact h3_ j9_ u0_ (by omega)
        · exact ⟨fun j9_ h9_ => by ((try simp only [rd_eq, rd_ne, rf_eq, rf_nk, rf_nt, rd_fa, rd_af, rd_fl, rd_al, rd_lf, rd_la, rd_leq, rd_lne, rd_fr, rd_ar, ne_eq, Nat.reduceEqDiff, not_false_eq_true]); exact h5_.1 j9_ h9_), fun j9_ h9_ => by ((try simp only [rd_eq, rd_ne, rf_eq, rf_nk, rf_nt, rd_fa, rd_af, rd_fl, rd_al, rd_lf, rd_la, rd_leq, rd_lne, rd_fr, rd_ar, ne_eq, Nat.reduceEqDiff, not_false_eq_true]); rw [if_neg (by omega)]; exact h5_.2 j9_ h9_)⟩
        · (rw [rd_ne (by decide)]; exact hco_)
        · omega
set_option maxHeartbeats 4000000 in
set_option maxRecDepth 20000 in
theorem vc_406n {sc_ : Nat × (Nat → Int)} (n_ : Int) (t_ : Int) (c_ : Int) (cu_ : Int) (or9_ : Int) (tu_ : Int) (F_ : Int) (dl_ : List Nat) (vv_ : Nat) (b_ : Int × Int × Int × (Nat → Int)) (S0_ : sm_S) (hI_ : gi S0_) (hf_ : S0_.2.2.1 160 0 (S0_.1 13 0 105).toNat = F_) (hn_ : 1 ≤ F_ ∧ F_ ≤ n_ ∧ n_ ≤ 1012) (hh_ : 0 ≤ c_ ∧ c_ ≤ 11 ∧ 0 ≤ cu_ ∧ cu_ < S0_.1 13 0 114 ∧ 0 ≤ or9_ ∧ or9_ ≤ 5 ∧ 0 ≤ tu_ ∧ tu_ ≤ 7) (hct_ : ctp (cnd9 n_ (S0_.2.2.1 202 0)) S0_) (hsz_ : S0_.2.2.1 204 0 cu_.toNat = S0_.2.2.1 185 0 (12 * S0_.1 13 0 106 + c_).toNat) (hw0_ : wyc F_ n_ S0_ (2 * n_)) (hw1_ : wyc F_ n_ S0_ (2 * n_ + 1)) (hx_ : 0 ≤ t_ ∧ t_ ≤ 1) (hdl_ : (2 ≤ dl_.length ∧ dl_.length ≤ 3) ∧ S0_.2.2.1 204 0 cu_.toNat = (dl_.length : Int)) (hcv_ : ∀ k_ x_ : Nat, dl_[k_]? = some x_ → S0_.2.2.1 205 0 (3 * cu_.toNat + k_) = (x_ : Int)) (hvv_ : vv_ < wic dl_.length ∧ or9_ = ((vv_ / 2 ^ dl_.length : Nat) : Int) ∧ tu_ = ((vv_ % 2 ^ dl_.length : Nat) : Int)) (hb_ : wrr S0_ (2 * n_ + t_).toNat b_) : sm_T (mt_P sc_) 2 406 (0, [some (.inr (.inr (some (13, 0)))), some (.inl n_), some (.inl t_), some (.inl c_), some (.inl cu_), some (.inl or9_), some (.inl tu_), none, none, none, none], [], S0_) (fun ro9_ => ∃ u_ S1_, ro9_ = (.inl u_, S1_, 0) ∧ vq_406n n_ t_ c_ cu_ or9_ tu_ F_ dl_ vv_ b_ S0_ u_ S1_) := by
  have hF_ : ai_fr (sx_W vw_406n) S0_ S0_ := ai_fr_rf
  have b114_ : S0_.1 13 0 114 ≤ 64 := (hI_.1 13 0 114 rfl).2
  have q204_ : 0 ≤ S0_.2.2.1 204 0 cu_.toNat ∧ S0_.2.2.1 204 0 cu_.toNat ≤ 3 := hI_.2 204 0 _
  have b106_ : 0 ≤ S0_.1 13 0 106 ∧ S0_.1 13 0 106 ≤ 2 := hI_.1 13 0 106 rfl
  have bx1_ : 0 ≤ S0_.1 13 0 106 ∧ S0_.1 13 0 106 ≤ 2 := hI_.1 13 0 106 rfl
  refine sm_T_go 5 (c1 := (10, [some (.inr (.inr (some (13, 0)))), some (.inl n_), some (.inl t_), some (.inl c_), some (.inl cu_), some (.inl or9_), some (.inl tu_), none, none, none, none], [.inl (S0_.1 13 0 106), .inl 12, .inr (.inr (some (187, 0)))], S0_)) rfl ?_
  refine sm_T_bin (w := 12 * (S0_.1 13 0 106)) rfl (bi_mul (by omega) (by omega) (by omega)) ?_ -- pc_ 10
  refine sm_T_go 1 (c1 := (12, [some (.inr (.inr (some (13, 0)))), some (.inl n_), some (.inl t_), some (.inl c_), some (.inl cu_), some (.inl or9_), some (.inl tu_), none, none, none, none], [.inl c_, .inl (12 * (S0_.1 13 0 106)), .inr (.inr (some (187, 0)))], S0_)) rfl ?_
  refine sm_T_bin (w := 12 * (S0_.1 13 0 106) + c_) rfl (bi_add (by omega) (by omega) (by omega)) ?_ -- pc_ 12
  refine sm_T_iald (n := 36) rfl rfl (by omega) (by omega) ?_
  have bx2_ : 0 ≤ S0_.2.2.1 187 0 (12 * (S0_.1 13 0 106) + c_).toNat ∧ S0_.2.2.1 187 0 (12 * (S0_.1 13 0 106) + c_).toNat ≤ 1000 := hI_.2 187 0 _
  refine sm_T_go 4 (c1 := (20, [some (.inr (.inr (some (13, 0)))), some (.inl n_), some (.inl t_), some (.inl c_), some (.inl cu_), some (.inl or9_), some (.inl tu_), some (.inr (.inl (l_i2l (S0_.2.2.1 187 0 (12 * (S0_.1 13 0 106) + c_).toNat)))), none, some (.inl 0), none], [], S0_)) rfl ?_
  refine (vl_406n n_ t_ c_ cu_ or9_ tu_ F_ dl_ vv_ b_ S0_ hf_ hn_ hh_ hct_ hsz_ hw0_ hw1_ hx_ hdl_ hcv_ hvv_ hb_ _).1 ((l_i2l (S0_.2.2.1 187 0 (12 * (S0_.1 13 0 106) + c_).toNat))) 0 S0_ hI_ hF_ ⟨?_, ?_, ?_, ?_, ?_, trivial⟩ (Nat.lt_succ_self _)
  · (rw [l_i2l_s (by omega) (by omega)]; omega)
  · (intro j9_ u0_ u1_; exfalso; omega)
  · rfl
  · (rw [l_i2l_s (by omega) (by omega)]; rfl)
  · omega
/-! M_.tryCell -/
def vw_408n : sx_Wl := ([], [206, 207, 208, 209], [])
def vq_408n (n_ : Int) (c_ : Int) (cu_ : Int) (sz_ : Int) (F_ : Int) (dl_ : List Nat) (b0_ : Int × Int × Int × (Nat → Int)) (b1_ : Int × Int × Int × (Nat → Int)) (S0_ : sm_S) (u_ : Option sm_V) (S1_ : sm_S) : Prop := u_ = none ∧ gi S1_ ∧ ai_fr (sx_W vw_408n) S0_ S1_ ∧ ((wyc F_ n_ S1_ (2 * n_) ∧ wyc F_ n_ S1_ (2 * n_ + 1) ∧ wf2 n_ S0_ S1_) ∧ wrr S1_ (2 * n_).toNat (cfo (wvs adr (pcq F_ S0_) (fun v_ => decide (vwt (S0_.2.2.1 186 0 (12 * S0_.1 13 0 106 + c_).toNat) dl_.length v_ 8 = tbr 0 (S0_.2.2.1 215 0 cu_.toNat))) (S0_.2.2.1 187 0 (12 * S0_.1 13 0 106 + c_).toNat) c_.toNat dl_ dl_.length) (wic dl_.length) b0_) ∧ wrr S1_ (2 * n_ + 1).toNat (cfo (wvs adr (pcq F_ S0_) (fun v_ => decide (vwt (S0_.2.2.1 186 0 (12 * S0_.1 13 0 106 + c_).toNat) dl_.length v_ 8 = tbr 1 (S0_.2.2.1 215 0 cu_.toNat))) (S0_.2.2.1 187 0 (12 * S0_.1 13 0 106 + c_).toNat) c_.toNat dl_ dl_.length) (wic dl_.length) b1_))
set_option maxHeartbeats 4000000 in
set_option maxRecDepth 20000 in
theorem vl_408n {sc_ : Nat × (Nat → Int)} (n_ : Int) (c_ : Int) (cu_ : Int) (sz_ : Int) (F_ : Int) (dl_ : List Nat) (b0_ : Int × Int × Int × (Nat → Int)) (b1_ : Int × Int × Int × (Nat → Int)) (S0_ : sm_S) (hdl_ : (2 ≤ dl_.length ∧ dl_.length ≤ 3) ∧ S0_.2.2.1 204 0 cu_.toNat = (dl_.length : Int)) (hcv_ : ∀ k_ x_ : Nat, dl_[k_]? = some x_ → S0_.2.2.1 205 0 (3 * cu_.toNat + k_) = (x_ : Int)) (hszl : sz_ = (dl_.length : Int)) (hb0_ : wrr S0_ (2 * n_).toNat b0_) (hb1_ : wrr S0_ (2 * n_ + 1).toNat b1_) (hf_ : S0_.2.2.1 160 0 (S0_.1 13 0 105).toNat = F_) (hn_ : 1 ≤ F_ ∧ F_ ≤ n_ ∧ n_ ≤ 1012) (hh_ : 0 ≤ c_ ∧ c_ ≤ 11 ∧ 0 ≤ cu_ ∧ cu_ < S0_.1 13 0 114 ∧ 1 ≤ sz_ ∧ sz_ ≤ 3) (hct_ : ctp (cnd9 n_ (S0_.2.2.1 202 0)) S0_) (hsz_ : S0_.2.2.1 204 0 cu_.toNat = S0_.2.2.1 185 0 (12 * S0_.1 13 0 106 + c_).toNat) (hw0_ : wyc F_ n_ S0_ (2 * n_)) (hw1_ : wyc F_ n_ S0_ (2 * n_ + 1)) : ∀ nn_ : Nat, (∀ (o_ : Int) (S_ : sm_S), gi S_ → ai_fr (sx_W vw_408n) S0_ S_ → ((0 ≤ o_ ∧ o_ ≤ 6 ∧ ((sz_ = 2 ∧ o_ ≤ 2) ∨ sz_ = 3)) ∧ (wyc F_ n_ S_ (2 * n_)) ∧ (wyc F_ n_ S_ (2 * n_ + 1)) ∧ (wf2 n_ S0_ S_) ∧ (wrr S_ (2 * n_).toNat (cfo (wvs adr (pcq F_ S0_) (fun v_ => decide (vwt (S0_.2.2.1 186 0 (12 * S0_.1 13 0 106 + c_).toNat) dl_.length v_ 8 = tbr 0 (S0_.2.2.1 215 0 cu_.toNat))) (S0_.2.2.1 187 0 (12 * S0_.1 13 0 106 + c_).toNat) c_.toNat dl_ dl_.length) (o_.toNat * 2 ^ dl_.length) b0_)) ∧ (wrr S_ (2 * n_ + 1).toNat (cfo (wvs adr (pcq F_ S0_) (fun v_ => decide (vwt (S0_.2.2.1 186 0 (12 * S0_.1 13 0 106 + c_).toNat) dl_.length v_ 8 = tbr 1 (S0_.2.2.1 215 0 cu_.toNat))) (S0_.2.2.1 187 0 (12 * S0_.1 13 0 106 + c_).toNat) c_.toNat dl_ dl_.length) (o_.toNat * 2 ^ dl_.length) b1_)) ∧ True) → ((100 * (50 - o_) + 90).toNat) < nn_ → sm_T (mt_P sc_) 3 408 (3, [some (.inr (.inr (some (13, 0)))), some (.inl n_), some (.inl c_), some (.inl cu_), some (.inl sz_), some (.inl o_), none, none], [], S_) (fun ro9_ => ∃ u_ S1_, ro9_ = (.inl u_, S1_, 0) ∧ vq_408n n_ c_ cu_ sz_ F_ dl_ b0_ b1_ S0_ u_ S1_)) ∧ (∀ (o_ : Int) (tu_ : Int) (S_ : sm_S), gi S_ → ai_fr (sx_W vw_408n) S0_ S_ → ((0 ≤ o_ ∧ o_ ≤ 5 ∧ 0 ≤ tu_ ∧ tu_ ≤ 8 ∧ ((sz_ = 2 ∧ o_ ≤ 1) ∨ sz_ = 3) ∧ tu_ ≤ i_shl 1 sz_) ∧ (wyc F_ n_ S_ (2 * n_)) ∧ (wyc F_ n_ S_ (2 * n_ + 1)) ∧ (wf2 n_ S0_ S_) ∧ (wrr S_ (2 * n_).toNat (cfo (wvs adr (pcq F_ S0_) (fun v_ => decide (vwt (S0_.2.2.1 186 0 (12 * S0_.1 13 0 106 + c_).toNat) dl_.length v_ 8 = tbr 0 (S0_.2.2.1 215 0 cu_.toNat))) (S0_.2.2.1 187 0 (12 * S0_.1 13 0 106 + c_).toNat) c_.toNat dl_ dl_.length) (o_.toNat * 2 ^ dl_.length + tu_.toNat) b0_)) ∧ (wrr S_ (2 * n_ + 1).toNat (cfo (wvs adr (pcq F_ S0_) (fun v_ => decide (vwt (S0_.2.2.1 186 0 (12 * S0_.1 13 0 106 + c_).toNat) dl_.length v_ 8 = tbr 1 (S0_.2.2.1 215 0 cu_.toNat))) (S0_.2.2.1 187 0 (12 * S0_.1 13 0 106 + c_).toNat) c_.toNat dl_ dl_.length) (o_.toNat * 2 ^ dl_.length + tu_.toNat) b1_)) ∧ True) → ((100 * (50 - o_) + 80 - tu_).toNat) < nn_ → sm_T (mt_P sc_) 3 408 (24, [some (.inr (.inr (some (13, 0)))), some (.inl n_), some (.inl c_), some (.inl cu_), some (.inl sz_), some (.inl o_), some (.inl tu_), none], [], S_) (fun ro9_ => ∃ u_ S1_, ro9_ = (.inl u_, S1_, 0) ∧ vq_408n n_ c_ cu_ sz_ F_ dl_ b0_ b1_ S0_ u_ S1_)) := by
  intro nn_
  induction nn_ with
  | zero => exact ⟨fun _ _ _ _ _ h_ => absurd h_ (Nat.not_lt_zero _), fun _ _ _ _ _ _ h_ => absurd h_ (Nat.not_lt_zero _)⟩
  | succ nn_ ih_ =>
    refine ⟨?_, ?_⟩
    · rintro o_ S_ hI_ hF_ ⟨h0_, k0_, k1_, k2_, hr0_, hr1_, -⟩ hm_
      have lz9_ := hdl_.1
      have sh8_ := p2_i (ip_ := dl_.length) (by omega)
      rw [← hszl] at sh8_
      have f187_ : S_.2.2.1 187 0 = S0_.2.2.1 187 0 := fr_arr hF_ rfl
      have f186_ : S_.2.2.1 186 0 = S0_.2.2.1 186 0 := fr_arr hF_ rfl
      have f215_ : S_.2.2.1 215 0 = S0_.2.2.1 215 0 := fr_arr hF_ rfl
      have f205_ : S_.2.2.1 205 0 = S0_.2.2.1 205 0 := fr_arr hF_ rfl
      have c85_ : ∀ k_, S_.2.2.1 185 0 k_ ≤ 3 := fun k_ => (hI_.2 185 0 k_).2
      have f160_ : S_.2.2.1 160 0 (S_.1 13 0 105).toNat = F_ := by (rw [hF_.1 13 0 105 rfl, fr_arr (t := 160) (i := 0) hF_ rfl]; exact hf_)
      have g106_ : S_.1 13 0 106 = S0_.1 13 0 106 := hF_.1 13 0 106 rfl
      have g114_ : S_.1 13 0 114 = S0_.1 13 0 114 := hF_.1 13 0 114 rfl
      have f202_ : S_.2.2.1 202 0 = S0_.2.2.1 202 0 := fr_arr hF_ rfl
      have f204_ : S_.2.2.1 204 0 = S0_.2.2.1 204 0 := fr_arr hF_ rfl
      have f185_ : S_.2.2.1 185 0 = S0_.2.2.1 185 0 := fr_arr hF_ rfl
      have ct9_ : ctp (cnd9 n_ (S0_.2.2.1 202 0)) S_ := ctp_fr hct_ hF_
      have b114_ : S_.1 13 0 114 ≤ 64 := (hI_.1 13 0 114 rfl).2
      have b106_ : 0 ≤ S_.1 13 0 106 ∧ S_.1 13 0 106 ≤ 2 := hI_.1 13 0 106 rfl
      refine sm_T_go 3 (c1 := (8, [some (.inr (.inr (some (13, 0)))), some (.inl n_), some (.inl c_), some (.inl cu_), some (.inl sz_), some (.inl o_), none, none], [.inl 3, .inl sz_, .inl o_], S_)) rfl ?_
      refine sm_T_br (a := 1) (z := 8) rfl (fun cx1_ => ?_) (fun cx1_ => ?_)
      · have cx1_ : sz_ ≠ 3 := of_decide_eq_true cx1_
        refine sm_T_go 1 (c1 := (18, [some (.inr (.inr (some (13, 0)))), some (.inl n_), some (.inl c_), some (.inl cu_), some (.inl sz_), some (.inl o_), none, none], [.inl sz_, .inl o_], S_)) rfl ?_
        refine sm_T_br (a := 3) (z := 102) rfl (fun cx2_ => ?_) (fun cx2_ => ?_)
        · have cx2_ : sz_ ≤ o_ := of_decide_eq_true cx2_
          refine sm_T_rv rfl ⟨_, _, rfl, rfl, hI_, hF_, ?_⟩
          rw [← vv_e (o_ := o_.toNat) (ip_ := dl_.length) (by omega)]
          exact ⟨⟨k0_, k1_, k2_⟩, hr0_, hr1_⟩
        · have cx2_ : ¬ (sz_ ≤ o_) := of_decide_eq_false cx2_
          refine sm_T_go 2 (c1 := (24, [some (.inr (.inr (some (13, 0)))), some (.inl n_), some (.inl c_), some (.inl cu_), some (.inl sz_), some (.inl o_), some (.inl 0), none], [], S_)) rfl ?_
          refine ih_.2 o_ 0 S_ hI_ hF_ ⟨?_, ?_, ?_, ?_, ?_, ?_, trivial⟩ ?_
          · (have pz9_ := Nat.two_pow_pos dl_.length; omega)
          · first | exact p105_.1 | exact p78_.1 | exact k0_
          · first | exact p105_.2.1 | exact p78_.2.1 | exact k1_
          · first | exact wf2_tr (wf2_tr k2_ p78_.2.2) p105_.2.2 | exact wf2_tr k2_ p105_.2.2 | exact wf2_tr k2_ p78_.2.2 | exact k2_
          · exact hr0_
          · exact hr1_
          · omega
      · have cx1_ : ¬ (sz_ ≠ 3) := of_decide_eq_false cx1_
        refine sm_T_go 2 (c1 := (18, [some (.inr (.inr (some (13, 0)))), some (.inl n_), some (.inl c_), some (.inl cu_), some (.inl sz_), some (.inl o_), none, none], [.inl 6, .inl o_], S_)) rfl ?_
        refine sm_T_br (a := 3) (z := 102) rfl (fun cx3_ => ?_) (fun cx3_ => ?_)
        · have cx3_ : 6 ≤ o_ := of_decide_eq_true cx3_
          refine sm_T_rv rfl ⟨_, _, rfl, rfl, hI_, hF_, ?_⟩
          rw [← vv_e (o_ := o_.toNat) (ip_ := dl_.length) (by omega)]
          exact ⟨⟨k0_, k1_, k2_⟩, hr0_, hr1_⟩
        · have cx3_ : ¬ (6 ≤ o_) := of_decide_eq_false cx3_
          refine sm_T_go 2 (c1 := (24, [some (.inr (.inr (some (13, 0)))), some (.inl n_), some (.inl c_), some (.inl cu_), some (.inl sz_), some (.inl o_), some (.inl 0), none], [], S_)) rfl ?_
          refine ih_.2 o_ 0 S_ hI_ hF_ ⟨?_, ?_, ?_, ?_, ?_, ?_, trivial⟩ ?_
          · (have pz9_ := Nat.two_pow_pos dl_.length; omega)
          · first | exact p105_.1 | exact p78_.1 | exact k0_
          · first | exact p105_.2.1 | exact p78_.2.1 | exact k1_
          · first | exact wf2_tr (wf2_tr k2_ p78_.2.2) p105_.2.2 | exact wf2_tr k2_ p105_.2.2 | exact wf2_tr k2_ p78_.2.2 | exact k2_
          · exact hr0_
          · exact hr1_
          · omega
    · rintro o_ tu_ S_ hI_ hF_ ⟨h0_, k0_, k1_, k2_, hr0_, hr1_, -⟩ hm_
      have lz9_ := hdl_.1
      have sh8_ := p2_i (ip_ := dl_.length) (by omega)
      rw [← hszl] at sh8_
      have f187_ : S_.2.2.1 187 0 = S0_.2.2.1 187 0 := fr_arr hF_ rfl
      have f186_ : S_.2.2.1 186 0 = S0_.2.2.1 186 0 := fr_arr hF_ rfl
      have f215_ : S_.2.2.1 215 0 = S0_.2.2.1 215 0 := fr_arr hF_ rfl
      have f205_ : S_.2.2.1 205 0 = S0_.2.2.1 205 0 := fr_arr hF_ rfl
      have c85_ : ∀ k_, S_.2.2.1 185 0 k_ ≤ 3 := fun k_ => (hI_.2 185 0 k_).2
      have f160_ : S_.2.2.1 160 0 (S_.1 13 0 105).toNat = F_ := by (rw [hF_.1 13 0 105 rfl, fr_arr (t := 160) (i := 0) hF_ rfl]; exact hf_)
      have g106_ : S_.1 13 0 106 = S0_.1 13 0 106 := hF_.1 13 0 106 rfl
      have g114_ : S_.1 13 0 114 = S0_.1 13 0 114 := hF_.1 13 0 114 rfl
      have f202_ : S_.2.2.1 202 0 = S0_.2.2.1 202 0 := fr_arr hF_ rfl
      have f204_ : S_.2.2.1 204 0 = S0_.2.2.1 204 0 := fr_arr hF_ rfl
      have f185_ : S_.2.2.1 185 0 = S0_.2.2.1 185 0 := fr_arr hF_ rfl
      have ct9_ : ctp (cnd9 n_ (S0_.2.2.1 202 0)) S_ := ctp_fr hct_ hF_
      have b114_ : S_.1 13 0 114 ≤ 64 := (hI_.1 13 0 114 rfl).2
      have b106_ : 0 ≤ S_.1 13 0 106 ∧ S_.1 13 0 106 ≤ 2 := hI_.1 13 0 106 rfl
      have s9_ := i_shl1 (e := sz_) (by omega) (by omega)
      have w9_ := pw_le (n := sz_.toNat) (m := 3) (by omega)
      refine sm_T_go 3 (c1 := (29, [some (.inr (.inr (some (13, 0)))), some (.inl n_), some (.inl c_), some (.inl cu_), some (.inl sz_), some (.inl o_), some (.inl tu_), none], [.inl sz_, .inl 1, .inl tu_], S_)) rfl ?_
      refine sm_T_bin (w := (i_shl 1 sz_)) rfl rfl ?_ -- pc_ 29
      have sh9_ := p2_i (ip_ := dl_.length) (by omega)
      rw [← hszl] at sh9_
      refine sm_T_br (a := 3) (z := 84) rfl (fun cx3_ => ?_) (fun cx3_ => ?_)
      · have cx3_ : (i_shl 1 sz_) ≤ tu_ := of_decide_eq_true cx3_
        refine sm_T_inc (a := 5) (z := 1) (v := o_) (w := o_ + 1) rfl rfl (by omega) (by omega) (by omega) ?_ -- pc_ 114
        refine sm_T_go 1 (c1 := (3, [some (.inr (.inr (some (13, 0)))), some (.inl n_), some (.inl c_), some (.inl cu_), some (.inl sz_), some (.inl (o_ + 1)), some (.inl tu_), none], [], S_)) rfl ?_
        refine sm_T_wk [some (.inr (.inr (some (13, 0)))), some (.inl n_), some (.inl c_), some (.inl cu_), some (.inl sz_), some (.inl (o_ + 1)), none, none] (by exact ⟨rfl, rfl, rfl, rfl, rfl, rfl, trivial⟩) ?_
        refine ih_.1 (o_ + 1) S_ hI_ hF_ ⟨?_, ?_, ?_, ?_, ?_, ?_, trivial⟩ ?_
        · omega
        · first | exact p105_.1 | exact p78_.1 | exact k0_
        · first | exact p105_.2.1 | exact p78_.2.1 | exact k1_
        · first | exact wf2_tr (wf2_tr k2_ p78_.2.2) p105_.2.2 | exact wf2_tr k2_ p105_.2.2 | exact wf2_tr k2_ p78_.2.2 | exact k2_
        · (rw [show (o_ + 1).toNat = o_.toNat + 1 by omega, ← vv_s (by omega)]; have z9_ := hr0_; rw [show tu_.toNat = 2 ^ dl_.length by omega] at z9_; exact z9_)
        · (rw [show (o_ + 1).toNat = o_.toNat + 1 by omega, ← vv_s (by omega)]; have z9_ := hr1_; rw [show tu_.toNat = 2 ^ dl_.length by omega] at z9_; exact z9_)
        · omega
      · have cx3_ : ¬ ((i_shl 1 sz_) ≤ tu_) := of_decide_eq_false cx3_
        have bx4_ : 0 ≤ S_.1 13 0 106 ∧ S_.1 13 0 106 ≤ 2 := hI_.1 13 0 106 rfl
        refine sm_T_go 5 (c1 := (43, [some (.inr (.inr (some (13, 0)))), some (.inl n_), some (.inl c_), some (.inl cu_), some (.inl sz_), some (.inl o_), some (.inl tu_), none], [.inl (S_.1 13 0 106), .inl 12, .inr (.inr (some (186, 0)))], S_)) rfl ?_
        refine sm_T_bin (w := 12 * (S_.1 13 0 106)) rfl (bi_mul (by omega) (by omega) (by omega)) ?_ -- pc_ 43
        refine sm_T_go 1 (c1 := (45, [some (.inr (.inr (some (13, 0)))), some (.inl n_), some (.inl c_), some (.inl cu_), some (.inl sz_), some (.inl o_), some (.inl tu_), none], [.inl c_, .inl (12 * (S_.1 13 0 106)), .inr (.inr (some (186, 0)))], S_)) rfl ?_
        refine sm_T_bin (w := 12 * (S_.1 13 0 106) + c_) rfl (bi_add (by omega) (by omega) (by omega)) ?_ -- pc_ 45
        refine sm_T_iald (n := 36) rfl rfl (by omega) (by omega) ?_
        have bx5_ : 0 ≤ S_.2.2.1 186 0 (12 * (S_.1 13 0 106) + c_).toNat ∧ S_.2.2.1 186 0 (12 * (S_.1 13 0 106) + c_).toNat ≤ 255 := hI_.2 186 0 _
        refine sm_T_go 3 (c1 := (53, [some (.inr (.inr (some (13, 0)))), some (.inl n_), some (.inl c_), some (.inl cu_), some (.inl sz_), some (.inl o_), some (.inl tu_), none], [.inl tu_, .inl o_, .inl sz_, .inl (S_.2.2.1 186 0 (12 * (S_.1 13 0 106) + c_).toNat)], S_)) rfl ?_
        refine sm_T_cal (d1 := 1) (Q1 := vq_405n (S_.2.2.1 186 0 (12 * (S_.1 13 0 106) + c_).toNat) sz_ o_ tu_ S_) rfl rfl (by decide) (vc_405n (S_.2.2.1 186 0 (12 * (S_.1 13 0 106) + c_).toNat) sz_ o_ tu_ S_ hI_ (by omega)) (fun u_ Sx6_ px9_ => ?_)
        obtain ⟨rfl, vx11_, rfl, px9_⟩ := px9_
        have tz9_ : tu_.toNat < 2 ^ dl_.length := by (have z9_ := sh9_; omega)
        have e53_ := (px9_).2
        have v53_ : vx11_ = vwt (S0_.2.2.1 186 0 (12 * S0_.1 13 0 106 + c_).toNat) dl_.length (o_.toNat * 2 ^ dl_.length + tu_.toNat) 8 := by (rw [e53_]; unfold vwt; rw [(vv_d (by omega) tz9_).1, (vv_d (by omega) tz9_).2, show ((o_.toNat : Nat) : Int) = o_ by omega, show ((tu_.toNat : Nat) : Int) = tu_ by omega, ← hszl, show dl_.length = sz_.toNat by omega, f186_, g106_])
        refine sm_T_go 5 (c1 := (65, [some (.inr (.inr (some (13, 0)))), some (.inl n_), some (.inl c_), some (.inl cu_), some (.inl sz_), some (.inl o_), some (.inl tu_), some (.inl vx11_)], [.inl cu_, .inr (.inr (some (215, 0))), .inl vx11_], S_)) rfl ?_
        refine sm_T_iald (n := 64) rfl rfl (by omega) (by omega) ?_
        have bx12_ : 0 ≤ S_.2.2.1 215 0 cu_.toNat ∧ S_.2.2.1 215 0 cu_.toNat ≤ 255 := hI_.2 215 0 _
        refine sm_T_br (a := 1) (z := 15) rfl (fun cx13_ => ?_) (fun cx13_ => ?_)
        · have cx13_ : vx11_ ≠ (S_.2.2.1 215 0 cu_.toNat) := of_decide_eq_true cx13_
          have n66_ : ¬ ((fun v_ => decide (vwt (S0_.2.2.1 186 0 (12 * S0_.1 13 0 106 + c_).toNat) dl_.length v_ 8 = tbr 0 (S0_.2.2.1 215 0 cu_.toNat))) (o_.toNat * 2 ^ dl_.length + tu_.toNat) = true) := fun u9_ => cx13_ (by (rw [v53_, f215_]; exact of_decide_eq_true u9_))
          refine sm_T_go 4 (c1 := (88, [some (.inr (.inr (some (13, 0)))), some (.inl n_), some (.inl c_), some (.inl cu_), some (.inl sz_), some (.inl o_), some (.inl tu_), some (.inl vx11_)], [.inl cu_, .inr (.inr (some (215, 0))), .inl vx11_], S_)) rfl ?_
          refine sm_T_iald (n := 64) rfl rfl (by omega) (by omega) ?_
          refine sm_T_go 1 (c1 := (92, [some (.inr (.inr (some (13, 0)))), some (.inl n_), some (.inl c_), some (.inl cu_), some (.inl sz_), some (.inl o_), some (.inl tu_), some (.inl vx11_)], [.inl 255, .inl (S_.2.2.1 215 0 cu_.toNat), .inl vx11_], S_)) rfl ?_
          refine sm_T_bin (w := (i_xor (S_.2.2.1 215 0 cu_.toNat) 255)) rfl rfl ?_ -- pc_ 92
          have bx14_ := i_xor_n (S_.2.2.1 215 0 cu_.toNat) 255
          refine sm_T_br (a := 1) (z := 15) rfl (fun cx15_ => ?_) (fun cx15_ => ?_)
          · have cx15_ : vx11_ ≠ (i_xor (S_.2.2.1 215 0 cu_.toNat) 255) := of_decide_eq_true cx15_
            have n93_ : ¬ ((fun v_ => decide (vwt (S0_.2.2.1 186 0 (12 * S0_.1 13 0 106 + c_).toNat) dl_.length v_ 8 = tbr 1 (S0_.2.2.1 215 0 cu_.toNat))) (o_.toNat * 2 ^ dl_.length + tu_.toNat) = true) := fun u9_ => cx15_ (by (rw [v53_]; first | (rw [y215_, f215_]; exact of_decide_eq_true u9_) | (rw [f215_]; exact of_decide_eq_true u9_)))
            refine sm_T_inc (a := 6) (z := 1) (v := tu_) (w := tu_ + 1) rfl rfl (by omega) (by omega) (by omega) ?_ -- pc_ 108
            refine sm_T_go 1 (c1 := (24, [some (.inr (.inr (some (13, 0)))), some (.inl n_), some (.inl c_), some (.inl cu_), some (.inl sz_), some (.inl o_), some (.inl (tu_ + 1)), some (.inl vx11_)], [], S_)) rfl ?_
            refine sm_T_wk [some (.inr (.inr (some (13, 0)))), some (.inl n_), some (.inl c_), some (.inl cu_), some (.inl sz_), some (.inl o_), some (.inl (tu_ + 1)), none] (by exact ⟨rfl, rfl, rfl, rfl, rfl, rfl, rfl, trivial⟩) ?_
            refine ih_.2 o_ (tu_ + 1) S_ hI_ hF_ ⟨?_, ?_, ?_, ?_, ?_, ?_, trivial⟩ ?_
            · omega
            · first | exact p105_.1 | exact p78_.1 | exact k0_
            · first | exact p105_.2.1 | exact p78_.2.1 | exact k1_
            · first | exact wf2_tr (wf2_tr k2_ p78_.2.2) p105_.2.2 | exact wf2_tr k2_ p105_.2.2 | exact wf2_tr k2_ p78_.2.2 | exact k2_
            · rw [show (tu_ + 1).toNat = tu_.toNat + 1 by omega, ← Nat.add_assoc, cfo_s]
              first | (have y8_ := r78_; rw [wvs_h h66_]; first | (have y7_ := r105_; exact p105x _ r78_) | exact r78_) | (rw [wvs_n n66_]; first | (have y7_ := r105_; exact p105x _ hr0_) | exact hr0_)
            · rw [show (tu_ + 1).toNat = tu_.toNat + 1 by omega, ← Nat.add_assoc, cfo_s]
              first | (have y7_ := r105_; rw [wvs_h h93_]; exact r105_) | (rw [wvs_n n93_]; first | (have y8_ := r78_; exact p78x _ hr1_) | exact hr1_)
            · omega
          · have cx15_ : ¬ (vx11_ ≠ (i_xor (S_.2.2.1 215 0 cu_.toNat) 255)) := of_decide_eq_false cx15_
            have h93_ : (fun v_ => decide (vwt (S0_.2.2.1 186 0 (12 * S0_.1 13 0 106 + c_).toNat) dl_.length v_ 8 = tbr 1 (S0_.2.2.1 215 0 cu_.toNat))) (o_.toNat * 2 ^ dl_.length + tu_.toNat) = true := decide_eq_true (show vwt _ _ _ _ = i_xor (S0_.2.2.1 215 0 cu_.toNat) 255 by (rw [← v53_]; first | (rw [← f215_, ← y215_]; omega) | (rw [← f215_]; omega)))
            refine sm_T_go 7 (c1 := (105, [some (.inr (.inr (some (13, 0)))), some (.inl n_), some (.inl c_), some (.inl cu_), some (.inl sz_), some (.inl o_), some (.inl tu_), some (.inl vx11_)], [.inl tu_, .inl o_, .inl cu_, .inl c_, .inl 1, .inl n_, .inr (.inr (some (13, 0)))], S_)) rfl ?_
            refine sm_T_cal (d1 := 2) (Q1 := vq_406n n_ 1 c_ cu_ o_ tu_ F_ dl_ (o_.toNat * 2 ^ dl_.length + tu_.toNat) (cfo (wvs adr (pcq F_ S0_) (fun v_ => decide (vwt (S0_.2.2.1 186 0 (12 * S0_.1 13 0 106 + c_).toNat) dl_.length v_ 8 = tbr 1 (S0_.2.2.1 215 0 cu_.toNat))) (S0_.2.2.1 187 0 (12 * S0_.1 13 0 106 + c_).toNat) c_.toNat dl_ dl_.length) (o_.toNat * 2 ^ dl_.length + tu_.toNat) b1_) S_) rfl rfl (by decide) (vc_406n n_ 1 c_ cu_ o_ tu_ F_ dl_ (o_.toNat * 2 ^ dl_.length + tu_.toNat) (cfo (wvs adr (pcq F_ S0_) (fun v_ => decide (vwt (S0_.2.2.1 186 0 (12 * S0_.1 13 0 106 + c_).toNat) dl_.length v_ 8 = tbr 1 (S0_.2.2.1 215 0 cu_.toNat))) (S0_.2.2.1 187 0 (12 * S0_.1 13 0 106 + c_).toNat) c_.toNat dl_ dl_.length) (o_.toNat * 2 ^ dl_.length + tu_.toNat) b1_) S_ hI_ (by first | exact y160_ | exact f160_) (by omega) (by omega) (by first | (rw [y202_, f202_]; exact yct_) | (rw [f202_]; exact ct9_)) (by first | (rw [y204_, y185_, y106_, f204_, f185_, g106_]; exact hsz_) | (rw [f204_, f185_, g106_]; exact hsz_)) (by first | exact p78_.1 | exact k0_) (by first | exact p78_.2.1 | exact k1_) (by omega) (by (first | exact ⟨lz9_, by (rw [y204_, f204_]; exact hdl_.2)⟩ | exact ⟨lz9_, by (rw [f204_]; exact hdl_.2)⟩)) (by (intro k9_ x9_ u9_; first | (rw [show S_.2.2.1 205 0 = S_.2.2.1 205 0 from y205_, f205_]; exact hcv_ k9_ x9_ u9_) | (rw [f205_]; exact hcv_ k9_ x9_ u9_))) (by exact ⟨vv_w (by omega) tz9_ (by omega), by (rw [(vv_d (by omega) tz9_).1]; omega), by (rw [(vv_d (by omega) tz9_).2]; omega)⟩) (by first | exact p78x _ hr1_ | exact hr1_)) (fun u_ Sx16_ px19_ => ?_)
            obtain ⟨rfl, hIx17_, hFx18_, px19_⟩ := px19_
            have hFx20_ : ai_fr (sx_W vw_408n) S0_ Sx16_ := ai_fr_tr hF_ (fr_le hFx18_ rfl)
            have ex21_ : Sx16_.1 13 0 106 = S_.1 13 0 106 := hFx18_.1 13 0 106 rfl
            have p105_ := (px19_).1
            have r105_ := (px19_).2.2
            have w105_ := (px19_).2.1
            have xp105_ : pcq F_ S_ = pcq F_ S0_ := (cst_fr (F_ := F_) hFx18_).symm.trans (cst_fr (F_ := F_) hFx20_)
            have xa105_ := (fr_arr (t := 187) (i := 0) hFx18_ rfl).symm.trans (fr_arr (t := 187) (i := 0) hFx20_ rfl)
            have xl105_ := (hFx18_.1 13 0 106 rfl).symm.trans (hFx20_.1 13 0 106 rfl)
            rw [xp105_, xa105_, xl105_] at r105_
            skip
            have p105x : ∀ b9_ : Int × Int × Int × (Nat → Int), wrr S_ (2 * n_).toNat b9_ → wrr Sx16_ (2 * n_).toNat b9_ := fun b9_ h9_ => wrr_f h9_ w105_ (by omega) (fr_arr hFx18_ rfl) (hFx18_.1 13 0 106 rfl) (fun k_ => by (have z9_ := ((hIx17_).2 185 0 k_).2; rw [fr_arr (t := 185) (i := 0) hFx18_ rfl] at z9_; exact z9_))
            refine sm_T_inc (a := 6) (z := 1) (v := tu_) (w := tu_ + 1) rfl rfl (by omega) (by omega) (by omega) ?_ -- pc_ 108
            refine sm_T_go 1 (c1 := (24, [some (.inr (.inr (some (13, 0)))), some (.inl n_), some (.inl c_), some (.inl cu_), some (.inl sz_), some (.inl o_), some (.inl (tu_ + 1)), some (.inl vx11_)], [], Sx16_)) rfl ?_
            refine sm_T_wk [some (.inr (.inr (some (13, 0)))), some (.inl n_), some (.inl c_), some (.inl cu_), some (.inl sz_), some (.inl o_), some (.inl (tu_ + 1)), none] (by exact ⟨rfl, rfl, rfl, rfl, rfl, rfl, rfl, trivial⟩) ?_
            refine ih_.2 o_ (tu_ + 1) Sx16_ hIx17_ hFx20_ ⟨?_, ?_, ?_, ?_, ?_, ?_, trivial⟩ ?_
            · omega
            · first | exact p105_.1 | exact p78_.1 | exact k0_
            · first | exact p105_.2.1 | exact p78_.2.1 | exact k1_
            · first | exact wf2_tr (wf2_tr k2_ p78_.2.2) p105_.2.2 | exact wf2_tr k2_ p105_.2.2 | exact wf2_tr k2_ p78_.2.2 | exact k2_
            · rw [show (tu_ + 1).toNat = tu_.toNat + 1 by omega, ← Nat.add_assoc, cfo_s]
              first | (have y8_ := r78_; rw [wvs_h h66_]; first | (have y7_ := r105_; exact p105x _ r78_) | exact r78_) | (rw [wvs_n n66_]; first | (have y7_ := r105_; exact p105x _ hr0_) | exact hr0_)
            · rw [show (tu_ + 1).toNat = tu_.toNat + 1 by omega, ← Nat.add_assoc, cfo_s]
              first | (have y7_ := r105_; rw [wvs_h h93_]; exact r105_) | (rw [wvs_n n93_]; first | (have y8_ := r78_; exact p78x _ hr1_) | exact hr1_)
            · omega
        · have cx13_ : ¬ (vx11_ ≠ (S_.2.2.1 215 0 cu_.toNat)) := of_decide_eq_false cx13_
          have h66_ : (fun v_ => decide (vwt (S0_.2.2.1 186 0 (12 * S0_.1 13 0 106 + c_).toNat) dl_.length v_ 8 = tbr 0 (S0_.2.2.1 215 0 cu_.toNat))) (o_.toNat * 2 ^ dl_.length + tu_.toNat) = true := decide_eq_true (show vwt _ _ _ _ = S0_.2.2.1 215 0 cu_.toNat by (rw [← v53_, ← f215_]; omega))
          refine sm_T_go 7 (c1 := (78, [some (.inr (.inr (some (13, 0)))), some (.inl n_), some (.inl c_), some (.inl cu_), some (.inl sz_), some (.inl o_), some (.inl tu_), some (.inl vx11_)], [.inl tu_, .inl o_, .inl cu_, .inl c_, .inl 0, .inl n_, .inr (.inr (some (13, 0)))], S_)) rfl ?_
          refine sm_T_cal (d1 := 2) (Q1 := vq_406n n_ 0 c_ cu_ o_ tu_ F_ dl_ (o_.toNat * 2 ^ dl_.length + tu_.toNat) (cfo (wvs adr (pcq F_ S0_) (fun v_ => decide (vwt (S0_.2.2.1 186 0 (12 * S0_.1 13 0 106 + c_).toNat) dl_.length v_ 8 = tbr 0 (S0_.2.2.1 215 0 cu_.toNat))) (S0_.2.2.1 187 0 (12 * S0_.1 13 0 106 + c_).toNat) c_.toNat dl_ dl_.length) (o_.toNat * 2 ^ dl_.length + tu_.toNat) b0_) S_) rfl rfl (by decide) (vc_406n n_ 0 c_ cu_ o_ tu_ F_ dl_ (o_.toNat * 2 ^ dl_.length + tu_.toNat) (cfo (wvs adr (pcq F_ S0_) (fun v_ => decide (vwt (S0_.2.2.1 186 0 (12 * S0_.1 13 0 106 + c_).toNat) dl_.length v_ 8 = tbr 0 (S0_.2.2.1 215 0 cu_.toNat))) (S0_.2.2.1 187 0 (12 * S0_.1 13 0 106 + c_).toNat) c_.toNat dl_ dl_.length) (o_.toNat * 2 ^ dl_.length + tu_.toNat) b0_) S_ hI_ (by exact f160_) (by omega) (by omega) (by (rw [f202_]; exact ct9_)) (by (rw [f204_, f185_, g106_]; exact hsz_)) (by exact k0_) (by exact k1_) (by omega) (by (first | exact ⟨lz9_, by (rw [y204_, f204_]; exact hdl_.2)⟩ | exact ⟨lz9_, by (rw [f204_]; exact hdl_.2)⟩)) (by (intro k9_ x9_ u9_; first | (rw [show S_.2.2.1 205 0 = S_.2.2.1 205 0 from y205_, f205_]; exact hcv_ k9_ x9_ u9_) | (rw [f205_]; exact hcv_ k9_ x9_ u9_))) (by exact ⟨vv_w (by omega) tz9_ (by omega), by (rw [(vv_d (by omega) tz9_).1]; omega), by (rw [(vv_d (by omega) tz9_).2]; omega)⟩) (by (rw [show 2 * n_ + 0 = 2 * n_ by omega]; exact hr0_))) (fun u_ Sx22_ px25_ => ?_)
          obtain ⟨rfl, hIx23_, hFx24_, px25_⟩ := px25_
          have hFx26_ : ai_fr (sx_W vw_408n) S0_ Sx22_ := ai_fr_tr hF_ (fr_le hFx24_ rfl)
          have ex27_ : Sx22_.1 13 0 106 = S_.1 13 0 106 := hFx24_.1 13 0 106 rfl
          have p78_ := (px25_).1
          have y215_ : Sx22_.2.2.1 215 0 = S_.2.2.1 215 0 := fr_arr hFx24_ rfl
          have y205_ : Sx22_.2.2.1 205 0 = S_.2.2.1 205 0 := fr_arr hFx24_ rfl
          have r78_ := (px25_).2.2
          have w78_ := (px25_).2.1
          have xp78_ : pcq F_ S_ = pcq F_ S0_ := (cst_fr (F_ := F_) hFx24_).symm.trans (cst_fr (F_ := F_) hFx26_)
          have xa78_ := (fr_arr (t := 187) (i := 0) hFx24_ rfl).symm.trans (fr_arr (t := 187) (i := 0) hFx26_ rfl)
          have xl78_ := (hFx24_.1 13 0 106 rfl).symm.trans (hFx26_.1 13 0 106 rfl)
          rw [xp78_, xa78_, xl78_] at r78_
          rw [show 2 * n_ + 0 = 2 * n_ by omega] at r78_ w78_
          have p78x : ∀ b9_ : Int × Int × Int × (Nat → Int), wrr S_ (2 * n_ + 1).toNat b9_ → wrr Sx22_ (2 * n_ + 1).toNat b9_ := fun b9_ h9_ => wrr_f h9_ w78_ (by omega) (fr_arr hFx24_ rfl) (hFx24_.1 13 0 106 rfl) (fun k_ => by (have z9_ := ((hIx23_).2 185 0 k_).2; rw [fr_arr (t := 185) (i := 0) hFx24_ rfl] at z9_; exact z9_))
          have y160_ : Sx22_.2.2.1 160 0 (Sx22_.1 13 0 105).toNat = F_ := by (rw [hFx24_.1 13 0 105 rfl, fr_arr (t := 160) (i := 0) hFx24_ rfl]; exact f160_)
          have y202_ : Sx22_.2.2.1 202 0 = S_.2.2.1 202 0 := fr_arr hFx24_ rfl
          have y204_ : Sx22_.2.2.1 204 0 = S_.2.2.1 204 0 := fr_arr hFx24_ rfl
          have y185_ : Sx22_.2.2.1 185 0 = S_.2.2.1 185 0 := fr_arr hFx24_ rfl
          have y106_ := hFx24_.1 13 0 106 rfl
          have y114_ := hFx24_.1 13 0 114 rfl
          have yct_ : ctp (cnd9 n_ (S0_.2.2.1 202 0)) Sx22_ := ctp_fr ct9_ hFx24_
          refine sm_T_go 4 (c1 := (88, [some (.inr (.inr (some (13, 0)))), some (.inl n_), some (.inl c_), some (.inl cu_), some (.inl sz_), some (.inl o_), some (.inl tu_), some (.inl vx11_)], [.inl cu_, .inr (.inr (some (215, 0))), .inl vx11_], Sx22_)) rfl ?_
          refine sm_T_iald (n := 64) rfl rfl (by omega) (by omega) ?_
          have bx28_ : 0 ≤ Sx22_.2.2.1 215 0 cu_.toNat ∧ Sx22_.2.2.1 215 0 cu_.toNat ≤ 255 := hIx23_.2 215 0 _
          refine sm_T_go 1 (c1 := (92, [some (.inr (.inr (some (13, 0)))), some (.inl n_), some (.inl c_), some (.inl cu_), some (.inl sz_), some (.inl o_), some (.inl tu_), some (.inl vx11_)], [.inl 255, .inl (Sx22_.2.2.1 215 0 cu_.toNat), .inl vx11_], Sx22_)) rfl ?_
          refine sm_T_bin (w := (i_xor (Sx22_.2.2.1 215 0 cu_.toNat) 255)) rfl rfl ?_ -- pc_ 92
          have bx29_ := i_xor_n (Sx22_.2.2.1 215 0 cu_.toNat) 255
          refine sm_T_br (a := 1) (z := 15) rfl (fun cx30_ => ?_) (fun cx30_ => ?_)
          · have cx30_ : vx11_ ≠ (i_xor (Sx22_.2.2.1 215 0 cu_.toNat) 255) := of_decide_eq_true cx30_
            have n93_ : ¬ ((fun v_ => decide (vwt (S0_.2.2.1 186 0 (12 * S0_.1 13 0 106 + c_).toNat) dl_.length v_ 8 = tbr 1 (S0_.2.2.1 215 0 cu_.toNat))) (o_.toNat * 2 ^ dl_.length + tu_.toNat) = true) := fun u9_ => cx30_ (by (rw [v53_]; first | (rw [y215_, f215_]; exact of_decide_eq_true u9_) | (rw [f215_]; exact of_decide_eq_true u9_)))
            refine sm_T_inc (a := 6) (z := 1) (v := tu_) (w := tu_ + 1) rfl rfl (by omega) (by omega) (by omega) ?_ -- pc_ 108
            refine sm_T_go 1 (c1 := (24, [some (.inr (.inr (some (13, 0)))), some (.inl n_), some (.inl c_), some (.inl cu_), some (.inl sz_), some (.inl o_), some (.inl (tu_ + 1)), some (.inl vx11_)], [], Sx22_)) rfl ?_
            refine sm_T_wk [some (.inr (.inr (some (13, 0)))), some (.inl n_), some (.inl c_), some (.inl cu_), some (.inl sz_), some (.inl o_), some (.inl (tu_ + 1)), none] (by exact ⟨rfl, rfl, rfl, rfl, rfl, rfl, rfl, trivial⟩) ?_
            refine ih_.2 o_ (tu_ + 1) Sx22_ hIx23_ hFx26_ ⟨?_, ?_, ?_, ?_, ?_, ?_, trivial⟩ ?_
            · omega
            · first | exact p105_.1 | exact p78_.1 | exact k0_
            · first | exact p105_.2.1 | exact p78_.2.1 | exact k1_
            · first | exact wf2_tr (wf2_tr k2_ p78_.2.2) p105_.2.2 | exact wf2_tr k2_ p105_.2.2 | exact wf2_tr k2_ p78_.2.2 | exact k2_
            · rw [show (tu_ + 1).toNat = tu_.toNat + 1 by omega, ← Nat.add_assoc, cfo_s]
              first | (have y8_ := r78_; rw [wvs_h h66_]; first | (have y7_ := r105_; exact p105x _ r78_) | exact r78_) | (rw [wvs_n n66_]; first | (have y7_ := r105_; exact p105x _ hr0_) | exact hr0_)
            · rw [show (tu_ + 1).toNat = tu_.toNat + 1 by omega, ← Nat.add_assoc, cfo_s]
              first | (have y7_ := r105_; rw [wvs_h h93_]; exact r105_) | (rw [wvs_n n93_]; first | (have y8_ := r78_; exact p78x _ hr1_) | exact hr1_)
            · omega
          · have cx30_ : ¬ (vx11_ ≠ (i_xor (Sx22_.2.2.1 215 0 cu_.toNat) 255)) := of_decide_eq_false cx30_
            have h93_ : (fun v_ => decide (vwt (S0_.2.2.1 186 0 (12 * S0_.1 13 0 106 + c_).toNat) dl_.length v_ 8 = tbr 1 (S0_.2.2.1 215 0 cu_.toNat))) (o_.toNat * 2 ^ dl_.length + tu_.toNat) = true := decide_eq_true (show vwt _ _ _ _ = i_xor (S0_.2.2.1 215 0 cu_.toNat) 255 by (rw [← v53_]; first | (rw [← f215_, ← y215_]; omega) | (rw [← f215_]; omega)))
            refine sm_T_go 7 (c1 := (105, [some (.inr (.inr (some (13, 0)))), some (.inl n_), some (.inl c_), some (.inl cu_), some (.inl sz_), some (.inl o_), some (.inl tu_), some (.inl vx11_)], [.inl tu_, .inl o_, .inl cu_, .inl c_, .inl 1, .inl n_, .inr (.inr (some (13, 0)))], Sx22_)) rfl ?_
            refine sm_T_cal (d1 := 2) (Q1 := vq_406n n_ 1 c_ cu_ o_ tu_ F_ dl_ (o_.toNat * 2 ^ dl_.length + tu_.toNat) (cfo (wvs adr (pcq F_ S0_) (fun v_ => decide (vwt (S0_.2.2.1 186 0 (12 * S0_.1 13 0 106 + c_).toNat) dl_.length v_ 8 = tbr 1 (S0_.2.2.1 215 0 cu_.toNat))) (S0_.2.2.1 187 0 (12 * S0_.1 13 0 106 + c_).toNat) c_.toNat dl_ dl_.length) (o_.toNat * 2 ^ dl_.length + tu_.toNat) b1_) Sx22_) rfl rfl (by decide) (vc_406n n_ 1 c_ cu_ o_ tu_ F_ dl_ (o_.toNat * 2 ^ dl_.length + tu_.toNat) (cfo (wvs adr (pcq F_ S0_) (fun v_ => decide (vwt (S0_.2.2.1 186 0 (12 * S0_.1 13 0 106 + c_).toNat) dl_.length v_ 8 = tbr 1 (S0_.2.2.1 215 0 cu_.toNat))) (S0_.2.2.1 187 0 (12 * S0_.1 13 0 106 + c_).toNat) c_.toNat dl_ dl_.length) (o_.toNat * 2 ^ dl_.length + tu_.toNat) b1_) Sx22_ hIx23_ (by first | exact y160_ | exact f160_) (by omega) (by omega) (by first | (rw [y202_, f202_]; exact yct_) | (rw [f202_]; exact ct9_)) (by first | (rw [y204_, y185_, y106_, f204_, f185_, g106_]; exact hsz_) | (rw [f204_, f185_, g106_]; exact hsz_)) (by first | exact p78_.1 | exact k0_) (by first | exact p78_.2.1 | exact k1_) (by omega) (by (first | exact ⟨lz9_, by (rw [y204_, f204_]; exact hdl_.2)⟩ | exact ⟨lz9_, by (rw [f204_]; exact hdl_.2)⟩)) (by (intro k9_ x9_ u9_; first | (rw [show Sx22_.2.2.1 205 0 = S_.2.2.1 205 0 from y205_, f205_]; exact hcv_ k9_ x9_ u9_) | (rw [f205_]; exact hcv_ k9_ x9_ u9_))) (by exact ⟨vv_w (by omega) tz9_ (by omega), by (rw [(vv_d (by omega) tz9_).1]; omega), by (rw [(vv_d (by omega) tz9_).2]; omega)⟩) (by first | exact p78x _ hr1_ | exact hr1_)) (fun u_ Sx31_ px34_ => ?_)
            obtain ⟨rfl, hIx32_, hFx33_, px34_⟩ := px34_
            have hFx35_ : ai_fr (sx_W vw_408n) S0_ Sx31_ := ai_fr_tr hFx26_ (fr_le hFx33_ rfl)
            have p105_ := (px34_).1
            have r105_ := (px34_).2.2
            have w105_ := (px34_).2.1
            have xp105_ : pcq F_ Sx22_ = pcq F_ S0_ := (cst_fr (F_ := F_) hFx33_).symm.trans (cst_fr (F_ := F_) hFx35_)
            have xa105_ := (fr_arr (t := 187) (i := 0) hFx33_ rfl).symm.trans (fr_arr (t := 187) (i := 0) hFx35_ rfl)
            have xl105_ := (hFx33_.1 13 0 106 rfl).symm.trans (hFx35_.1 13 0 106 rfl)
            rw [xp105_, xa105_, xl105_] at r105_
            skip
            have p105x : ∀ b9_ : Int × Int × Int × (Nat → Int), wrr Sx22_ (2 * n_).toNat b9_ → wrr Sx31_ (2 * n_).toNat b9_ := fun b9_ h9_ => wrr_f h9_ w105_ (by omega) (fr_arr hFx33_ rfl) (hFx33_.1 13 0 106 rfl) (fun k_ => by (have z9_ := ((hIx32_).2 185 0 k_).2; rw [fr_arr (t := 185) (i := 0) hFx33_ rfl] at z9_; exact z9_))
            refine sm_T_inc (a := 6) (z := 1) (v := tu_) (w := tu_ + 1) rfl rfl (by omega) (by omega) (by omega) ?_ -- pc_ 108
            refine sm_T_go 1 (c1 := (24, [some (.inr (.inr (some (13, 0)))), some (.inl n_), some (.inl c_), some (.inl cu_), some (.inl sz_), some (.inl o_), some (.inl (tu_ + 1)), some (.inl vx11_)], [], Sx31_)) rfl ?_
            refine sm_T_wk [some (.inr (.inr (some (13, 0)))), some (.inl n_), some (.inl c_), some (.inl cu_), some (.inl sz_), some (.inl o_), some (.inl (tu_ + 1)), none] (by exact ⟨rfl, rfl, rfl, rfl, rfl, rfl, rfl, trivial⟩) ?_
            refine ih_.2 o_ (tu_ + 1) Sx31_ hIx32_ hFx35_ ⟨?_, ?_, ?_, ?_, ?_, ?_, trivial⟩ ?_
            · omega
            · first | exact p105_.1 | exact p78_.1 | exact k0_
            · first | exact p105_.2.1 | exact p78_.2.1 | exact k1_
            · first | exact wf2_tr (wf2_tr k2_ p78_.2.2) p105_.2.2 | exact wf2_tr k2_ p105_.2.2 | exact wf2_tr k2_ p78_.2.2 | exact k2_
            · rw [show (tu_ + 1).toNat = tu_.toNat + 1 by omega, ← Nat.add_assoc, cfo_s]
              first | (have y8_ := r78_; rw [wvs_h h66_]; first | (have y7_ := r105_; exact p105x _ r78_) | exact r78_) | (rw [wvs_n n66_]; first | (have y7_ := r105_; exact p105x _ hr0_) | exact hr0_)
            · rw [show (tu_ + 1).toNat = tu_.toNat + 1 by omega, ← Nat.add_assoc, cfo_s]
              first | (have y7_ := r105_; rw [wvs_h h93_]; exact r105_) | (rw [wvs_n n93_]; first | (have y8_ := r78_; exact p78x _ hr1_) | exact hr1_)
            · omega
set_option maxHeartbeats 4000000 in
set_option maxRecDepth 20000 in
theorem vc_408n {sc_ : Nat × (Nat → Int)} (n_ : Int) (c_ : Int) (cu_ : Int) (sz_ : Int) (F_ : Int) (dl_ : List Nat) (b0_ : Int × Int × Int × (Nat → Int)) (b1_ : Int × Int × Int × (Nat → Int)) (S0_ : sm_S) (hI_ : gi S0_) (hdl_ : (2 ≤ dl_.length ∧ dl_.length ≤ 3) ∧ S0_.2.2.1 204 0 cu_.toNat = (dl_.length : Int)) (hcv_ : ∀ k_ x_ : Nat, dl_[k_]? = some x_ → S0_.2.2.1 205 0 (3 * cu_.toNat + k_) = (x_ : Int)) (hszl : sz_ = (dl_.length : Int)) (hb0_ : wrr S0_ (2 * n_).toNat b0_) (hb1_ : wrr S0_ (2 * n_ + 1).toNat b1_) (hf_ : S0_.2.2.1 160 0 (S0_.1 13 0 105).toNat = F_) (hn_ : 1 ≤ F_ ∧ F_ ≤ n_ ∧ n_ ≤ 1012) (hh_ : 0 ≤ c_ ∧ c_ ≤ 11 ∧ 0 ≤ cu_ ∧ cu_ < S0_.1 13 0 114 ∧ 1 ≤ sz_ ∧ sz_ ≤ 3) (hct_ : ctp (cnd9 n_ (S0_.2.2.1 202 0)) S0_) (hsz_ : S0_.2.2.1 204 0 cu_.toNat = S0_.2.2.1 185 0 (12 * S0_.1 13 0 106 + c_).toNat) (hw0_ : wyc F_ n_ S0_ (2 * n_)) (hw1_ : wyc F_ n_ S0_ (2 * n_ + 1)) : sm_T (mt_P sc_) 3 408 (0, [some (.inr (.inr (some (13, 0)))), some (.inl n_), some (.inl c_), some (.inl cu_), some (.inl sz_), none, none, none], [], S0_) (fun ro9_ => ∃ u_ S1_, ro9_ = (.inl u_, S1_, 0) ∧ vq_408n n_ c_ cu_ sz_ F_ dl_ b0_ b1_ S0_ u_ S1_) := by
  have hF_ : ai_fr (sx_W vw_408n) S0_ S0_ := ai_fr_rf
  refine sm_T_go 2 (c1 := (3, [some (.inr (.inr (some (13, 0)))), some (.inl n_), some (.inl c_), some (.inl cu_), some (.inl sz_), some (.inl 0), none, none], [], S0_)) rfl ?_
  refine (vl_408n n_ c_ cu_ sz_ F_ dl_ b0_ b1_ S0_ hdl_ hcv_ hszl hb0_ hb1_ hf_ hn_ hh_ hct_ hsz_ hw0_ hw1_ _).1 0 S0_ hI_ hF_ ⟨?_, ?_, ?_, ?_, ?_, ?_, trivial⟩ (Nat.lt_succ_self _)
  · omega
  · exact hw0_
  · exact hw1_
  · exact wf2_rf
  · (rw [show (0 : Int).toNat * 2 ^ dl_.length = 0 from Nat.zero_mul _]; exact hb0_)
  · (rw [show (0 : Int).toNat * 2 ^ dl_.length = 0 from Nat.zero_mul _]; exact hb1_)
end
/-! 99.ztZW -/
section
/-! all ways of a node: the reference; written by wip/p55/gen/vg -/

/-! all_ ways of_ a_ node, the_ reference -/
def tbq (cl_ ch_ : Nat → Nat) (tl_ tu_ : Nat → Int) (T_ : Nat → Prop) (n_ : Nat) (c_ : List Nat) (v_ : Int) : Prop := ∃ (B_ : Nat → Prop) (t_ : Nat → Int), B_ n_ ∧ (∀ x_, B_ x_ → T_ x_) ∧ tvf cl_ ch_ tl_ tu_ c_ B_ t_ ∧ v_ = t_ n_ ∧ 0 ≤ v_ ∧ v_ ≤ 255
def hrf (fn_ : Nat → Int) (TB_ : Nat → Int) (Q_ : Nat → List Nat) (t_ cell i_ v_ : Nat) : Bool := decide (vwt (fn_ cell) (Q_ i_).length v_ 8 = tbr t_ (TB_ i_))
theorem crf_fr {w_ : sx_Wl} {n_ : Nat} {C_ : Nat → List Nat} {S_ S'_ : sm_S} (h_ : crf n_ C_ S_) (g_ : ai_fr (sx_W w_) S_ S'_) (a_ : (sx_W w_).1 13 114 = false := by rfl) (b_ : (sx_W w_).2.1 204 = false := by rfl) (d_ : (sx_W w_).2.1 205 = false := by rfl) : crf n_ C_ S'_ := by
  unfold crf
  rw [g_.1 13 0 114 a_, fr_arr (t := 204) g_ b_, fr_arr (t := 205) g_ d_]
  exact h_
def rwi (L_ : List (List Nat)) (P_ : List Nat → Int → Prop) (m_ : Nat) (S_ : sm_S) (C_ : Nat → List Nat) (TB_ : Nat → Int) (h_ : Int) : Prop := (L_.length ≤ m_ / 3 ∧ crf L_.length C_ S_) ∧ (prm L_.length C_ (fun i_ => L_.getD i_ []) ∧ sor L_.length C_) ∧ ∀ i_ : Nat, (i_ : Int) < h_ → i_ < L_.length → S_.2.2.1 215 0 i_ = TB_ i_ ∧ P_ (C_ i_) (TB_ i_)
theorem rwi_fr {w_ : sx_Wl} {L_ : List (List Nat)} {P_ : List Nat → Int → Prop} {m_ : Nat} {S_ S'_ : sm_S} {C_ : Nat → List Nat} {TB_ : Nat → Int} {h_ : Int} (q_ : rwi L_ P_ m_ S_ C_ TB_ h_) (g_ : ai_fr (sx_W w_) S_ S'_) (a_ : (sx_W w_).1 13 114 = false := by rfl) (b_ : (sx_W w_).2.1 204 = false := by rfl) (d_ : (sx_W w_).2.1 205 = false := by rfl) (c_ : (sx_W w_).2.1 215 = false := by rfl) : rwi L_ P_ m_ S'_ C_ TB_ h_ := by
  refine ⟨⟨q_.1.1, crf_fr q_.1.2 g_ a_ b_ d_⟩, q_.2.1, ?_⟩
  rw [fr_arr (t := 215) g_ c_]
  exact q_.2.2
theorem rwi_w {L_ : List (List Nat)} {P_ : List Nat → Int → Prop} {m_ i_ : Nat} {S_ : sm_S} {C_ : Nat → List Nat} {TB_ : Nat → Int} {h_ v_ : Int} (q_ : rwi L_ P_ m_ S_ C_ TB_ h_) (hi_ : (i_ : Int) = h_) (hv_ : P_ (C_ i_) v_) : ∃ TB'_ : Nat → Int, rwi L_ P_ m_ (sm_aI S_ 215 0 i_ v_) C_ TB'_ (h_ + 1) := by
  refine ⟨fun j_ => if j_ = i_ then v_ else TB_ j_, ⟨⟨q_.1.1, ?_⟩, q_.2.1, fun j_ hj_ hl_ => ?_⟩⟩
  · exact crf_fr (w_ := ([], [215], [])) q_.1.2 (ai_fr_aI rfl)
  · rw [rd_eq]
    show (if j_ = i_ then v_ else S_.2.2.1 215 0 j_) = (if j_ = i_ then v_ else TB_ j_) ∧ P_ (C_ j_) (if j_ = i_ then v_ else TB_ j_)
    by_cases e_ : j_ = i_
    · rw [if_pos e_, if_pos e_, e_]
      exact ⟨rfl, hv_⟩
    · rw [if_neg e_, if_neg e_]
      exact q_.2.2 j_ (by omega) hl_
/-- a_ listed cut_ is_ one_ of_ them -/
theorem prm_m {L_ : List (List Nat)} {C_ : Nat → List Nat} {i_ : Nat} (h_ : prm L_.length C_ (fun i_ => L_.getD i_ [])) (hi_ : i_ < L_.length) : C_ i_ ∈ L_ := by
  obtain ⟨j_, hj_, e_⟩ := h_.1 i_ hi_
  rw [e_]
  exact gd_m hj_
def nex (S_ : sm_S) (w_ o_ : Int) : Prop := (S_.2.2.1 211 0 w_.toNat = 1 ∧ S_.2.2.1 206 0 o_.toNat + S_.1 13 0 108 < S_.2.2.1 206 0 w_.toNat ∧ S_.2.2.1 210 0 w_.toNat = S_.2.2.1 206 0 o_.toNat + S_.1 13 0 108) ∨ (S_.2.2.1 211 0 w_.toNat = 0 ∧ ¬ (S_.2.2.1 206 0 o_.toNat + S_.1 13 0 108 < S_.2.2.1 206 0 w_.toNat) ∧ S_.2.2.1 210 0 w_.toNat = S_.2.2.1 206 0 w_.toNat)
def fnr (S_ : sm_S) (l_ : Nat) (b_ o_ : Int × Int × Int × (Nat → Int)) : Prop := ((S_.2.2.1 211 0 l_ = 1 ∧ o_.1 + S_.1 13 0 108 < b_.1 ∧ S_.2.2.1 210 0 l_ = o_.1 + S_.1 13 0 108) ∨ (S_.2.2.1 211 0 l_ = 0 ∧ ¬ (o_.1 + S_.1 13 0 108 < b_.1) ∧ S_.2.2.1 210 0 l_ = b_.1)) ∧ wrr S_ l_ b_
theorem fnr_of {S_ : sm_S} {w_ o_ : Int} {b_ d_ : Int × Int × Int × (Nat → Int)} (h_ : nex S_ w_ o_) (hb_ : wrr S_ w_.toNat b_) (hd_ : wrr S_ o_.toNat d_) : fnr S_ w_.toNat b_ d_ := by
  refine ⟨?_, hb_⟩
  rw [← hb_.1, ← hd_.1]
  exact h_

/-! M_.findWays -/
def vw_407n : sx_Wl := ([(13, 114), (13, 123), (13, 127)], [204, 205, 206, 207, 208, 209, 210, 211, 212, 213, 214, 215], [])
def vq_407n (n_ : Int) (F_ : Int) (N_ : Int) (T_ : Nat → Prop) (S0_ : sm_S) (u_ : Option sm_V) (S1_ : sm_S) : Prop := u_ = none ∧ gi S1_ ∧ ai_fr (sx_W vw_407n) S0_ S1_ ∧ ((wok2 F_ n_ S1_ ∧ wf3 n_ S0_ S1_) ∧ (0 ≤ S1_.1 13 0 127 ∧ S1_.1 13 0 127 ≤ S0_.1 13 0 127 + 64 ∧ ∀ x_ : Nat, -(S1_.1 13 0 127) ≤ S1_.2.2.1 213 0 x_ ∧ S1_.2.2.1 213 0 x_ ≤ S1_.1 13 0 127) ∧ ∃ (m_ : Nat) (Q_ : Nat → List Nat) (TB_ : Nat → Int), (crn (fun x_ => decide (F_ ≤ (x_ : Int) ∧ S0_.2.2.1 203 0 x_ = 0)) (fun x_ => (S0_.2.2.1 199 0 x_ / 2).toNat) (fun x_ => (S0_.2.2.1 200 0 x_ / 2).toNat) n_.toNat m_).length ≤ m_ / 3 ∧ prm (crn (fun x_ => decide (F_ ≤ (x_ : Int) ∧ S0_.2.2.1 203 0 x_ = 0)) (fun x_ => (S0_.2.2.1 199 0 x_ / 2).toNat) (fun x_ => (S0_.2.2.1 200 0 x_ / 2).toNat) n_.toNat m_).length Q_ (fun i_ => (crn (fun x_ => decide (F_ ≤ (x_ : Int) ∧ S0_.2.2.1 203 0 x_ = 0)) (fun x_ => (S0_.2.2.1 199 0 x_ / 2).toNat) (fun x_ => (S0_.2.2.1 200 0 x_ / 2).toNat) n_.toNat m_).getD i_ []) ∧ sor (crn (fun x_ => decide (F_ ≤ (x_ : Int) ∧ S0_.2.2.1 203 0 x_ = 0)) (fun x_ => (S0_.2.2.1 199 0 x_ / 2).toNat) (fun x_ => (S0_.2.2.1 200 0 x_ / 2).toNat) n_.toNat m_).length Q_ ∧ (∀ i_, i_ < (crn (fun x_ => decide (F_ ≤ (x_ : Int) ∧ S0_.2.2.1 203 0 x_ = 0)) (fun x_ => (S0_.2.2.1 199 0 x_ / 2).toNat) (fun x_ => (S0_.2.2.1 200 0 x_ / 2).toNat) n_.toNat m_).length → ((2 ≤ (Q_ i_).length ∧ (Q_ i_).length ≤ 3) ∧ Q_ i_ ∈ crn (fun x_ => decide (F_ ≤ (x_ : Int) ∧ S0_.2.2.1 203 0 x_ = 0)) (fun x_ => (S0_.2.2.1 199 0 x_ / 2).toNat) (fun x_ => (S0_.2.2.1 200 0 x_ / 2).toNat) n_.toNat m_) ∧ (tbq (fun x_ => (S0_.2.2.1 199 0 x_ / 2).toNat) (fun x_ => (S0_.2.2.1 200 0 x_ / 2).toNat) (fun x_ => S0_.2.2.1 199 0 x_ % 2) (fun x_ => S0_.2.2.1 200 0 x_ % 2) T_ n_.toNat) (Q_ i_) (TB_ i_)) ∧ fnr S1_ (2 * n_).toNat (wbs adr (pcq F_ S0_) (hrf (fun cell => S0_.2.2.1 186 0 (12 * S0_.1 13 0 106 + ((cell : Nat) : Int)).toNat) TB_ Q_ 0) (fun cell => S0_.2.2.1 187 0 (12 * S0_.1 13 0 106 + ((cell : Nat) : Int)).toNat) (fun cell => (S0_.2.2.1 185 0 (12 * S0_.1 13 0 106 + ((cell : Nat) : Int)).toNat).toNat) Q_ (crn (fun x_ => decide (F_ ≤ (x_ : Int) ∧ S0_.2.2.1 203 0 x_ = 0)) (fun x_ => (S0_.2.2.1 199 0 x_ / 2).toNat) (fun x_ => (S0_.2.2.1 200 0 x_ / 2).toNat) n_.toNat m_).length (S0_.2.2.1 184 0 (S0_.1 13 0 106).toNat).toNat 1000000000) (wbs adr (pcq F_ S0_) (hrf (fun cell => S0_.2.2.1 186 0 (12 * S0_.1 13 0 106 + ((cell : Nat) : Int)).toNat) TB_ Q_ 1) (fun cell => S0_.2.2.1 187 0 (12 * S0_.1 13 0 106 + ((cell : Nat) : Int)).toNat) (fun cell => (S0_.2.2.1 185 0 (12 * S0_.1 13 0 106 + ((cell : Nat) : Int)).toNat).toNat) Q_ (crn (fun x_ => decide (F_ ≤ (x_ : Int) ∧ S0_.2.2.1 203 0 x_ = 0)) (fun x_ => (S0_.2.2.1 199 0 x_ / 2).toNat) (fun x_ => (S0_.2.2.1 200 0 x_ / 2).toNat) n_.toNat m_).length (S0_.2.2.1 184 0 (S0_.1 13 0 106).toNat).toNat 1000000000) ∧ fnr S1_ (2 * n_ + 1).toNat (wbs adr (pcq F_ S0_) (hrf (fun cell => S0_.2.2.1 186 0 (12 * S0_.1 13 0 106 + ((cell : Nat) : Int)).toNat) TB_ Q_ 1) (fun cell => S0_.2.2.1 187 0 (12 * S0_.1 13 0 106 + ((cell : Nat) : Int)).toNat) (fun cell => (S0_.2.2.1 185 0 (12 * S0_.1 13 0 106 + ((cell : Nat) : Int)).toNat).toNat) Q_ (crn (fun x_ => decide (F_ ≤ (x_ : Int) ∧ S0_.2.2.1 203 0 x_ = 0)) (fun x_ => (S0_.2.2.1 199 0 x_ / 2).toNat) (fun x_ => (S0_.2.2.1 200 0 x_ / 2).toNat) n_.toNat m_).length (S0_.2.2.1 184 0 (S0_.1 13 0 106).toNat).toNat 1000000000) (wbs adr (pcq F_ S0_) (hrf (fun cell => S0_.2.2.1 186 0 (12 * S0_.1 13 0 106 + ((cell : Nat) : Int)).toNat) TB_ Q_ 0) (fun cell => S0_.2.2.1 187 0 (12 * S0_.1 13 0 106 + ((cell : Nat) : Int)).toNat) (fun cell => (S0_.2.2.1 185 0 (12 * S0_.1 13 0 106 + ((cell : Nat) : Int)).toNat).toNat) Q_ (crn (fun x_ => decide (F_ ≤ (x_ : Int) ∧ S0_.2.2.1 203 0 x_ = 0)) (fun x_ => (S0_.2.2.1 199 0 x_ / 2).toNat) (fun x_ => (S0_.2.2.1 200 0 x_ / 2).toNat) n_.toNat m_).length (S0_.2.2.1 184 0 (S0_.1 13 0 106).toNat).toNat 1000000000))
set_option maxHeartbeats 4000000 in
set_option maxRecDepth 20000 in
theorem vl_407n {sc_ : Nat × (Nat → Int)} (n_ : Int) (F_ : Int) (N_ : Int) (T_ : Nat → Prop) (S0_ : sm_S) (hdf_ : ∀ x_ : Int, F_ ≤ x_ → x_ < N_ → S0_.2.2.1 202 0 x_.toNat = 1 → S0_.2.2.1 199 0 x_.toNat / 2 ≠ S0_.2.2.1 200 0 x_.toNat / 2) (hlm_ : ∀ m_ : Nat, (crn (fun x_ => decide (F_ ≤ (x_ : Int) ∧ S0_.2.2.1 203 0 x_ = 0)) (fun x_ => (S0_.2.2.1 199 0 x_ / 2).toNat) (fun x_ => (S0_.2.2.1 200 0 x_ / 2).toNat) n_.toNat m_).length ≤ 60) (ht_ : trh (fun x_ => decide (F_ ≤ (x_ : Int) ∧ S0_.2.2.1 203 0 x_ = 0)) (fun x_ => (S0_.2.2.1 199 0 x_ / 2).toNat) (fun x_ => (S0_.2.2.1 200 0 x_ / 2).toNat) n_.toNat T_) (hrd0_ : 0 ≤ S0_.1 13 0 127 ∧ S0_.1 13 0 127 ≤ 1999999000) (hmb0_ : ∀ x_ : Nat, -(S0_.1 13 0 127) ≤ S0_.2.2.1 213 0 x_ ∧ S0_.2.2.1 213 0 x_ ≤ S0_.1 13 0 127) (hf_ : S0_.2.2.1 160 0 (S0_.1 13 0 105).toNat = F_) (hn_ : 1 ≤ F_ ∧ F_ ≤ n_ ∧ n_ < N_ ∧ N_ ≤ 1013) (hw_ : S0_.2.2.1 202 0 n_.toNat = 1) (hl_ : lgn F_ N_ S0_) : ∀ nn_ : Nat, (∀ (u_ : Int) (S_ : sm_S), gi S_ → ai_fr (sx_W vw_407n) S0_ S_ → ((0 ≤ u_ ∧ u_ ≤ 64) ∧ (wyc F_ n_ S_ (2 * n_)) ∧ (wyc F_ n_ S_ (2 * n_ + 1)) ∧ (wf2 n_ S0_ S_) ∧ (ctp (cnd9 n_ (S0_.2.2.1 202 0)) S_) ∧ (S_.2.2.1 210 0 = S0_.2.2.1 210 0 ∧ S_.2.2.1 211 0 = S0_.2.2.1 211 0) ∧ (∃ (m_ : Nat) (C_ : Nat → List Nat) (TB_ : Nat → Int), rwi (crn (fun x_ => decide (F_ ≤ (x_ : Int) ∧ S0_.2.2.1 203 0 x_ = 0)) (fun x_ => (S0_.2.2.1 199 0 x_ / 2).toNat) (fun x_ => (S0_.2.2.1 200 0 x_ / 2).toNat) n_.toNat m_) (tbq (fun x_ => (S0_.2.2.1 199 0 x_ / 2).toNat) (fun x_ => (S0_.2.2.1 200 0 x_ / 2).toNat) (fun x_ => S0_.2.2.1 199 0 x_ % 2) (fun x_ => S0_.2.2.1 200 0 x_ % 2) T_ n_.toNat) m_ S_ C_ TB_ u_ ∧ wrr S_ (2 * n_).toNat ((1000000000, -1, 0, fun _ => 0)) ∧ wrr S_ (2 * n_ + 1).toNat ((1000000000, -1, 0, fun _ => 0))) ∧ (0 ≤ S_.1 13 0 127 ∧ S_.1 13 0 127 ≤ S0_.1 13 0 127 + u_ ∧ ∀ x_ : Nat, -(S_.1 13 0 127) ≤ S_.2.2.1 213 0 x_ ∧ S_.2.2.1 213 0 x_ ≤ S_.1 13 0 127) ∧ True) → ((90000 - u_).toNat) < nn_ → sm_T (mt_P sc_) 4 407 (31, [some (.inr (.inr (some (13, 0)))), some (.inl n_), some (.inl u_), none, none], [], S_) (fun ro9_ => ∃ u_ S1_, ro9_ = (.inl u_, S1_, 0) ∧ vq_407n n_ F_ N_ T_ S0_ u_ S1_)) ∧ (∀ (c_ : Int) (S_ : sm_S), gi S_ → ai_fr (sx_W vw_407n) S0_ S_ → ((0 ≤ c_ ∧ c_ ≤ 12 ∧ c_ ≤ S_.2.2.1 184 0 (S_.1 13 0 106).toNat) ∧ (wyc F_ n_ S_ (2 * n_)) ∧ (wyc F_ n_ S_ (2 * n_ + 1)) ∧ (wf2 n_ S0_ S_) ∧ (ctp (cnd9 n_ (S0_.2.2.1 202 0)) S_) ∧ (S_.2.2.1 210 0 = S0_.2.2.1 210 0 ∧ S_.2.2.1 211 0 = S0_.2.2.1 211 0) ∧ (∃ (m_ : Nat) (C_ : Nat → List Nat) (TB_ : Nat → Int), rwi (crn (fun x_ => decide (F_ ≤ (x_ : Int) ∧ S0_.2.2.1 203 0 x_ = 0)) (fun x_ => (S0_.2.2.1 199 0 x_ / 2).toNat) (fun x_ => (S0_.2.2.1 200 0 x_ / 2).toNat) n_.toNat m_) (tbq (fun x_ => (S0_.2.2.1 199 0 x_ / 2).toNat) (fun x_ => (S0_.2.2.1 200 0 x_ / 2).toNat) (fun x_ => S0_.2.2.1 199 0 x_ % 2) (fun x_ => S0_.2.2.1 200 0 x_ % 2) T_ n_.toNat) m_ S_ C_ TB_ (S_.1 13 0 114) ∧ wrr S_ (2 * n_).toNat (cfo (wcl adr (pcq F_ S0_) (hrf (fun cell => S0_.2.2.1 186 0 (12 * S0_.1 13 0 106 + ((cell : Nat) : Int)).toNat) TB_ C_ 0) (fun cell => S0_.2.2.1 187 0 (12 * S0_.1 13 0 106 + ((cell : Nat) : Int)).toNat) (fun cell => (S0_.2.2.1 185 0 (12 * S0_.1 13 0 106 + ((cell : Nat) : Int)).toNat).toNat) C_ (crn (fun x_ => decide (F_ ≤ (x_ : Int) ∧ S0_.2.2.1 203 0 x_ = 0)) (fun x_ => (S0_.2.2.1 199 0 x_ / 2).toNat) (fun x_ => (S0_.2.2.1 200 0 x_ / 2).toNat) n_.toNat m_).length) (c_.toNat) (1000000000, -1, 0, fun _ => 0)) ∧ wrr S_ (2 * n_ + 1).toNat (cfo (wcl adr (pcq F_ S0_) (hrf (fun cell => S0_.2.2.1 186 0 (12 * S0_.1 13 0 106 + ((cell : Nat) : Int)).toNat) TB_ C_ 1) (fun cell => S0_.2.2.1 187 0 (12 * S0_.1 13 0 106 + ((cell : Nat) : Int)).toNat) (fun cell => (S0_.2.2.1 185 0 (12 * S0_.1 13 0 106 + ((cell : Nat) : Int)).toNat).toNat) C_ (crn (fun x_ => decide (F_ ≤ (x_ : Int) ∧ S0_.2.2.1 203 0 x_ = 0)) (fun x_ => (S0_.2.2.1 199 0 x_ / 2).toNat) (fun x_ => (S0_.2.2.1 200 0 x_ / 2).toNat) n_.toNat m_).length) (c_.toNat) (1000000000, -1, 0, fun _ => 0))) ∧ (0 ≤ S_.1 13 0 127 ∧ S_.1 13 0 127 ≤ S0_.1 13 0 127 + 64 ∧ ∀ x_ : Nat, -(S_.1 13 0 127) ≤ S_.2.2.1 213 0 x_ ∧ S_.2.2.1 213 0 x_ ≤ S_.1 13 0 127) ∧ True) → ((1000 * (50 - c_) + 900).toNat) < nn_ → sm_T (mt_P sc_) 4 407 (59, [some (.inr (.inr (some (13, 0)))), some (.inl n_), some (.inl c_), none, none], [], S_) (fun ro9_ => ∃ u_ S1_, ro9_ = (.inl u_, S1_, 0) ∧ vq_407n n_ F_ N_ T_ S0_ u_ S1_)) ∧ (∀ (c_ : Int) (sz_ : Int) (u_ : Int) (S_ : sm_S), gi S_ → ai_fr (sx_W vw_407n) S0_ S_ → ((0 ≤ c_ ∧ c_ ≤ 11 ∧ 0 ≤ u_ ∧ u_ ≤ 64 ∧ sz_ = S_.2.2.1 185 0 (12 * S_.1 13 0 106 + c_).toNat ∧ c_ < S_.2.2.1 184 0 (S_.1 13 0 106).toNat ∧ u_ ≤ S_.1 13 0 114) ∧ (wyc F_ n_ S_ (2 * n_)) ∧ (wyc F_ n_ S_ (2 * n_ + 1)) ∧ (wf2 n_ S0_ S_) ∧ (ctp (cnd9 n_ (S0_.2.2.1 202 0)) S_) ∧ (S_.2.2.1 210 0 = S0_.2.2.1 210 0 ∧ S_.2.2.1 211 0 = S0_.2.2.1 211 0) ∧ (∃ (m_ : Nat) (C_ : Nat → List Nat) (TB_ : Nat → Int), rwi (crn (fun x_ => decide (F_ ≤ (x_ : Int) ∧ S0_.2.2.1 203 0 x_ = 0)) (fun x_ => (S0_.2.2.1 199 0 x_ / 2).toNat) (fun x_ => (S0_.2.2.1 200 0 x_ / 2).toNat) n_.toNat m_) (tbq (fun x_ => (S0_.2.2.1 199 0 x_ / 2).toNat) (fun x_ => (S0_.2.2.1 200 0 x_ / 2).toNat) (fun x_ => S0_.2.2.1 199 0 x_ % 2) (fun x_ => S0_.2.2.1 200 0 x_ % 2) T_ n_.toNat) m_ S_ C_ TB_ (S_.1 13 0 114) ∧ wrr S_ (2 * n_).toNat (cfo (wct adr (pcq F_ S0_) ((hrf (fun cell => S0_.2.2.1 186 0 (12 * S0_.1 13 0 106 + ((cell : Nat) : Int)).toNat) TB_ C_ 0) c_.toNat) ((fun cell => S0_.2.2.1 187 0 (12 * S0_.1 13 0 106 + ((cell : Nat) : Int)).toNat) c_.toNat) c_.toNat ((fun cell => (S0_.2.2.1 185 0 (12 * S0_.1 13 0 106 + ((cell : Nat) : Int)).toNat).toNat) c_.toNat) C_) (u_.toNat) (cfo (wcl adr (pcq F_ S0_) (hrf (fun cell => S0_.2.2.1 186 0 (12 * S0_.1 13 0 106 + ((cell : Nat) : Int)).toNat) TB_ C_ 0) (fun cell => S0_.2.2.1 187 0 (12 * S0_.1 13 0 106 + ((cell : Nat) : Int)).toNat) (fun cell => (S0_.2.2.1 185 0 (12 * S0_.1 13 0 106 + ((cell : Nat) : Int)).toNat).toNat) C_ (crn (fun x_ => decide (F_ ≤ (x_ : Int) ∧ S0_.2.2.1 203 0 x_ = 0)) (fun x_ => (S0_.2.2.1 199 0 x_ / 2).toNat) (fun x_ => (S0_.2.2.1 200 0 x_ / 2).toNat) n_.toNat m_).length) (c_.toNat) (1000000000, -1, 0, fun _ => 0))) ∧ wrr S_ (2 * n_ + 1).toNat (cfo (wct adr (pcq F_ S0_) ((hrf (fun cell => S0_.2.2.1 186 0 (12 * S0_.1 13 0 106 + ((cell : Nat) : Int)).toNat) TB_ C_ 1) c_.toNat) ((fun cell => S0_.2.2.1 187 0 (12 * S0_.1 13 0 106 + ((cell : Nat) : Int)).toNat) c_.toNat) c_.toNat ((fun cell => (S0_.2.2.1 185 0 (12 * S0_.1 13 0 106 + ((cell : Nat) : Int)).toNat).toNat) c_.toNat) C_) (u_.toNat) (cfo (wcl adr (pcq F_ S0_) (hrf (fun cell => S0_.2.2.1 186 0 (12 * S0_.1 13 0 106 + ((cell : Nat) : Int)).toNat) TB_ C_ 1) (fun cell => S0_.2.2.1 187 0 (12 * S0_.1 13 0 106 + ((cell : Nat) : Int)).toNat) (fun cell => (S0_.2.2.1 185 0 (12 * S0_.1 13 0 106 + ((cell : Nat) : Int)).toNat).toNat) C_ (crn (fun x_ => decide (F_ ≤ (x_ : Int) ∧ S0_.2.2.1 203 0 x_ = 0)) (fun x_ => (S0_.2.2.1 199 0 x_ / 2).toNat) (fun x_ => (S0_.2.2.1 200 0 x_ / 2).toNat) n_.toNat m_).length) (c_.toNat) (1000000000, -1, 0, fun _ => 0)))) ∧ (0 ≤ S_.1 13 0 127 ∧ S_.1 13 0 127 ≤ S0_.1 13 0 127 + 64 ∧ ∀ x_ : Nat, -(S_.1 13 0 127) ≤ S_.2.2.1 213 0 x_ ∧ S_.2.2.1 213 0 x_ ≤ S_.1 13 0 127) ∧ True) → ((1000 * (50 - c_) + 800 - u_).toNat) < nn_ → sm_T (mt_P sc_) 4 407 (90, [some (.inr (.inr (some (13, 0)))), some (.inl n_), some (.inl c_), some (.inl sz_), some (.inl u_)], [], S_) (fun ro9_ => ∃ u_ S1_, ro9_ = (.inl u_, S1_, 0) ∧ vq_407n n_ F_ N_ T_ S0_ u_ S1_)) ∧ (∀ (t_ : Int) (S_ : sm_S), gi S_ → ai_fr (sx_W vw_407n) S0_ S_ → ((0 ≤ t_ ∧ t_ ≤ 2) ∧ (wyc F_ n_ S_ (2 * n_) ∧ wyc F_ n_ S_ (2 * n_ + 1) ∧ ∀ s9_ : Int, 0 ≤ s9_ → s9_ < t_ → ned S_ (2 * n_ + s9_) (2 * n_ + 1 - s9_)) ∧ (wf3 n_ S0_ S_) ∧ (∃ (m_ : Nat) (Q_ : Nat → List Nat) (TB_ : Nat → Int), (crn (fun x_ => decide (F_ ≤ (x_ : Int) ∧ S0_.2.2.1 203 0 x_ = 0)) (fun x_ => (S0_.2.2.1 199 0 x_ / 2).toNat) (fun x_ => (S0_.2.2.1 200 0 x_ / 2).toNat) n_.toNat m_).length ≤ m_ / 3 ∧ prm (crn (fun x_ => decide (F_ ≤ (x_ : Int) ∧ S0_.2.2.1 203 0 x_ = 0)) (fun x_ => (S0_.2.2.1 199 0 x_ / 2).toNat) (fun x_ => (S0_.2.2.1 200 0 x_ / 2).toNat) n_.toNat m_).length Q_ (fun i_ => (crn (fun x_ => decide (F_ ≤ (x_ : Int) ∧ S0_.2.2.1 203 0 x_ = 0)) (fun x_ => (S0_.2.2.1 199 0 x_ / 2).toNat) (fun x_ => (S0_.2.2.1 200 0 x_ / 2).toNat) n_.toNat m_).getD i_ []) ∧ sor (crn (fun x_ => decide (F_ ≤ (x_ : Int) ∧ S0_.2.2.1 203 0 x_ = 0)) (fun x_ => (S0_.2.2.1 199 0 x_ / 2).toNat) (fun x_ => (S0_.2.2.1 200 0 x_ / 2).toNat) n_.toNat m_).length Q_ ∧ (∀ i_, i_ < (crn (fun x_ => decide (F_ ≤ (x_ : Int) ∧ S0_.2.2.1 203 0 x_ = 0)) (fun x_ => (S0_.2.2.1 199 0 x_ / 2).toNat) (fun x_ => (S0_.2.2.1 200 0 x_ / 2).toNat) n_.toNat m_).length → ((2 ≤ (Q_ i_).length ∧ (Q_ i_).length ≤ 3) ∧ Q_ i_ ∈ crn (fun x_ => decide (F_ ≤ (x_ : Int) ∧ S0_.2.2.1 203 0 x_ = 0)) (fun x_ => (S0_.2.2.1 199 0 x_ / 2).toNat) (fun x_ => (S0_.2.2.1 200 0 x_ / 2).toNat) n_.toNat m_) ∧ (tbq (fun x_ => (S0_.2.2.1 199 0 x_ / 2).toNat) (fun x_ => (S0_.2.2.1 200 0 x_ / 2).toNat) (fun x_ => S0_.2.2.1 199 0 x_ % 2) (fun x_ => S0_.2.2.1 200 0 x_ % 2) T_ n_.toNat) (Q_ i_) (TB_ i_)) ∧ wrr S_ (2 * n_).toNat (wbs adr (pcq F_ S0_) (hrf (fun cell => S0_.2.2.1 186 0 (12 * S0_.1 13 0 106 + ((cell : Nat) : Int)).toNat) TB_ Q_ 0) (fun cell => S0_.2.2.1 187 0 (12 * S0_.1 13 0 106 + ((cell : Nat) : Int)).toNat) (fun cell => (S0_.2.2.1 185 0 (12 * S0_.1 13 0 106 + ((cell : Nat) : Int)).toNat).toNat) Q_ (crn (fun x_ => decide (F_ ≤ (x_ : Int) ∧ S0_.2.2.1 203 0 x_ = 0)) (fun x_ => (S0_.2.2.1 199 0 x_ / 2).toNat) (fun x_ => (S0_.2.2.1 200 0 x_ / 2).toNat) n_.toNat m_).length (S0_.2.2.1 184 0 (S0_.1 13 0 106).toNat).toNat 1000000000) ∧ wrr S_ (2 * n_ + 1).toNat (wbs adr (pcq F_ S0_) (hrf (fun cell => S0_.2.2.1 186 0 (12 * S0_.1 13 0 106 + ((cell : Nat) : Int)).toNat) TB_ Q_ 1) (fun cell => S0_.2.2.1 187 0 (12 * S0_.1 13 0 106 + ((cell : Nat) : Int)).toNat) (fun cell => (S0_.2.2.1 185 0 (12 * S0_.1 13 0 106 + ((cell : Nat) : Int)).toNat).toNat) Q_ (crn (fun x_ => decide (F_ ≤ (x_ : Int) ∧ S0_.2.2.1 203 0 x_ = 0)) (fun x_ => (S0_.2.2.1 199 0 x_ / 2).toNat) (fun x_ => (S0_.2.2.1 200 0 x_ / 2).toNat) n_.toNat m_).length (S0_.2.2.1 184 0 (S0_.1 13 0 106).toNat).toNat 1000000000)) ∧ (0 ≤ S_.1 13 0 127 ∧ S_.1 13 0 127 ≤ S0_.1 13 0 127 + 64 ∧ ∀ x_ : Nat, -(S_.1 13 0 127) ≤ S_.2.2.1 213 0 x_ ∧ S_.2.2.1 213 0 x_ ≤ S_.1 13 0 127) ∧ (∀ s9_ : Int, 0 ≤ s9_ → s9_ < t_ → nex S_ (2 * n_ + s9_) (2 * n_ + 1 - s9_)) ∧ True) → ((500 - t_).toNat) < nn_ → sm_T (mt_P sc_) 4 407 (133, [some (.inr (.inr (some (13, 0)))), some (.inl n_), some (.inl t_), none, none], [], S_) (fun ro9_ => ∃ u_ S1_, ro9_ = (.inl u_, S1_, 0) ∧ vq_407n n_ F_ N_ T_ S0_ u_ S1_)) := by
  intro nn_
  induction nn_ with
  | zero => exact ⟨fun _ _ _ _ _ h_ => absurd h_ (Nat.not_lt_zero _), fun _ _ _ _ _ h_ => absurd h_ (Nat.not_lt_zero _), fun _ _ _ _ _ _ _ h_ => absurd h_ (Nat.not_lt_zero _), fun _ _ _ _ _ h_ => absurd h_ (Nat.not_lt_zero _)⟩
  | succ nn_ ih_ =>
    refine ⟨?_, ?_, ?_, ?_⟩
    · rintro u_ S_ hI_ hF_ ⟨h0_, k0_, k1_, k2_, hct_, h4_, hX_, hrd_, -⟩ hm_
      have f199_ : S_.2.2.1 199 0 = S0_.2.2.1 199 0 := fr_arr hF_ rfl
      have f200_ : S_.2.2.1 200 0 = S0_.2.2.1 200 0 := fr_arr hF_ rfl
      have f185_ : S_.2.2.1 185 0 = S0_.2.2.1 185 0 := fr_arr hF_ rfl
      have f186_ : S_.2.2.1 186 0 = S0_.2.2.1 186 0 := fr_arr hF_ rfl
      have f187_ : S_.2.2.1 187 0 = S0_.2.2.1 187 0 := fr_arr hF_ rfl
      have c184_ : 0 ≤ S_.2.2.1 184 0 (S_.1 13 0 106).toNat ∧ S_.2.2.1 184 0 (S_.1 13 0 106).toNat ≤ 12 := hI_.2 184 0 _
      have f184_ : S_.2.2.1 184 0 = S0_.2.2.1 184 0 := fr_arr hF_ rfl
      have g106_ : S_.1 13 0 106 = S0_.1 13 0 106 := hF_.1 13 0 106 rfl
      have f160_ : S_.2.2.1 160 0 (S_.1 13 0 105).toNat = F_ := by (rw [hF_.1 13 0 105 rfl, fr_arr (t := 160) (i := 0) hF_ rfl]; exact hf_)
      have f202_ : S_.2.2.1 202 0 = S0_.2.2.1 202 0 := fr_arr hF_ rfl
      have b114_ : 0 ≤ S_.1 13 0 114 ∧ S_.1 13 0 114 ≤ 64 := hI_.1 13 0 114 rfl
      have b106_ : 0 ≤ S_.1 13 0 106 ∧ S_.1 13 0 106 ≤ 2 := hI_.1 13 0 106 rfl
      have bx1_ : 0 ≤ S_.1 13 0 114 ∧ S_.1 13 0 114 ≤ 64 := hI_.1 13 0 114 rfl
      refine sm_T_go 3 (c1 := (36, [some (.inr (.inr (some (13, 0)))), some (.inl n_), some (.inl u_), none, none], [.inl (S_.1 13 0 114), .inl u_], S_)) rfl ?_
      refine sm_T_br (a := 3) (z := 21) rfl (fun cx2_ => ?_) (fun cx2_ => ?_)
      · have cx2_ : (S_.1 13 0 114) ≤ u_ := of_decide_eq_true cx2_
        refine sm_T_go 2 (c1 := (59, [some (.inr (.inr (some (13, 0)))), some (.inl n_), some (.inl 0), none, none], [], S_)) rfl ?_
        refine ih_.2.1 0 S_ hI_ hF_ ⟨?_, ?_, ?_, ?_, ?_, ?_, ?_, ?_, trivial⟩ ?_
        · omega
        · exact k0_
        · exact k1_
        · exact k2_
        · exact hct_
        · exact h4_
        · obtain ⟨m9_, C9_, B9_, q9_, r9_, s9_⟩ := hX_
          exact ⟨m9_, C9_, B9_, ⟨q9_.1, q9_.2.1, fun i_ u9_ w9_ => q9_.2.2 i_ (by omega) w9_⟩, r9_, s9_⟩
        · exact ⟨hrd_.1, by omega, hrd_.2.2⟩
        · omega
      · have cx2_ : ¬ ((S_.1 13 0 114) ≤ u_) := of_decide_eq_false cx2_
        obtain ⟨m9_, C9_, B9_, q9_, r9_, s9_⟩ := hX_
        have cn9_ := q9_.1.2.1
        have y9_ := q9_.1.2.2 u_.toNat (by omega)
        obtain ⟨E9_, e91_, e92_, e93_⟩ := crn_fr m9_ _ (prm_m q9_.2.1.1 (show u_.toNat < _ by omega))
        have cl9_ := clo_of ht_ e91_
        rw [← e92_] at cl9_
        refine sm_T_go 6 (c1 := (47, [some (.inr (.inr (some (13, 0)))), some (.inl n_), some (.inl u_), none, none], [.inl u_, .inl n_, .inr (.inr (some (13, 0))), .inl u_, .inr (.inr (some (215, 0)))], S_)) rfl ?_
        refine sm_T_cal (d1 := 1) (Q1 := vq_402n n_ u_ F_ (fun x_ => x_ ∈ n_.toNat :: E9_) (C9_ u_.toNat) S_) rfl rfl (by decide) (vc_402n n_ u_ F_ (fun x_ => x_ ∈ n_.toNat :: E9_) (C9_ u_.toNat) S_ hI_ (by exact f160_) (by omega) (by omega) (by exact y9_.1) (by exact y9_.2.1) (by exact y9_.2.2) (by (rw [f199_, f200_]; exact cl9_)) (by (intro x9_ hx9_; rcases List.mem_cons.mp hx9_ with w9_ | w9_; (omega); (exact (of_decide_eq_true ((frc_a ht_ E9_ e91_).1 x9_ w9_).1).1))) (by omega) (by exact hrd_.2.2)) (fun u_ Sx3_ px6_ => ?_)
        obtain ⟨vx8_, rfl, hIx4_, hFx5_, px6_⟩ := px6_
        have hFx7_ : ai_fr (sx_W vw_407n) S0_ Sx3_ := ai_fr_tr hF_ (fr_le hFx5_ rfl)
        have ex9_ : Sx3_.1 13 0 114 = S_.1 13 0 114 := hFx5_.1 13 0 114 rfl
        have e47_ := (px6_).1
        have R47_ := (px6_).2
        have p47_ : (tbq (fun x_ => (S0_.2.2.1 199 0 x_ / 2).toNat) (fun x_ => (S0_.2.2.1 200 0 x_ / 2).toNat) (fun x_ => S0_.2.2.1 199 0 x_ % 2) (fun x_ => S0_.2.2.1 200 0 x_ % 2) T_ n_.toNat) (C9_ u_.toNat) vx8_ := by (obtain ⟨B8_, t8_, b81_, b82_, b83_, b84_⟩ := R47_.2.2; rw [f199_, f200_] at b83_; exact ⟨B8_, t8_, b81_, fun x8_ hx8_ => by (have q8_ : x8_ ∈ n_.toNat :: E9_ := b82_ x8_ hx8_; rcases List.mem_cons.mp q8_ with w8_ | w8_; (rw [w8_]; exact ht_.1); (exact ((frc_a ht_ E9_ e91_).1 x8_ w8_).2.1)), b83_, b84_, e47_.1, e47_.2⟩)
        have q47_ := rwi_fr q9_ hFx5_
        have r47_ := wrr_fr r9_ hFx5_
        have s47_ := wrr_fr s9_ hFx5_
        have w47_ : ∀ l9_ : Int, 0 ≤ l9_ → wyc F_ n_ S_ l9_ → wyc F_ n_ Sx3_ l9_ := fun l9_ u0_ u1_ => wyc_fr hIx4_ u1_ u0_ hFx5_
        have c47_ : ctp (cnd9 n_ (S0_.2.2.1 202 0)) Sx3_ := ctp_fr hct_ hFx5_
        have f47_ : wf2 n_ S_ Sx3_ := wf2_fr hFx5_
        have y47_ : Sx3_.2.2.1 210 0 = S_.2.2.1 210 0 := fr_arr hFx5_ rfl
        have z47_ : Sx3_.2.2.1 211 0 = S_.2.2.1 211 0 := fr_arr hFx5_ rfl
        refine sm_T_iast (n := 64) rfl rfl (by omega) (by omega) ?_
        have hIx10_ : gi (sm_aI Sx3_ 215 0 u_.toNat vx8_) := gi_aI hIx4_ (show 0 ≤ vx8_ ∧ vx8_ ≤ 255 from ⟨by omega, by omega⟩)
        have hFx11_ : ai_fr (sx_W vw_407n) S0_ (sm_aI Sx3_ 215 0 u_.toNat vx8_) := ai_fr_tr hFx7_ (ai_fr_aI rfl)
        refine sm_T_inc (a := 2) (z := 1) (v := u_) (w := u_ + 1) rfl rfl (by omega) (by omega) (by omega) ?_ -- pc_ 51
        refine sm_T_go 1 (c1 := (31, [some (.inr (.inr (some (13, 0)))), some (.inl n_), some (.inl (u_ + 1)), none, none], [], sm_aI Sx3_ 215 0 u_.toNat vx8_)) rfl ?_
        refine ih_.1 (u_ + 1) (sm_aI Sx3_ 215 0 u_.toNat vx8_) hIx10_ hFx11_ ⟨?_, ?_, ?_, ?_, ?_, ?_, ?_, ?_, trivial⟩ ?_
        · omega
        · exact wyc_fr (w_ := ([], [215], [])) hIx10_ (w47_ _ (by omega) k0_) (by omega) (ai_fr_aI rfl)
        · exact wyc_fr (w_ := ([], [215], [])) hIx10_ (w47_ _ (by omega) k1_) (by omega) (ai_fr_aI rfl)
        · exact wf2_tr (wf2_tr k2_ f47_) (wf2_fr (w_ := ([], [215], [])) (ai_fr_aI rfl))
        · exact ctp_fr (w_ := ([], [215], [])) c47_ (ai_fr_aI rfl)
        · exact ⟨by (funext j9_; (try simp only [rd_eq, rd_ne, rf_eq, rf_nk, rf_nt, rd_fa, rd_af, rd_fl, rd_al, rd_lf, rd_la, rd_leq, rd_lne, rd_fr, rd_ar, ne_eq, Nat.reduceEqDiff, not_false_eq_true]); rw [y47_, h4_.1]), by (funext j9_; (try simp only [rd_eq, rd_ne, rf_eq, rf_nk, rf_nt, rd_fa, rd_af, rd_fl, rd_al, rd_lf, rd_la, rd_leq, rd_lne, rd_fr, rd_ar, ne_eq, Nat.reduceEqDiff, not_false_eq_true]); rw [z47_, h4_.2])⟩
        · obtain ⟨T8_, t8_⟩ := rwi_w q47_ (show ((u_.toNat : Nat) : Int) = u_ by omega) p47_
          exact ⟨m9_, C9_, T8_, t8_, wrr_fr (u_ := ([], [215], [])) r47_ (ai_fr_aI rfl), wrr_fr (u_ := ([], [215], [])) s47_ (ai_fr_aI rfl)⟩
        · have z1_ : ((sm_aI Sx3_ 215 0 u_.toNat vx8_)).1 13 0 127 = S_.1 13 0 127 + 1 := by ((try simp only [rd_eq, rd_ne, rf_eq, rf_nk, rf_nt, rd_fa, rd_af, rd_fl, rd_al, rd_lf, rd_la, rd_leq, rd_lne, rd_fr, rd_ar, ne_eq, Nat.reduceEqDiff, not_false_eq_true]); exact R47_.1)
          have z2_ : ∀ x_ : Nat, -(S_.1 13 0 127 + 1) ≤ ((sm_aI Sx3_ 215 0 u_.toNat vx8_)).2.2.1 213 0 x_ ∧ ((sm_aI Sx3_ 215 0 u_.toNat vx8_)).2.2.1 213 0 x_ ≤ S_.1 13 0 127 + 1 := fun x_ => by (rw [rd_ne (by decide)]; exact R47_.2.1 x_)
          rw [z1_]
          exact ⟨by omega, by omega, z2_⟩
        · omega
    · rintro c_ S_ hI_ hF_ ⟨h0_, k0_, k1_, k2_, hct_, h4_, hX_, hrd_, -⟩ hm_
      have f199_ : S_.2.2.1 199 0 = S0_.2.2.1 199 0 := fr_arr hF_ rfl
      have f200_ : S_.2.2.1 200 0 = S0_.2.2.1 200 0 := fr_arr hF_ rfl
      have f185_ : S_.2.2.1 185 0 = S0_.2.2.1 185 0 := fr_arr hF_ rfl
      have f186_ : S_.2.2.1 186 0 = S0_.2.2.1 186 0 := fr_arr hF_ rfl
      have f187_ : S_.2.2.1 187 0 = S0_.2.2.1 187 0 := fr_arr hF_ rfl
      have c184_ : 0 ≤ S_.2.2.1 184 0 (S_.1 13 0 106).toNat ∧ S_.2.2.1 184 0 (S_.1 13 0 106).toNat ≤ 12 := hI_.2 184 0 _
      have f184_ : S_.2.2.1 184 0 = S0_.2.2.1 184 0 := fr_arr hF_ rfl
      have g106_ : S_.1 13 0 106 = S0_.1 13 0 106 := hF_.1 13 0 106 rfl
      have f160_ : S_.2.2.1 160 0 (S_.1 13 0 105).toNat = F_ := by (rw [hF_.1 13 0 105 rfl, fr_arr (t := 160) (i := 0) hF_ rfl]; exact hf_)
      have f202_ : S_.2.2.1 202 0 = S0_.2.2.1 202 0 := fr_arr hF_ rfl
      have b114_ : 0 ≤ S_.1 13 0 114 ∧ S_.1 13 0 114 ≤ 64 := hI_.1 13 0 114 rfl
      have b106_ : 0 ≤ S_.1 13 0 106 ∧ S_.1 13 0 106 ≤ 2 := hI_.1 13 0 106 rfl
      have bx1_ : 0 ≤ S_.1 13 0 106 ∧ S_.1 13 0 106 ≤ 2 := hI_.1 13 0 106 rfl
      refine sm_T_go 5 (c1 := (68, [some (.inr (.inr (some (13, 0)))), some (.inl n_), some (.inl c_), none, none], [.inl (S_.1 13 0 106), .inr (.inr (some (184, 0))), .inl c_], S_)) rfl ?_
      refine sm_T_iald (n := 3) rfl rfl (by omega) (by omega) ?_
      have bx2_ : 0 ≤ S_.2.2.1 184 0 (S_.1 13 0 106).toNat ∧ S_.2.2.1 184 0 (S_.1 13 0 106).toNat ≤ 12 := hI_.2 184 0 _
      refine sm_T_br (a := 3) (z := 62) rfl (fun cx3_ => ?_) (fun cx3_ => ?_)
      · have cx3_ : (S_.2.2.1 184 0 (S_.1 13 0 106).toNat) ≤ c_ := of_decide_eq_true cx3_
        refine sm_T_go 2 (c1 := (133, [some (.inr (.inr (some (13, 0)))), some (.inl n_), some (.inl 0), none, none], [], S_)) rfl ?_
        refine ih_.2.2.2 0 S_ hI_ hF_ ⟨?_, ?_, ?_, ?_, ?_, ?_, trivial⟩ ?_
        · omega
        · exact ⟨k0_, k1_, fun s9_ u0_ u1_ => absurd u1_ (by omega)⟩
        · exact ⟨k2_, fun j9_ _ => ⟨congrFun h4_.1 j9_, congrFun h4_.2 j9_⟩⟩
        · obtain ⟨m9_, C9_, B9_, q9_, r9_, s9_⟩ := hX_
          rw [show c_.toNat = (S0_.2.2.1 184 0 (S0_.1 13 0 106).toNat).toNat by (rw [← f184_, ← g106_]; omega)] at r9_ s9_
          exact ⟨m9_, C9_, B9_, q9_.1.1, q9_.2.1.1, q9_.2.1.2, fun i_ hi_ => ⟨⟨(q9_.1.2.2 i_ hi_).1.1, prm_m q9_.2.1.1 hi_⟩, (q9_.2.2 i_ (by (have z9_ := q9_.1.2.1; omega)) hi_).2⟩, r9_, s9_⟩
        · exact hrd_
        · (intro s9_ u0_ u1_; exfalso; omega)
        · omega
      · have cx3_ : ¬ ((S_.2.2.1 184 0 (S_.1 13 0 106).toNat) ≤ c_) := of_decide_eq_false cx3_
        refine sm_T_go 5 (c1 := (82, [some (.inr (.inr (some (13, 0)))), some (.inl n_), some (.inl c_), none, none], [.inl (S_.1 13 0 106), .inl 12, .inr (.inr (some (185, 0)))], S_)) rfl ?_
        refine sm_T_bin (w := 12 * (S_.1 13 0 106)) rfl (bi_mul (by omega) (by omega) (by omega)) ?_ -- pc_ 82
        refine sm_T_go 1 (c1 := (84, [some (.inr (.inr (some (13, 0)))), some (.inl n_), some (.inl c_), none, none], [.inl c_, .inl (12 * (S_.1 13 0 106)), .inr (.inr (some (185, 0)))], S_)) rfl ?_
        refine sm_T_bin (w := 12 * (S_.1 13 0 106) + c_) rfl (bi_add (by omega) (by omega) (by omega)) ?_ -- pc_ 84
        refine sm_T_iald (n := 36) rfl rfl (by omega) (by omega) ?_
        have bx4_ : 0 ≤ S_.2.2.1 185 0 (12 * (S_.1 13 0 106) + c_).toNat ∧ S_.2.2.1 185 0 (12 * (S_.1 13 0 106) + c_).toNat ≤ 3 := hI_.2 185 0 _
        refine sm_T_go 3 (c1 := (90, [some (.inr (.inr (some (13, 0)))), some (.inl n_), some (.inl c_), some (.inl (S_.2.2.1 185 0 (12 * (S_.1 13 0 106) + c_).toNat)), some (.inl 0)], [], S_)) rfl ?_
        refine ih_.2.2.1 c_ (S_.2.2.1 185 0 (12 * (S_.1 13 0 106) + c_).toNat) 0 S_ hI_ hF_ ⟨?_, ?_, ?_, ?_, ?_, ?_, ?_, ?_, trivial⟩ ?_
        · omega
        · exact k0_
        · exact k1_
        · exact k2_
        · exact hct_
        · exact h4_
        · exact hX_
        · exact hrd_
        · omega
    · rintro c_ sz_ u_ S_ hI_ hF_ ⟨h0_, k0_, k1_, k2_, hct_, h4_, hX_, hrd_, -⟩ hm_
      have f199_ : S_.2.2.1 199 0 = S0_.2.2.1 199 0 := fr_arr hF_ rfl
      have f200_ : S_.2.2.1 200 0 = S0_.2.2.1 200 0 := fr_arr hF_ rfl
      have f185_ : S_.2.2.1 185 0 = S0_.2.2.1 185 0 := fr_arr hF_ rfl
      have f186_ : S_.2.2.1 186 0 = S0_.2.2.1 186 0 := fr_arr hF_ rfl
      have f187_ : S_.2.2.1 187 0 = S0_.2.2.1 187 0 := fr_arr hF_ rfl
      have c184_ : 0 ≤ S_.2.2.1 184 0 (S_.1 13 0 106).toNat ∧ S_.2.2.1 184 0 (S_.1 13 0 106).toNat ≤ 12 := hI_.2 184 0 _
      have f184_ : S_.2.2.1 184 0 = S0_.2.2.1 184 0 := fr_arr hF_ rfl
      have g106_ : S_.1 13 0 106 = S0_.1 13 0 106 := hF_.1 13 0 106 rfl
      have f160_ : S_.2.2.1 160 0 (S_.1 13 0 105).toNat = F_ := by (rw [hF_.1 13 0 105 rfl, fr_arr (t := 160) (i := 0) hF_ rfl]; exact hf_)
      have f202_ : S_.2.2.1 202 0 = S0_.2.2.1 202 0 := fr_arr hF_ rfl
      have b114_ : 0 ≤ S_.1 13 0 114 ∧ S_.1 13 0 114 ≤ 64 := hI_.1 13 0 114 rfl
      have b106_ : 0 ≤ S_.1 13 0 106 ∧ S_.1 13 0 106 ≤ 2 := hI_.1 13 0 106 rfl
      have bx1_ : 0 ≤ S_.1 13 0 114 ∧ S_.1 13 0 114 ≤ 64 := hI_.1 13 0 114 rfl
      refine sm_T_go 3 (c1 := (96, [some (.inr (.inr (some (13, 0)))), some (.inl n_), some (.inl c_), some (.inl sz_), some (.inl u_)], [.inl (S_.1 13 0 114), .inl u_], S_)) rfl ?_
      refine sm_T_br (a := 3) (z := 29) rfl (fun cx2_ => ?_) (fun cx2_ => ?_)
      · have cx2_ : (S_.1 13 0 114) ≤ u_ := of_decide_eq_true cx2_
        refine sm_T_inc (a := 2) (z := 1) (v := c_) (w := c_ + 1) rfl rfl (by omega) (by omega) (by omega) ?_ -- pc_ 125
        refine sm_T_go 1 (c1 := (59, [some (.inr (.inr (some (13, 0)))), some (.inl n_), some (.inl (c_ + 1)), some (.inl sz_), some (.inl u_)], [], S_)) rfl ?_
        refine sm_T_wk [some (.inr (.inr (some (13, 0)))), some (.inl n_), some (.inl (c_ + 1)), none, none] (by exact ⟨rfl, rfl, rfl, trivial⟩) ?_
        refine ih_.2.1 (c_ + 1) S_ hI_ hF_ ⟨?_, ?_, ?_, ?_, ?_, ?_, ?_, ?_, trivial⟩ ?_
        · omega
        · exact k0_
        · exact k1_
        · exact k2_
        · exact hct_
        · exact h4_
        · obtain ⟨m9_, C9_, B9_, q9_, r9_, s9_⟩ := hX_
          have n8_ : u_.toNat = (crn (fun x_ => decide (F_ ≤ (x_ : Int) ∧ S0_.2.2.1 203 0 x_ = 0)) (fun x_ => (S0_.2.2.1 199 0 x_ / 2).toNat) (fun x_ => (S0_.2.2.1 200 0 x_ / 2).toNat) n_.toNat m9_).length := by (have z9_ := q9_.1.2.1; omega)
          rw [n8_] at r9_ s9_
          refine ⟨m9_, C9_, B9_, q9_, ?_, ?_⟩
          · rw [show (c_ + 1).toNat = c_.toNat + 1 by omega, cfo_s]; exact r9_
          · rw [show (c_ + 1).toNat = c_.toNat + 1 by omega, cfo_s]; exact s9_
        · exact hrd_
        · omega
      · have cx2_ : ¬ ((S_.1 13 0 114) ≤ u_) := of_decide_eq_false cx2_
        obtain ⟨m9_, C9_, B9_, q9_, r9_, k9x⟩ := hX_
        have cn9_ := q9_.1.2.1
        have y9_ := q9_.1.2.2 u_.toNat (by omega)
        have w9_ := q9_.2.2 u_.toNat (by omega) (by omega)
        refine sm_T_go 3 (c1 := (105, [some (.inr (.inr (some (13, 0)))), some (.inl n_), some (.inl c_), some (.inl sz_), some (.inl u_)], [.inl u_, .inr (.inr (some (204, 0)))], S_)) rfl ?_
        refine sm_T_iald (n := 64) rfl rfl (by omega) (by omega) ?_
        have bx3_ : 0 ≤ S_.2.2.1 204 0 u_.toNat ∧ S_.2.2.1 204 0 u_.toNat ≤ 3 := hI_.2 204 0 _
        refine sm_T_go 1 (c1 := (107, [some (.inr (.inr (some (13, 0)))), some (.inl n_), some (.inl c_), some (.inl sz_), some (.inl u_)], [.inl sz_, .inl (S_.2.2.1 204 0 u_.toNat)], S_)) rfl ?_
        refine sm_T_br (a := 1) (z := 12) rfl (fun cx4_ => ?_) (fun cx4_ => ?_)
        · have cx4_ : (S_.2.2.1 204 0 u_.toNat) ≠ sz_ := of_decide_eq_true cx4_
          refine sm_T_inc (a := 4) (z := 1) (v := u_) (w := u_ + 1) rfl rfl (by omega) (by omega) (by omega) ?_ -- pc_ 119
          refine sm_T_go 1 (c1 := (90, [some (.inr (.inr (some (13, 0)))), some (.inl n_), some (.inl c_), some (.inl sz_), some (.inl (u_ + 1))], [], S_)) rfl ?_
          refine ih_.2.2.1 c_ sz_ (u_ + 1) S_ hI_ hF_ ⟨?_, ?_, ?_, ?_, ?_, ?_, ?_, ?_, trivial⟩ ?_
          · first | omega | (rw [u116_, x116_, t116_]; omega)
          · first | exact p116_.1 | exact k0_
          · first | exact p116_.2.1 | exact k1_
          · first | exact wf2_tr k2_ p116_.2.2 | exact k2_
          · first | exact c116_ | exact hct_
          · first | exact ⟨y116_.trans h4_.1, z116_.trans h4_.2⟩ | exact h4_
          · first | (have y8_ := A116_; rw [← n116_] at q116_; exact ⟨m9_, C9_, B9_, q116_, A116_, B116_⟩) | (refine ⟨m9_, C9_, B9_, q9_, ?_, ?_⟩; (rw [show (u_ + 1).toNat = u_.toNat + 1 by omega, cfo_s, wct_n (Q_ := C9_) (i_ := u_.toNat) (show ¬ (S0_.2.2.1 185 0 (12 * S0_.1 13 0 106 + ((c_.toNat : Nat) : Int)).toNat).toNat = (C9_ u_.toNat).length from fun u9_ => by (have z9_ := y9_.2.1; have z8_ := y9_.1.1; rw [← f185_, ← g106_, show ((c_.toNat : Nat) : Int) = c_ by omega] at u9_; omega))]; exact r9_); (rw [show (u_ + 1).toNat = u_.toNat + 1 by omega, cfo_s, wct_n (Q_ := C9_) (i_ := u_.toNat) (show ¬ (S0_.2.2.1 185 0 (12 * S0_.1 13 0 106 + ((c_.toNat : Nat) : Int)).toNat).toNat = (C9_ u_.toNat).length from fun u9_ => by (have z9_ := y9_.2.1; have z8_ := y9_.1.1; rw [← f185_, ← g106_, show ((c_.toNat : Nat) : Int) = c_ by omega] at u9_; omega))]; exact k9x))
          · first | (have y8_ := A116_; rw [d116_, v116_]; exact hrd_) | exact hrd_
          · omega
        · have cx4_ : ¬ ((S_.2.2.1 204 0 u_.toNat) ≠ sz_) := of_decide_eq_false cx4_
          have s9_ := (hct_ u_ (by omega) (by omega)).1
          have s8_ : S_.2.2.1 204 0 u_.toNat ≤ 3 := (hI_.2 204 0 _).2
          refine sm_T_go 5 (c1 := (116, [some (.inr (.inr (some (13, 0)))), some (.inl n_), some (.inl c_), some (.inl sz_), some (.inl u_)], [.inl sz_, .inl u_, .inl c_, .inl n_, .inr (.inr (some (13, 0)))], S_)) rfl ?_
          refine sm_T_cal (d1 := 3) (Q1 := vq_408n n_ c_ u_ sz_ F_ (C9_ u_.toNat) (cfo (wct adr (pcq F_ S0_) ((hrf (fun cell => S0_.2.2.1 186 0 (12 * S0_.1 13 0 106 + ((cell : Nat) : Int)).toNat) B9_ C9_ 0) c_.toNat) ((fun cell => S0_.2.2.1 187 0 (12 * S0_.1 13 0 106 + ((cell : Nat) : Int)).toNat) c_.toNat) c_.toNat ((fun cell => (S0_.2.2.1 185 0 (12 * S0_.1 13 0 106 + ((cell : Nat) : Int)).toNat).toNat) c_.toNat) C9_) (u_.toNat) (cfo (wcl adr (pcq F_ S0_) (hrf (fun cell => S0_.2.2.1 186 0 (12 * S0_.1 13 0 106 + ((cell : Nat) : Int)).toNat) B9_ C9_ 0) (fun cell => S0_.2.2.1 187 0 (12 * S0_.1 13 0 106 + ((cell : Nat) : Int)).toNat) (fun cell => (S0_.2.2.1 185 0 (12 * S0_.1 13 0 106 + ((cell : Nat) : Int)).toNat).toNat) C9_ (crn (fun x_ => decide (F_ ≤ (x_ : Int) ∧ S0_.2.2.1 203 0 x_ = 0)) (fun x_ => (S0_.2.2.1 199 0 x_ / 2).toNat) (fun x_ => (S0_.2.2.1 200 0 x_ / 2).toNat) n_.toNat m9_).length) (c_.toNat) (1000000000, -1, 0, fun _ => 0))) (cfo (wct adr (pcq F_ S0_) ((hrf (fun cell => S0_.2.2.1 186 0 (12 * S0_.1 13 0 106 + ((cell : Nat) : Int)).toNat) B9_ C9_ 1) c_.toNat) ((fun cell => S0_.2.2.1 187 0 (12 * S0_.1 13 0 106 + ((cell : Nat) : Int)).toNat) c_.toNat) c_.toNat ((fun cell => (S0_.2.2.1 185 0 (12 * S0_.1 13 0 106 + ((cell : Nat) : Int)).toNat).toNat) c_.toNat) C9_) (u_.toNat) (cfo (wcl adr (pcq F_ S0_) (hrf (fun cell => S0_.2.2.1 186 0 (12 * S0_.1 13 0 106 + ((cell : Nat) : Int)).toNat) B9_ C9_ 1) (fun cell => S0_.2.2.1 187 0 (12 * S0_.1 13 0 106 + ((cell : Nat) : Int)).toNat) (fun cell => (S0_.2.2.1 185 0 (12 * S0_.1 13 0 106 + ((cell : Nat) : Int)).toNat).toNat) C9_ (crn (fun x_ => decide (F_ ≤ (x_ : Int) ∧ S0_.2.2.1 203 0 x_ = 0)) (fun x_ => (S0_.2.2.1 199 0 x_ / 2).toNat) (fun x_ => (S0_.2.2.1 200 0 x_ / 2).toNat) n_.toNat m9_).length) (c_.toNat) (1000000000, -1, 0, fun _ => 0))) S_) rfl rfl (by decide) (vc_408n n_ c_ u_ sz_ F_ (C9_ u_.toNat) (cfo (wct adr (pcq F_ S0_) ((hrf (fun cell => S0_.2.2.1 186 0 (12 * S0_.1 13 0 106 + ((cell : Nat) : Int)).toNat) B9_ C9_ 0) c_.toNat) ((fun cell => S0_.2.2.1 187 0 (12 * S0_.1 13 0 106 + ((cell : Nat) : Int)).toNat) c_.toNat) c_.toNat ((fun cell => (S0_.2.2.1 185 0 (12 * S0_.1 13 0 106 + ((cell : Nat) : Int)).toNat).toNat) c_.toNat) C9_) (u_.toNat) (cfo (wcl adr (pcq F_ S0_) (hrf (fun cell => S0_.2.2.1 186 0 (12 * S0_.1 13 0 106 + ((cell : Nat) : Int)).toNat) B9_ C9_ 0) (fun cell => S0_.2.2.1 187 0 (12 * S0_.1 13 0 106 + ((cell : Nat) : Int)).toNat) (fun cell => (S0_.2.2.1 185 0 (12 * S0_.1 13 0 106 + ((cell : Nat) : Int)).toNat).toNat) C9_ (crn (fun x_ => decide (F_ ≤ (x_ : Int) ∧ S0_.2.2.1 203 0 x_ = 0)) (fun x_ => (S0_.2.2.1 199 0 x_ / 2).toNat) (fun x_ => (S0_.2.2.1 200 0 x_ / 2).toNat) n_.toNat m9_).length) (c_.toNat) (1000000000, -1, 0, fun _ => 0))) (cfo (wct adr (pcq F_ S0_) ((hrf (fun cell => S0_.2.2.1 186 0 (12 * S0_.1 13 0 106 + ((cell : Nat) : Int)).toNat) B9_ C9_ 1) c_.toNat) ((fun cell => S0_.2.2.1 187 0 (12 * S0_.1 13 0 106 + ((cell : Nat) : Int)).toNat) c_.toNat) c_.toNat ((fun cell => (S0_.2.2.1 185 0 (12 * S0_.1 13 0 106 + ((cell : Nat) : Int)).toNat).toNat) c_.toNat) C9_) (u_.toNat) (cfo (wcl adr (pcq F_ S0_) (hrf (fun cell => S0_.2.2.1 186 0 (12 * S0_.1 13 0 106 + ((cell : Nat) : Int)).toNat) B9_ C9_ 1) (fun cell => S0_.2.2.1 187 0 (12 * S0_.1 13 0 106 + ((cell : Nat) : Int)).toNat) (fun cell => (S0_.2.2.1 185 0 (12 * S0_.1 13 0 106 + ((cell : Nat) : Int)).toNat).toNat) C9_ (crn (fun x_ => decide (F_ ≤ (x_ : Int) ∧ S0_.2.2.1 203 0 x_ = 0)) (fun x_ => (S0_.2.2.1 199 0 x_ / 2).toNat) (fun x_ => (S0_.2.2.1 200 0 x_ / 2).toNat) n_.toNat m9_).length) (c_.toNat) (1000000000, -1, 0, fun _ => 0))) S_ hI_ (by exact ⟨y9_.1.1, y9_.2.1⟩) (by exact y9_.2.2) (by (have z9_ := y9_.2.1; omega)) (by exact r9_) (by exact k9x) (by exact f160_) (by omega) (by omega) (by (rw [f202_]; exact hct_)) (by omega) (by exact k0_) (by exact k1_)) (fun u_ Sx5_ px8_ => ?_)
          obtain ⟨rfl, hIx6_, hFx7_, px8_⟩ := px8_
          have hFx9_ : ai_fr (sx_W vw_407n) S0_ Sx5_ := ai_fr_tr hF_ (fr_le hFx7_ rfl)
          have ex10_ : Sx5_.1 13 0 114 = S_.1 13 0 114 := hFx7_.1 13 0 114 rfl
          have p116_ := (px8_).1
          have X116_ := (px8_).2
          have pq9_ : pcq F_ S_ = pcq F_ S0_ := by (funext x_ t_; unfold pcq cst; rw [fr_arr (t := 203) (i := 0) hF_ rfl, h4_.1, hF_.1 13 0 108 rfl])
          rw [pq9_, f187_, f186_, g106_, w9_.1] at X116_
          have lq9_ : (S0_.2.2.1 185 0 (12 * S0_.1 13 0 106 + ((c_.toNat : Nat) : Int)).toNat).toNat = (C9_ u_.toNat).length := by (have z9_ := y9_.2.1; rw [← f185_, ← g106_, show ((c_.toNat : Nat) : Int) = c_ by omega]; omega)
          have A116_ : wrr Sx5_ (2 * n_).toNat (cfo (wct adr (pcq F_ S0_) ((hrf (fun cell => S0_.2.2.1 186 0 (12 * S0_.1 13 0 106 + ((cell : Nat) : Int)).toNat) B9_ C9_ 0) c_.toNat) ((fun cell => S0_.2.2.1 187 0 (12 * S0_.1 13 0 106 + ((cell : Nat) : Int)).toNat) c_.toNat) c_.toNat ((fun cell => (S0_.2.2.1 185 0 (12 * S0_.1 13 0 106 + ((cell : Nat) : Int)).toNat).toNat) c_.toNat) C9_) ((u_ + 1).toNat) (cfo (wcl adr (pcq F_ S0_) (hrf (fun cell => S0_.2.2.1 186 0 (12 * S0_.1 13 0 106 + ((cell : Nat) : Int)).toNat) B9_ C9_ 0) (fun cell => S0_.2.2.1 187 0 (12 * S0_.1 13 0 106 + ((cell : Nat) : Int)).toNat) (fun cell => (S0_.2.2.1 185 0 (12 * S0_.1 13 0 106 + ((cell : Nat) : Int)).toNat).toNat) C9_ (crn (fun x_ => decide (F_ ≤ (x_ : Int) ∧ S0_.2.2.1 203 0 x_ = 0)) (fun x_ => (S0_.2.2.1 199 0 x_ / 2).toNat) (fun x_ => (S0_.2.2.1 200 0 x_ / 2).toNat) n_.toNat m9_).length) (c_.toNat) (1000000000, -1, 0, fun _ => 0))) := by (have z9_ := X116_.1; rw [show (u_ + 1).toNat = u_.toNat + 1 by omega, cfo_s, wct_y (Q_ := C9_) (i_ := u_.toNat) lq9_]; rw [lq9_]; rw [show c_ = ((c_.toNat : Nat) : Int) by omega] at z9_; rw [Int.toNat_natCast] at z9_; exact z9_)
          have B116_ : wrr Sx5_ (2 * n_ + 1).toNat (cfo (wct adr (pcq F_ S0_) ((hrf (fun cell => S0_.2.2.1 186 0 (12 * S0_.1 13 0 106 + ((cell : Nat) : Int)).toNat) B9_ C9_ 1) c_.toNat) ((fun cell => S0_.2.2.1 187 0 (12 * S0_.1 13 0 106 + ((cell : Nat) : Int)).toNat) c_.toNat) c_.toNat ((fun cell => (S0_.2.2.1 185 0 (12 * S0_.1 13 0 106 + ((cell : Nat) : Int)).toNat).toNat) c_.toNat) C9_) ((u_ + 1).toNat) (cfo (wcl adr (pcq F_ S0_) (hrf (fun cell => S0_.2.2.1 186 0 (12 * S0_.1 13 0 106 + ((cell : Nat) : Int)).toNat) B9_ C9_ 1) (fun cell => S0_.2.2.1 187 0 (12 * S0_.1 13 0 106 + ((cell : Nat) : Int)).toNat) (fun cell => (S0_.2.2.1 185 0 (12 * S0_.1 13 0 106 + ((cell : Nat) : Int)).toNat).toNat) C9_ (crn (fun x_ => decide (F_ ≤ (x_ : Int) ∧ S0_.2.2.1 203 0 x_ = 0)) (fun x_ => (S0_.2.2.1 199 0 x_ / 2).toNat) (fun x_ => (S0_.2.2.1 200 0 x_ / 2).toNat) n_.toNat m9_).length) (c_.toNat) (1000000000, -1, 0, fun _ => 0))) := by (have z9_ := X116_.2; rw [show (u_ + 1).toNat = u_.toNat + 1 by omega, cfo_s, wct_y (Q_ := C9_) (i_ := u_.toNat) lq9_]; rw [lq9_]; rw [show c_ = ((c_.toNat : Nat) : Int) by omega] at z9_; rw [Int.toNat_natCast] at z9_; exact z9_)
          have q116_ := rwi_fr q9_ hFx7_
          have d116_ := hFx7_.1 13 0 127 rfl
          have v116_ : Sx5_.2.2.1 213 0 = S_.2.2.1 213 0 := fr_arr hFx7_ rfl
          have n116_ := hFx7_.1 13 0 114 rfl
          have u116_ : Sx5_.2.2.1 184 0 (Sx5_.1 13 0 106).toNat = S_.2.2.1 184 0 (S_.1 13 0 106).toNat := by (rw [fr_arr (t := 184) (i := 0) hFx7_ rfl, hFx7_.1 13 0 106 rfl])
          have c116_ : ctp (cnd9 n_ (S0_.2.2.1 202 0)) Sx5_ := ctp_fr hct_ hFx7_
          have y116_ : Sx5_.2.2.1 210 0 = S_.2.2.1 210 0 := fr_arr hFx7_ rfl
          have z116_ : Sx5_.2.2.1 211 0 = S_.2.2.1 211 0 := fr_arr hFx7_ rfl
          have x116_ : Sx5_.2.2.1 185 0 = S_.2.2.1 185 0 := fr_arr hFx7_ rfl
          have t116_ := hFx7_.1 13 0 106 rfl
          refine sm_T_inc (a := 4) (z := 1) (v := u_) (w := u_ + 1) rfl rfl (by omega) (by omega) (by omega) ?_ -- pc_ 119
          refine sm_T_go 1 (c1 := (90, [some (.inr (.inr (some (13, 0)))), some (.inl n_), some (.inl c_), some (.inl sz_), some (.inl (u_ + 1))], [], Sx5_)) rfl ?_
          refine ih_.2.2.1 c_ sz_ (u_ + 1) Sx5_ hIx6_ hFx9_ ⟨?_, ?_, ?_, ?_, ?_, ?_, ?_, ?_, trivial⟩ ?_
          · first | omega | (rw [u116_, x116_, t116_]; omega)
          · first | exact p116_.1 | exact k0_
          · first | exact p116_.2.1 | exact k1_
          · first | exact wf2_tr k2_ p116_.2.2 | exact k2_
          · first | exact c116_ | exact hct_
          · first | exact ⟨y116_.trans h4_.1, z116_.trans h4_.2⟩ | exact h4_
          · first | (have y8_ := A116_; rw [← n116_] at q116_; exact ⟨m9_, C9_, B9_, q116_, A116_, B116_⟩) | (refine ⟨m9_, C9_, B9_, q9_, ?_, ?_⟩; (rw [show (u_ + 1).toNat = u_.toNat + 1 by omega, cfo_s, wct_n (Q_ := C9_) (i_ := u_.toNat) (show ¬ (S0_.2.2.1 185 0 (12 * S0_.1 13 0 106 + ((c_.toNat : Nat) : Int)).toNat).toNat = (C9_ u_.toNat).length from fun u9_ => by (have z9_ := y9_.2.1; have z8_ := y9_.1.1; rw [← f185_, ← g106_, show ((c_.toNat : Nat) : Int) = c_ by omega] at u9_; omega))]; exact r9_); (rw [show (u_ + 1).toNat = u_.toNat + 1 by omega, cfo_s, wct_n (Q_ := C9_) (i_ := u_.toNat) (show ¬ (S0_.2.2.1 185 0 (12 * S0_.1 13 0 106 + ((c_.toNat : Nat) : Int)).toNat).toNat = (C9_ u_.toNat).length from fun u9_ => by (have z9_ := y9_.2.1; have z8_ := y9_.1.1; rw [← f185_, ← g106_, show ((c_.toNat : Nat) : Int) = c_ by omega] at u9_; omega))]; exact k9x))
          · first | (have y8_ := A116_; rw [d116_, v116_]; exact hrd_) | exact hrd_
          · omega
    · rintro t_ S_ hI_ hF_ ⟨h0_, hz_, h5_, hX_, hrd_, hnx_, -⟩ hm_
      have f199_ : S_.2.2.1 199 0 = S0_.2.2.1 199 0 := fr_arr hF_ rfl
      have f200_ : S_.2.2.1 200 0 = S0_.2.2.1 200 0 := fr_arr hF_ rfl
      have f185_ : S_.2.2.1 185 0 = S0_.2.2.1 185 0 := fr_arr hF_ rfl
      have f186_ : S_.2.2.1 186 0 = S0_.2.2.1 186 0 := fr_arr hF_ rfl
      have f187_ : S_.2.2.1 187 0 = S0_.2.2.1 187 0 := fr_arr hF_ rfl
      have c184_ : 0 ≤ S_.2.2.1 184 0 (S_.1 13 0 106).toNat ∧ S_.2.2.1 184 0 (S_.1 13 0 106).toNat ≤ 12 := hI_.2 184 0 _
      have f184_ : S_.2.2.1 184 0 = S0_.2.2.1 184 0 := fr_arr hF_ rfl
      have g106_ : S_.1 13 0 106 = S0_.1 13 0 106 := hF_.1 13 0 106 rfl
      have f160_ : S_.2.2.1 160 0 (S_.1 13 0 105).toNat = F_ := by (rw [hF_.1 13 0 105 rfl, fr_arr (t := 160) (i := 0) hF_ rfl]; exact hf_)
      have f202_ : S_.2.2.1 202 0 = S0_.2.2.1 202 0 := fr_arr hF_ rfl
      have b114_ : 0 ≤ S_.1 13 0 114 ∧ S_.1 13 0 114 ≤ 64 := hI_.1 13 0 114 rfl
      have b106_ : 0 ≤ S_.1 13 0 106 ∧ S_.1 13 0 106 ≤ 2 := hI_.1 13 0 106 rfl
      have b108_ : 0 ≤ S_.1 13 0 108 ∧ S_.1 13 0 108 ≤ 1000000000 := hI_.1 13 0 108 rfl
      have c0_ : 0 ≤ S_.2.2.1 206 0 (2 * n_).toNat ∧ S_.2.2.1 206 0 (2 * n_).toNat ≤ 1000000000 := hI_.2 206 0 _
      have c1_ : 0 ≤ S_.2.2.1 206 0 (2 * n_ + 1).toNat ∧ S_.2.2.1 206 0 (2 * n_ + 1).toNat ≤ 1000000000 := hI_.2 206 0 _
      refine sm_T_go 2 (c1 := (135, [some (.inr (.inr (some (13, 0)))), some (.inl n_), some (.inl t_), none, none], [.inl 2, .inl t_], S_)) rfl ?_
      refine sm_T_br (a := 3) (z := 101) rfl (fun cx1_ => ?_) (fun cx1_ => ?_)
      · have cx1_ : 2 ≤ t_ := of_decide_eq_true cx1_
        refine sm_T_rv rfl ⟨_, _, rfl, rfl, hI_, hF_, ?_⟩
        have n0_ := hz_.2.2 0 (by omega) (by omega)
        have n1_ := hz_.2.2 1 (by omega) (by omega)
        rw [show 2 * n_ + 0 = 2 * n_ by omega, show 2 * n_ + 1 - 0 = 2 * n_ + 1 by omega] at n0_
        rw [show 2 * n_ + 1 - 1 = 2 * n_ by omega] at n1_
        obtain ⟨m9_, Q9x, B9_, q1_, q2_, q3_, q4_, r9_, s9_⟩ := hX_
        have x0_ := hnx_ 0 (by omega) (by omega)
        have x1_ := hnx_ 1 (by omega) (by omega)
        rw [show 2 * n_ + 0 = 2 * n_ by omega, show 2 * n_ + 1 - 0 = 2 * n_ + 1 by omega] at x0_
        rw [show 2 * n_ + 1 - 1 = 2 * n_ by omega] at x1_
        exact ⟨⟨⟨hz_.1, hz_.2.1, n0_, n1_⟩, h5_⟩, hrd_, m9_, Q9x, B9_, q1_, q2_, q3_, q4_, fnr_of x0_ r9_ s9_, fnr_of x1_ s9_ r9_⟩
      · have cx1_ : ¬ (2 ≤ t_) := of_decide_eq_false cx1_
        have cX_ : 0 ≤ S_.2.2.1 206 0 (2 * n_ - t_ + 1).toNat ∧ S_.2.2.1 206 0 (2 * n_ - t_ + 1).toNat ≤ 1000000000 := hI_.2 206 0 _
        have cZ_ : 0 ≤ S_.2.2.1 206 0 (2 * n_ + t_).toNat ∧ S_.2.2.1 206 0 (2 * n_ + t_).toNat ≤ 1000000000 := hI_.2 206 0 _
        have L9_ : l_0 (l_i2l (S_.2.2.1 206 0 (2 * n_ - t_ + 1).toNat)) (l_i2l (S_.1 13 0 108)) = S_.2.2.1 206 0 (2 * n_ - t_ + 1).toNat + S_.1 13 0 108 := by (rw [l_i2l_s (x := S_.2.2.1 206 0 (2 * n_ - t_ + 1).toNat) (by omega) (by omega)]; exact l_0_s (by omega) (by omega))
        have L8_ : l_i2l (S_.2.2.1 206 0 (2 * n_ + t_).toNat) = S_.2.2.1 206 0 (2 * n_ + t_).toNat := l_i2l_s (by omega) (by omega)
        refine sm_T_go 4 (c1 := (144, [some (.inr (.inr (some (13, 0)))), some (.inl n_), some (.inl t_), none, none], [.inl n_, .inl 2, .inr (.inr (some (206, 0)))], S_)) rfl ?_
        refine sm_T_bin (w := 2 * n_) rfl (bi_mul (by omega) (by omega) (by omega)) ?_ -- pc_ 144
        refine sm_T_go 1 (c1 := (146, [some (.inr (.inr (some (13, 0)))), some (.inl n_), some (.inl t_), none, none], [.inl 1, .inl (2 * n_), .inr (.inr (some (206, 0)))], S_)) rfl ?_
        refine sm_T_bin (w := 2 * n_ + 1) rfl (bi_add (by omega) (by omega) (by omega)) ?_ -- pc_ 146
        refine sm_T_go 1 (c1 := (148, [some (.inr (.inr (some (13, 0)))), some (.inl n_), some (.inl t_), none, none], [.inl t_, .inl (2 * n_ + 1), .inr (.inr (some (206, 0)))], S_)) rfl ?_
        refine sm_T_bin (w := 2 * n_ - t_ + 1) rfl (bi_sub (by omega) (by omega) (by omega)) ?_ -- pc_ 148
        refine sm_T_iald (n := 4096) rfl rfl (by omega) (by omega) ?_
        have bx2_ : 0 ≤ S_.2.2.1 206 0 (2 * n_ - t_ + 1).toNat ∧ S_.2.2.1 206 0 (2 * n_ - t_ + 1).toNat ≤ 1000000000 := hI_.2 206 0 _
        have bx3_ : 0 ≤ S_.1 13 0 108 ∧ S_.1 13 0 108 ≤ 1000000000 := hI_.1 13 0 108 rfl
        refine sm_T_go 10 (c1 := (164, [some (.inr (.inr (some (13, 0)))), some (.inl n_), some (.inl t_), some (.inr (.inl (l_0 ((l_i2l (S_.2.2.1 206 0 (2 * n_ - t_ + 1).toNat))) ((l_i2l (S_.1 13 0 108)))))), none], [.inl n_, .inl 2, .inr (.inr (some (211, 0)))], S_)) rfl ?_
        refine sm_T_bin (w := 2 * n_) rfl (bi_mul (by omega) (by omega) (by omega)) ?_ -- pc_ 164
        refine sm_T_go 1 (c1 := (166, [some (.inr (.inr (some (13, 0)))), some (.inl n_), some (.inl t_), some (.inr (.inl (l_0 ((l_i2l (S_.2.2.1 206 0 (2 * n_ - t_ + 1).toNat))) ((l_i2l (S_.1 13 0 108)))))), none], [.inl t_, .inl (2 * n_), .inr (.inr (some (211, 0)))], S_)) rfl ?_
        refine sm_T_bin (w := 2 * n_ + t_) rfl (bi_add (by omega) (by omega) (by omega)) ?_ -- pc_ 166
        refine sm_T_go 5 (c1 := (174, [some (.inr (.inr (some (13, 0)))), some (.inl n_), some (.inl t_), some (.inr (.inl (l_0 ((l_i2l (S_.2.2.1 206 0 (2 * n_ - t_ + 1).toNat))) ((l_i2l (S_.1 13 0 108)))))), none], [.inl n_, .inl 2, .inr (.inr (some (206, 0))), .inr (.inl (l_0 ((l_i2l (S_.2.2.1 206 0 (2 * n_ - t_ + 1).toNat))) ((l_i2l (S_.1 13 0 108))))), .inl (2 * n_ + t_), .inr (.inr (some (211, 0)))], S_)) rfl ?_
        refine sm_T_bin (w := 2 * n_) rfl (bi_mul (by omega) (by omega) (by omega)) ?_ -- pc_ 174
        refine sm_T_go 1 (c1 := (176, [some (.inr (.inr (some (13, 0)))), some (.inl n_), some (.inl t_), some (.inr (.inl (l_0 ((l_i2l (S_.2.2.1 206 0 (2 * n_ - t_ + 1).toNat))) ((l_i2l (S_.1 13 0 108)))))), none], [.inl t_, .inl (2 * n_), .inr (.inr (some (206, 0))), .inr (.inl (l_0 ((l_i2l (S_.2.2.1 206 0 (2 * n_ - t_ + 1).toNat))) ((l_i2l (S_.1 13 0 108))))), .inl (2 * n_ + t_), .inr (.inr (some (211, 0)))], S_)) rfl ?_
        refine sm_T_bin (w := 2 * n_ + t_) rfl (bi_add (by omega) (by omega) (by omega)) ?_ -- pc_ 176
        refine sm_T_iald (n := 4096) rfl rfl (by omega) (by omega) ?_
        have bx4_ : 0 ≤ S_.2.2.1 206 0 (2 * n_ + t_).toNat ∧ S_.2.2.1 206 0 (2 * n_ + t_).toNat ≤ 1000000000 := hI_.2 206 0 _
        refine sm_T_go 2 (c1 := (180, [some (.inr (.inr (some (13, 0)))), some (.inl n_), some (.inl t_), some (.inr (.inl (l_0 ((l_i2l (S_.2.2.1 206 0 (2 * n_ - t_ + 1).toNat))) ((l_i2l (S_.1 13 0 108)))))), none], [.inl (sm_lcmp ((l_0 ((l_i2l (S_.2.2.1 206 0 (2 * n_ - t_ + 1).toNat))) ((l_i2l (S_.1 13 0 108))))) ((l_i2l (S_.2.2.1 206 0 (2 * n_ + t_).toNat)))), .inl (2 * n_ + t_), .inr (.inr (some (211, 0)))], S_)) rfl ?_
        refine sm_T_b0 (a := 3) (z := 7) rfl (fun cx5_ => ?_) (fun cx5_ => ?_)
        · have cx5_ : 0 ≤ (sm_lcmp ((l_0 ((l_i2l (S_.2.2.1 206 0 (2 * n_ - t_ + 1).toNat))) ((l_i2l (S_.1 13 0 108))))) ((l_i2l (S_.2.2.1 206 0 (2 * n_ + t_).toNat)))) := of_decide_eq_true cx5_
          have Q9_ : ¬ (S_.2.2.1 206 0 (2 * n_ - t_ + 1).toNat + S_.1 13 0 108 < S_.2.2.1 206 0 (2 * n_ + t_).toNat) := fun q8_ => by (have q9_ := lcmp_lt.mpr (show l_0 (l_i2l (S_.2.2.1 206 0 (2 * n_ - t_ + 1).toNat)) (l_i2l (S_.1 13 0 108)) < l_i2l (S_.2.2.1 206 0 (2 * n_ + t_).toNat) by (rw [L9_, L8_]; exact q8_)); omega)
          refine sm_T_go 1 (c1 := (188, [some (.inr (.inr (some (13, 0)))), some (.inl n_), some (.inl t_), some (.inr (.inl (l_0 ((l_i2l (S_.2.2.1 206 0 (2 * n_ - t_ + 1).toNat))) ((l_i2l (S_.1 13 0 108)))))), none], [.inl 0, .inl (2 * n_ + t_), .inr (.inr (some (211, 0)))], S_)) rfl ?_
          refine sm_T_zas1 (n := 4096) rfl rfl (by omega) (by omega) (by omega) ?_
          have hIx6_ : gi (sm_aI S_ 211 0 (2 * n_ + t_).toNat 0) := gi_aI hI_ (show 0 ≤ 0 ∧ 0 ≤ 1 from ⟨by omega, by omega⟩)
          have hFx7_ : ai_fr (sx_W vw_407n) S0_ (sm_aI S_ 211 0 (2 * n_ + t_).toNat 0) := ai_fr_tr hF_ (ai_fr_aI rfl)
          refine sm_T_go 4 (c1 := (195, [some (.inr (.inr (some (13, 0)))), some (.inl n_), some (.inl t_), some (.inr (.inl (l_0 ((l_i2l (S_.2.2.1 206 0 (2 * n_ - t_ + 1).toNat))) ((l_i2l (S_.1 13 0 108)))))), none], [.inl n_, .inl 2, .inr (.inr (some (210, 0)))], sm_aI S_ 211 0 (2 * n_ + t_).toNat 0)) rfl ?_
          refine sm_T_bin (w := 2 * n_) rfl (bi_mul (by omega) (by omega) (by omega)) ?_ -- pc_ 195
          refine sm_T_go 1 (c1 := (197, [some (.inr (.inr (some (13, 0)))), some (.inl n_), some (.inl t_), some (.inr (.inl (l_0 ((l_i2l (S_.2.2.1 206 0 (2 * n_ - t_ + 1).toNat))) ((l_i2l (S_.1 13 0 108)))))), none], [.inl t_, .inl (2 * n_), .inr (.inr (some (210, 0)))], sm_aI S_ 211 0 (2 * n_ + t_).toNat 0)) rfl ?_
          refine sm_T_bin (w := 2 * n_ + t_) rfl (bi_add (by omega) (by omega) (by omega)) ?_ -- pc_ 197
          refine sm_T_go 5 (c1 := (205, [some (.inr (.inr (some (13, 0)))), some (.inl n_), some (.inl t_), some (.inr (.inl (l_0 ((l_i2l (S_.2.2.1 206 0 (2 * n_ - t_ + 1).toNat))) ((l_i2l (S_.1 13 0 108)))))), none], [.inl n_, .inl 2, .inr (.inr (some (206, 0))), .inr (.inl (l_0 ((l_i2l (S_.2.2.1 206 0 (2 * n_ - t_ + 1).toNat))) ((l_i2l (S_.1 13 0 108))))), .inl (2 * n_ + t_), .inr (.inr (some (210, 0)))], sm_aI S_ 211 0 (2 * n_ + t_).toNat 0)) rfl ?_
          refine sm_T_bin (w := 2 * n_) rfl (bi_mul (by omega) (by omega) (by omega)) ?_ -- pc_ 205
          refine sm_T_go 1 (c1 := (207, [some (.inr (.inr (some (13, 0)))), some (.inl n_), some (.inl t_), some (.inr (.inl (l_0 ((l_i2l (S_.2.2.1 206 0 (2 * n_ - t_ + 1).toNat))) ((l_i2l (S_.1 13 0 108)))))), none], [.inl t_, .inl (2 * n_), .inr (.inr (some (206, 0))), .inr (.inl (l_0 ((l_i2l (S_.2.2.1 206 0 (2 * n_ - t_ + 1).toNat))) ((l_i2l (S_.1 13 0 108))))), .inl (2 * n_ + t_), .inr (.inr (some (210, 0)))], sm_aI S_ 211 0 (2 * n_ + t_).toNat 0)) rfl ?_
          refine sm_T_bin (w := 2 * n_ + t_) rfl (bi_add (by omega) (by omega) (by omega)) ?_ -- pc_ 207
          refine sm_T_iald (n := 4096) rfl rfl (by omega) (by omega) ?_
          refine sm_T_go 2 (c1 := (211, [some (.inr (.inr (some (13, 0)))), some (.inl n_), some (.inl t_), some (.inr (.inl (l_0 ((l_i2l (S_.2.2.1 206 0 (2 * n_ - t_ + 1).toNat))) ((l_i2l (S_.1 13 0 108)))))), none], [.inl (sm_lcmp ((l_0 ((l_i2l (S_.2.2.1 206 0 (2 * n_ - t_ + 1).toNat))) ((l_i2l (S_.1 13 0 108))))) ((l_i2l (S_.2.2.1 206 0 (2 * n_ + t_).toNat)))), .inl (2 * n_ + t_), .inr (.inr (some (210, 0)))], sm_aI S_ 211 0 (2 * n_ + t_).toNat 0)) rfl ?_
          refine sm_T_b0 (a := 3) (z := 8) rfl (fun cx8_ => ?_) (fun cx8_ => ?_)
          · have cx8_ : 0 ≤ (sm_lcmp ((l_0 ((l_i2l (S_.2.2.1 206 0 (2 * n_ - t_ + 1).toNat))) ((l_i2l (S_.1 13 0 108))))) ((l_i2l (S_.2.2.1 206 0 (2 * n_ + t_).toNat)))) := of_decide_eq_true cx8_
            have Q8_ : ¬ (S_.2.2.1 206 0 (2 * n_ - t_ + 1).toNat + S_.1 13 0 108 < S_.2.2.1 206 0 (2 * n_ + t_).toNat) := fun q8_ => by (have q9_ := lcmp_lt.mpr (show l_0 (l_i2l (S_.2.2.1 206 0 (2 * n_ - t_ + 1).toNat)) (l_i2l (S_.1 13 0 108)) < l_i2l (S_.2.2.1 206 0 (2 * n_ + t_).toNat) by (rw [L9_, L8_]; exact q8_)); omega)
            refine sm_T_go 4 (c1 := (225, [some (.inr (.inr (some (13, 0)))), some (.inl n_), some (.inl t_), some (.inr (.inl (l_0 ((l_i2l (S_.2.2.1 206 0 (2 * n_ - t_ + 1).toNat))) ((l_i2l (S_.1 13 0 108)))))), none], [.inl n_, .inl 2, .inr (.inr (some (206, 0))), .inl (2 * n_ + t_), .inr (.inr (some (210, 0)))], sm_aI S_ 211 0 (2 * n_ + t_).toNat 0)) rfl ?_
            refine sm_T_bin (w := 2 * n_) rfl (bi_mul (by omega) (by omega) (by omega)) ?_ -- pc_ 225
            refine sm_T_go 1 (c1 := (227, [some (.inr (.inr (some (13, 0)))), some (.inl n_), some (.inl t_), some (.inr (.inl (l_0 ((l_i2l (S_.2.2.1 206 0 (2 * n_ - t_ + 1).toNat))) ((l_i2l (S_.1 13 0 108)))))), none], [.inl t_, .inl (2 * n_), .inr (.inr (some (206, 0))), .inl (2 * n_ + t_), .inr (.inr (some (210, 0)))], sm_aI S_ 211 0 (2 * n_ + t_).toNat 0)) rfl ?_
            refine sm_T_bin (w := 2 * n_ + t_) rfl (bi_add (by omega) (by omega) (by omega)) ?_ -- pc_ 227
            refine sm_T_iald (n := 4096) rfl rfl (by omega) (by omega) ?_
            refine sm_T_go 0 (c1 := (229, [some (.inr (.inr (some (13, 0)))), some (.inl n_), some (.inl t_), some (.inr (.inl (l_0 ((l_i2l (S_.2.2.1 206 0 (2 * n_ - t_ + 1).toNat))) ((l_i2l (S_.1 13 0 108)))))), none], [.inl (S_.2.2.1 206 0 (2 * n_ + t_).toNat), .inl (2 * n_ + t_), .inr (.inr (some (210, 0)))], sm_aI S_ 211 0 (2 * n_ + t_).toNat 0)) rfl ?_
            refine sm_T_iast (n := 4096) rfl rfl (by omega) (by omega) ?_
            have hIx9_ : gi (sm_aI (sm_aI S_ 211 0 (2 * n_ + t_).toNat 0) 210 0 (2 * n_ + t_).toNat (S_.2.2.1 206 0 (2 * n_ + t_).toNat)) := gi_aI hIx6_ (show 0 ≤ (S_.2.2.1 206 0 (2 * n_ + t_).toNat) ∧ (S_.2.2.1 206 0 (2 * n_ + t_).toNat) ≤ 1000000000 from ⟨by omega, by omega⟩)
            have hFx10_ : ai_fr (sx_W vw_407n) S0_ (sm_aI (sm_aI S_ 211 0 (2 * n_ + t_).toNat 0) 210 0 (2 * n_ + t_).toNat (S_.2.2.1 206 0 (2 * n_ + t_).toNat)) := ai_fr_tr hFx7_ (ai_fr_aI rfl)
            refine sm_T_inc (a := 2) (z := 1) (v := t_) (w := t_ + 1) rfl rfl (by omega) (by omega) (by omega) ?_ -- pc_ 230
            refine sm_T_go 1 (c1 := (133, [some (.inr (.inr (some (13, 0)))), some (.inl n_), some (.inl (t_ + 1)), some (.inr (.inl (l_0 ((l_i2l (S_.2.2.1 206 0 (2 * n_ - t_ + 1).toNat))) ((l_i2l (S_.1 13 0 108)))))), none], [], sm_aI (sm_aI S_ 211 0 (2 * n_ + t_).toNat 0) 210 0 (2 * n_ + t_).toNat (S_.2.2.1 206 0 (2 * n_ + t_).toNat))) rfl ?_
            refine sm_T_wk [some (.inr (.inr (some (13, 0)))), some (.inl n_), some (.inl (t_ + 1)), none, none] (by exact ⟨rfl, rfl, rfl, trivial⟩) ?_
            refine ih_.2.2.2 (t_ + 1) (sm_aI (sm_aI S_ 211 0 (2 * n_ + t_).toNat 0) 210 0 (2 * n_ + t_).toNat (S_.2.2.1 206 0 (2 * n_ + t_).toNat)) hIx9_ hFx10_ ⟨?_, ?_, ?_, ?_, ?_, ?_, trivial⟩ ?_
            · omega
            · have K9_ : ∀ l9_ : Int, 0 ≤ l9_ → wyc F_ n_ S_ l9_ → wyc F_ n_ ((sm_aI (sm_aI S_ 211 0 (2 * n_ + t_).toNat 0) 210 0 (2 * n_ + t_).toNat (S_.2.2.1 206 0 (2 * n_ + t_).toNat))) l9_ := fun l9_ u0_ u1_ => wyc_cg hIx9_ u1_ u0_ (by (try simp only [rd_eq, rd_ne, rf_eq, rf_nk, rf_nt, rd_fa, rd_af, rd_fl, rd_al, rd_lf, rd_la, rd_leq, rd_lne, rd_fr, rd_ar, ne_eq, Nat.reduceEqDiff, not_false_eq_true])) (by (try simp only [rd_eq, rd_ne, rf_eq, rf_nk, rf_nt, rd_fa, rd_af, rd_fl, rd_al, rd_lf, rd_la, rd_leq, rd_lne, rd_fr, rd_ar, ne_eq, Nat.reduceEqDiff, not_false_eq_true])) (by (try simp only [rd_eq, rd_ne, rf_eq, rf_nk, rf_nt, rd_fa, rd_af, rd_fl, rd_al, rd_lf, rd_la, rd_leq, rd_lne, rd_fr, rd_ar, ne_eq, Nat.reduceEqDiff, not_false_eq_true])) (fun k9_ _ _ => by (try simp only [rd_eq, rd_ne, rf_eq, rf_nk, rf_nt, rd_fa, rd_af, rd_fl, rd_al, rd_lf, rd_la, rd_leq, rd_lne, rd_fr, rd_ar, ne_eq, Nat.reduceEqDiff, not_false_eq_true])) (by (funext j9_; (try simp only [rd_eq, rd_ne, rf_eq, rf_nk, rf_nt, rd_fa, rd_af, rd_fl, rd_al, rd_lf, rd_la, rd_leq, rd_lne, rd_fr, rd_ar, ne_eq, Nat.reduceEqDiff, not_false_eq_true]))) (by (try simp only [rd_eq, rd_ne, rf_eq, rf_nk, rf_nt, rd_fa, rd_af, rd_fl, rd_al, rd_lf, rd_la, rd_leq, rd_lne, rd_fr, rd_ar, ne_eq, Nat.reduceEqDiff, not_false_eq_true])) (by (funext j9_; (try simp only [rd_eq, rd_ne, rf_eq, rf_nk, rf_nt, rd_fa, rd_af, rd_fl, rd_al, rd_lf, rd_la, rd_leq, rd_lne, rd_fr, rd_ar, ne_eq, Nat.reduceEqDiff, not_false_eq_true]))) (fun x9_ t9_ a9_ b9_ c9_ d9_ => by (have q9_ : (2 * x9_ + t9_).toNat ≠ (2 * n_ + t_).toNat := (by omega); unfold cst; (try simp only [rd_eq, rd_ne, rf_eq, rf_nk, rf_nt, rd_fa, rd_af, rd_fl, rd_al, rd_lf, rd_la, rd_leq, rd_lne, rd_fr, rd_ar, ne_eq, Nat.reduceEqDiff, not_false_eq_true]); rw [if_neg q9_]))
              refine ⟨K9_ _ (by omega) hz_.1, K9_ _ (by omega) hz_.2.1, fun s9_ u0_ u1_ => ?_⟩
              unfold ned
              (try simp only [rd_eq, rd_ne, rf_eq, rf_nk, rf_nt, rd_fa, rd_af, rd_fl, rd_al, rd_lf, rd_la, rd_leq, rd_lne, rd_fr, rd_ar, ne_eq, Nat.reduceEqDiff, not_false_eq_true])
              by_cases z9_ : s9_ = t_
              · rw [if_pos (by omega), if_pos (by omega), z9_, show (2 * n_ + 1 - t_).toNat = (2 * n_ - t_ + 1).toNat by omega]
                first | (left; exact ⟨rfl, by omega, by omega⟩) | (right; exact ⟨rfl, rfl⟩) | (exfalso; omega)
              · rw [if_neg (by omega), if_neg (by omega)]; exact hz_.2.2 s9_ u0_ (by omega)
            · (refine ⟨wf2_tr h5_.1 (wf2_fr (w_ := ([], [210, 211], [])) (ai_fr_tr (ai_fr_aI rfl) (ai_fr_aI rfl))), fun j9_ v9_ => ?_⟩; have y9_ := h5_.2 j9_ v9_; (try simp only [rd_eq, rd_ne, rf_eq, rf_nk, rf_nt, rd_fa, rd_af, rd_fl, rd_al, rd_lf, rd_la, rd_leq, rd_lne, rd_fr, rd_ar, ne_eq, Nat.reduceEqDiff, not_false_eq_true]); rw [if_neg (by omega), if_neg (by omega)]; exact y9_)
            · obtain ⟨m9_, Q9x, B9_, q1_, q2_, q3_, q4_, r9_, s9_⟩ := hX_
              exact ⟨m9_, Q9x, B9_, q1_, q2_, q3_, q4_, wrr_fr (u_ := ([], [210, 211], [])) r9_ (ai_fr_tr (ai_fr_aI rfl) (ai_fr_aI rfl)), wrr_fr (u_ := ([], [210, 211], [])) s9_ (ai_fr_tr (ai_fr_aI rfl) (ai_fr_aI rfl))⟩
            · ((try simp only [rd_eq, rd_ne, rf_eq, rf_nk, rf_nt, rd_fa, rd_af, rd_fl, rd_al, rd_lf, rd_la, rd_leq, rd_lne, rd_fr, rd_ar, ne_eq, Nat.reduceEqDiff, not_false_eq_true]); exact hrd_)
            · intro s9_ u0_ u1_
              unfold nex
              (try simp only [rd_eq, rd_ne, rf_eq, rf_nk, rf_nt, rd_fa, rd_af, rd_fl, rd_al, rd_lf, rd_la, rd_leq, rd_lne, rd_fr, rd_ar, ne_eq, Nat.reduceEqDiff, not_false_eq_true])
              by_cases z9_ : s9_ = t_
              · rw [if_pos (by omega), if_pos (by omega), z9_, show (2 * n_ + 1 - t_).toNat = (2 * n_ - t_ + 1).toNat by omega]
                first | (left; exact ⟨rfl, by omega, by omega⟩) | (right; exact ⟨rfl, by omega, rfl⟩) | (exfalso; omega)
              · rw [if_neg (by omega), if_neg (by omega)]; exact hnx_ s9_ u0_ (by omega)
            · omega
          · have cx8_ : ¬ (0 ≤ (sm_lcmp ((l_0 ((l_i2l (S_.2.2.1 206 0 (2 * n_ - t_ + 1).toNat))) ((l_i2l (S_.1 13 0 108))))) ((l_i2l (S_.2.2.1 206 0 (2 * n_ + t_).toNat))))) := of_decide_eq_false cx8_
            exfalso; omega
        · have cx5_ : ¬ (0 ≤ (sm_lcmp ((l_0 ((l_i2l (S_.2.2.1 206 0 (2 * n_ - t_ + 1).toNat))) ((l_i2l (S_.1 13 0 108))))) ((l_i2l (S_.2.2.1 206 0 (2 * n_ + t_).toNat))))) := of_decide_eq_false cx5_
          have Q9_ : S_.2.2.1 206 0 (2 * n_ - t_ + 1).toNat + S_.1 13 0 108 < S_.2.2.1 206 0 (2 * n_ + t_).toNat := by (have q9_ := lcmp_lt.mp (show sm_lcmp (l_0 (l_i2l (S_.2.2.1 206 0 (2 * n_ - t_ + 1).toNat)) (l_i2l (S_.1 13 0 108))) (l_i2l (S_.2.2.1 206 0 (2 * n_ + t_).toNat)) < 0 by omega); rw [L9_, L8_] at q9_; exact q9_)
          refine sm_T_go 2 (c1 := (188, [some (.inr (.inr (some (13, 0)))), some (.inl n_), some (.inl t_), some (.inr (.inl (l_0 ((l_i2l (S_.2.2.1 206 0 (2 * n_ - t_ + 1).toNat))) ((l_i2l (S_.1 13 0 108)))))), none], [.inl 1, .inl (2 * n_ + t_), .inr (.inr (some (211, 0)))], S_)) rfl ?_
          refine sm_T_zas1 (n := 4096) rfl rfl (by omega) (by omega) (by omega) ?_
          have hIx11_ : gi (sm_aI S_ 211 0 (2 * n_ + t_).toNat 1) := gi_aI hI_ (show 0 ≤ 1 ∧ 1 ≤ 1 from ⟨by omega, by omega⟩)
          have hFx12_ : ai_fr (sx_W vw_407n) S0_ (sm_aI S_ 211 0 (2 * n_ + t_).toNat 1) := ai_fr_tr hF_ (ai_fr_aI rfl)
          refine sm_T_go 4 (c1 := (195, [some (.inr (.inr (some (13, 0)))), some (.inl n_), some (.inl t_), some (.inr (.inl (l_0 ((l_i2l (S_.2.2.1 206 0 (2 * n_ - t_ + 1).toNat))) ((l_i2l (S_.1 13 0 108)))))), none], [.inl n_, .inl 2, .inr (.inr (some (210, 0)))], sm_aI S_ 211 0 (2 * n_ + t_).toNat 1)) rfl ?_
          refine sm_T_bin (w := 2 * n_) rfl (bi_mul (by omega) (by omega) (by omega)) ?_ -- pc_ 195
          refine sm_T_go 1 (c1 := (197, [some (.inr (.inr (some (13, 0)))), some (.inl n_), some (.inl t_), some (.inr (.inl (l_0 ((l_i2l (S_.2.2.1 206 0 (2 * n_ - t_ + 1).toNat))) ((l_i2l (S_.1 13 0 108)))))), none], [.inl t_, .inl (2 * n_), .inr (.inr (some (210, 0)))], sm_aI S_ 211 0 (2 * n_ + t_).toNat 1)) rfl ?_
          refine sm_T_bin (w := 2 * n_ + t_) rfl (bi_add (by omega) (by omega) (by omega)) ?_ -- pc_ 197
          refine sm_T_go 5 (c1 := (205, [some (.inr (.inr (some (13, 0)))), some (.inl n_), some (.inl t_), some (.inr (.inl (l_0 ((l_i2l (S_.2.2.1 206 0 (2 * n_ - t_ + 1).toNat))) ((l_i2l (S_.1 13 0 108)))))), none], [.inl n_, .inl 2, .inr (.inr (some (206, 0))), .inr (.inl (l_0 ((l_i2l (S_.2.2.1 206 0 (2 * n_ - t_ + 1).toNat))) ((l_i2l (S_.1 13 0 108))))), .inl (2 * n_ + t_), .inr (.inr (some (210, 0)))], sm_aI S_ 211 0 (2 * n_ + t_).toNat 1)) rfl ?_
          refine sm_T_bin (w := 2 * n_) rfl (bi_mul (by omega) (by omega) (by omega)) ?_ -- pc_ 205
          refine sm_T_go 1 (c1 := (207, [some (.inr (.inr (some (13, 0)))), some (.inl n_), some (.inl t_), some (.inr (.inl (l_0 ((l_i2l (S_.2.2.1 206 0 (2 * n_ - t_ + 1).toNat))) ((l_i2l (S_.1 13 0 108)))))), none], [.inl t_, .inl (2 * n_), .inr (.inr (some (206, 0))), .inr (.inl (l_0 ((l_i2l (S_.2.2.1 206 0 (2 * n_ - t_ + 1).toNat))) ((l_i2l (S_.1 13 0 108))))), .inl (2 * n_ + t_), .inr (.inr (some (210, 0)))], sm_aI S_ 211 0 (2 * n_ + t_).toNat 1)) rfl ?_
          refine sm_T_bin (w := 2 * n_ + t_) rfl (bi_add (by omega) (by omega) (by omega)) ?_ -- pc_ 207
          refine sm_T_iald (n := 4096) rfl rfl (by omega) (by omega) ?_
          refine sm_T_go 2 (c1 := (211, [some (.inr (.inr (some (13, 0)))), some (.inl n_), some (.inl t_), some (.inr (.inl (l_0 ((l_i2l (S_.2.2.1 206 0 (2 * n_ - t_ + 1).toNat))) ((l_i2l (S_.1 13 0 108)))))), none], [.inl (sm_lcmp ((l_0 ((l_i2l (S_.2.2.1 206 0 (2 * n_ - t_ + 1).toNat))) ((l_i2l (S_.1 13 0 108))))) ((l_i2l (S_.2.2.1 206 0 (2 * n_ + t_).toNat)))), .inl (2 * n_ + t_), .inr (.inr (some (210, 0)))], sm_aI S_ 211 0 (2 * n_ + t_).toNat 1)) rfl ?_
          refine sm_T_b0 (a := 3) (z := 8) rfl (fun cx13_ => ?_) (fun cx13_ => ?_)
          · have cx13_ : 0 ≤ (sm_lcmp ((l_0 ((l_i2l (S_.2.2.1 206 0 (2 * n_ - t_ + 1).toNat))) ((l_i2l (S_.1 13 0 108))))) ((l_i2l (S_.2.2.1 206 0 (2 * n_ + t_).toNat)))) := of_decide_eq_true cx13_
            exfalso; omega
          · have cx13_ : ¬ (0 ≤ (sm_lcmp ((l_0 ((l_i2l (S_.2.2.1 206 0 (2 * n_ - t_ + 1).toNat))) ((l_i2l (S_.1 13 0 108))))) ((l_i2l (S_.2.2.1 206 0 (2 * n_ + t_).toNat))))) := of_decide_eq_false cx13_
            have Q8_ : S_.2.2.1 206 0 (2 * n_ - t_ + 1).toNat + S_.1 13 0 108 < S_.2.2.1 206 0 (2 * n_ + t_).toNat := by (have q9_ := lcmp_lt.mp (show sm_lcmp (l_0 (l_i2l (S_.2.2.1 206 0 (2 * n_ - t_ + 1).toNat)) (l_i2l (S_.1 13 0 108))) (l_i2l (S_.2.2.1 206 0 (2 * n_ + t_).toNat)) < 0 by omega); rw [L9_, L8_] at q9_; exact q9_)
            have L7_ : l_l2i (l_0 (l_i2l (S_.2.2.1 206 0 (2 * n_ - t_ + 1).toNat)) (l_i2l (S_.1 13 0 108))) = S_.2.2.1 206 0 (2 * n_ - t_ + 1).toNat + S_.1 13 0 108 := by (rw [L9_]; exact l2i_s (by omega))
            have bx14_ := l_l2i_n ((l_0 ((l_i2l (S_.2.2.1 206 0 (2 * n_ - t_ + 1).toNat))) ((l_i2l (S_.1 13 0 108)))))
            refine sm_T_go 3 (c1 := (229, [some (.inr (.inr (some (13, 0)))), some (.inl n_), some (.inl t_), some (.inr (.inl (l_0 ((l_i2l (S_.2.2.1 206 0 (2 * n_ - t_ + 1).toNat))) ((l_i2l (S_.1 13 0 108)))))), none], [.inl (l_l2i ((l_0 ((l_i2l (S_.2.2.1 206 0 (2 * n_ - t_ + 1).toNat))) ((l_i2l (S_.1 13 0 108)))))), .inl (2 * n_ + t_), .inr (.inr (some (210, 0)))], sm_aI S_ 211 0 (2 * n_ + t_).toNat 1)) rfl ?_
            refine sm_T_iast (n := 4096) rfl rfl (by omega) (by omega) ?_
            have hIx15_ : gi (sm_aI (sm_aI S_ 211 0 (2 * n_ + t_).toNat 1) 210 0 (2 * n_ + t_).toNat (l_l2i ((l_0 ((l_i2l (S_.2.2.1 206 0 (2 * n_ - t_ + 1).toNat))) ((l_i2l (S_.1 13 0 108))))))) := gi_aI hIx11_ (show 0 ≤ (l_l2i ((l_0 ((l_i2l (S_.2.2.1 206 0 (2 * n_ - t_ + 1).toNat))) ((l_i2l (S_.1 13 0 108)))))) ∧ (l_l2i ((l_0 ((l_i2l (S_.2.2.1 206 0 (2 * n_ - t_ + 1).toNat))) ((l_i2l (S_.1 13 0 108)))))) ≤ 1000000000 from ⟨by omega, by omega⟩)
            have hFx16_ : ai_fr (sx_W vw_407n) S0_ (sm_aI (sm_aI S_ 211 0 (2 * n_ + t_).toNat 1) 210 0 (2 * n_ + t_).toNat (l_l2i ((l_0 ((l_i2l (S_.2.2.1 206 0 (2 * n_ - t_ + 1).toNat))) ((l_i2l (S_.1 13 0 108))))))) := ai_fr_tr hFx12_ (ai_fr_aI rfl)
            refine sm_T_inc (a := 2) (z := 1) (v := t_) (w := t_ + 1) rfl rfl (by omega) (by omega) (by omega) ?_ -- pc_ 230
            refine sm_T_go 1 (c1 := (133, [some (.inr (.inr (some (13, 0)))), some (.inl n_), some (.inl (t_ + 1)), some (.inr (.inl (l_0 ((l_i2l (S_.2.2.1 206 0 (2 * n_ - t_ + 1).toNat))) ((l_i2l (S_.1 13 0 108)))))), none], [], sm_aI (sm_aI S_ 211 0 (2 * n_ + t_).toNat 1) 210 0 (2 * n_ + t_).toNat (l_l2i ((l_0 ((l_i2l (S_.2.2.1 206 0 (2 * n_ - t_ + 1).toNat))) ((l_i2l (S_.1 13 0 108)))))))) rfl ?_
            refine sm_T_wk [some (.inr (.inr (some (13, 0)))), some (.inl n_), some (.inl (t_ + 1)), none, none] (by exact ⟨rfl, rfl, rfl, trivial⟩) ?_
            refine ih_.2.2.2 (t_ + 1) (sm_aI (sm_aI S_ 211 0 (2 * n_ + t_).toNat 1) 210 0 (2 * n_ + t_).toNat (l_l2i ((l_0 ((l_i2l (S_.2.2.1 206 0 (2 * n_ - t_ + 1).toNat))) ((l_i2l (S_.1 13 0 108))))))) hIx15_ hFx16_ ⟨?_, ?_, ?_, ?_, ?_, ?_, trivial⟩ ?_
            · omega
            · have K9_ : ∀ l9_ : Int, 0 ≤ l9_ → wyc F_ n_ S_ l9_ → wyc F_ n_ ((sm_aI (sm_aI S_ 211 0 (2 * n_ + t_).toNat 1) 210 0 (2 * n_ + t_).toNat (l_l2i ((l_0 ((l_i2l (S_.2.2.1 206 0 (2 * n_ - t_ + 1).toNat))) ((l_i2l (S_.1 13 0 108)))))))) l9_ := fun l9_ u0_ u1_ => wyc_cg hIx15_ u1_ u0_ (by (try simp only [rd_eq, rd_ne, rf_eq, rf_nk, rf_nt, rd_fa, rd_af, rd_fl, rd_al, rd_lf, rd_la, rd_leq, rd_lne, rd_fr, rd_ar, ne_eq, Nat.reduceEqDiff, not_false_eq_true])) (by (try simp only [rd_eq, rd_ne, rf_eq, rf_nk, rf_nt, rd_fa, rd_af, rd_fl, rd_al, rd_lf, rd_la, rd_leq, rd_lne, rd_fr, rd_ar, ne_eq, Nat.reduceEqDiff, not_false_eq_true])) (by (try simp only [rd_eq, rd_ne, rf_eq, rf_nk, rf_nt, rd_fa, rd_af, rd_fl, rd_al, rd_lf, rd_la, rd_leq, rd_lne, rd_fr, rd_ar, ne_eq, Nat.reduceEqDiff, not_false_eq_true])) (fun k9_ _ _ => by (try simp only [rd_eq, rd_ne, rf_eq, rf_nk, rf_nt, rd_fa, rd_af, rd_fl, rd_al, rd_lf, rd_la, rd_leq, rd_lne, rd_fr, rd_ar, ne_eq, Nat.reduceEqDiff, not_false_eq_true])) (by (funext j9_; (try simp only [rd_eq, rd_ne, rf_eq, rf_nk, rf_nt, rd_fa, rd_af, rd_fl, rd_al, rd_lf, rd_la, rd_leq, rd_lne, rd_fr, rd_ar, ne_eq, Nat.reduceEqDiff, not_false_eq_true]))) (by (try simp only [rd_eq, rd_ne, rf_eq, rf_nk, rf_nt, rd_fa, rd_af, rd_fl, rd_al, rd_lf, rd_la, rd_leq, rd_lne, rd_fr, rd_ar, ne_eq, Nat.reduceEqDiff, not_false_eq_true])) (by (funext j9_; (try simp only [rd_eq, rd_ne, rf_eq, rf_nk, rf_nt, rd_fa, rd_af, rd_fl, rd_al, rd_lf, rd_la, rd_leq, rd_lne, rd_fr, rd_ar, ne_eq, Nat.reduceEqDiff, not_false_eq_true]))) (fun x9_ t9_ a9_ b9_ c9_ d9_ => by (have q9_ : (2 * x9_ + t9_).toNat ≠ (2 * n_ + t_).toNat := (by omega); unfold cst; (try simp only [rd_eq, rd_ne, rf_eq, rf_nk, rf_nt, rd_fa, rd_af, rd_fl, rd_al, rd_lf, rd_la, rd_leq, rd_lne, rd_fr, rd_ar, ne_eq, Nat.reduceEqDiff, not_false_eq_true]); rw [if_neg q9_]))
              refine ⟨K9_ _ (by omega) hz_.1, K9_ _ (by omega) hz_.2.1, fun s9_ u0_ u1_ => ?_⟩
              unfold ned
              (try simp only [rd_eq, rd_ne, rf_eq, rf_nk, rf_nt, rd_fa, rd_af, rd_fl, rd_al, rd_lf, rd_la, rd_leq, rd_lne, rd_fr, rd_ar, ne_eq, Nat.reduceEqDiff, not_false_eq_true])
              by_cases z9_ : s9_ = t_
              · rw [if_pos (by omega), if_pos (by omega), z9_, show (2 * n_ + 1 - t_).toNat = (2 * n_ - t_ + 1).toNat by omega]
                first | (left; exact ⟨rfl, by omega, by omega⟩) | (right; exact ⟨rfl, rfl⟩) | (exfalso; omega)
              · rw [if_neg (by omega), if_neg (by omega)]; exact hz_.2.2 s9_ u0_ (by omega)
            · (refine ⟨wf2_tr h5_.1 (wf2_fr (w_ := ([], [210, 211], [])) (ai_fr_tr (ai_fr_aI rfl) (ai_fr_aI rfl))), fun j9_ v9_ => ?_⟩; have y9_ := h5_.2 j9_ v9_; (try simp only [rd_eq, rd_ne, rf_eq, rf_nk, rf_nt, rd_fa, rd_af, rd_fl, rd_al, rd_lf, rd_la, rd_leq, rd_lne, rd_fr, rd_ar, ne_eq, Nat.reduceEqDiff, not_false_eq_true]); rw [if_neg (by omega), if_neg (by omega)]; exact y9_)
            · obtain ⟨m9_, Q9x, B9_, q1_, q2_, q3_, q4_, r9_, s9_⟩ := hX_
              exact ⟨m9_, Q9x, B9_, q1_, q2_, q3_, q4_, wrr_fr (u_ := ([], [210, 211], [])) r9_ (ai_fr_tr (ai_fr_aI rfl) (ai_fr_aI rfl)), wrr_fr (u_ := ([], [210, 211], [])) s9_ (ai_fr_tr (ai_fr_aI rfl) (ai_fr_aI rfl))⟩
            · ((try simp only [rd_eq, rd_ne, rf_eq, rf_nk, rf_nt, rd_fa, rd_af, rd_fl, rd_al, rd_lf, rd_la, rd_leq, rd_lne, rd_fr, rd_ar, ne_eq, Nat.reduceEqDiff, not_false_eq_true]); exact hrd_)
            · intro s9_ u0_ u1_
              unfold nex
              (try simp only [rd_eq, rd_ne, rf_eq, rf_nk, rf_nt, rd_fa, rd_af, rd_fl, rd_al, rd_lf, rd_la, rd_leq, rd_lne, rd_fr, rd_ar, ne_eq, Nat.reduceEqDiff, not_false_eq_true])
              by_cases z9_ : s9_ = t_
              · rw [if_pos (by omega), if_pos (by omega), z9_, show (2 * n_ + 1 - t_).toNat = (2 * n_ - t_ + 1).toNat by omega]
                first | (left; exact ⟨rfl, by omega, by omega⟩) | (right; exact ⟨rfl, by omega, rfl⟩) | (exfalso; omega)
              · rw [if_neg (by omega), if_neg (by omega)]; exact hnx_ s9_ u0_ (by omega)
            · omega
set_option maxHeartbeats 4000000 in
set_option maxRecDepth 20000 in
theorem vc_407n {sc_ : Nat × (Nat → Int)} (n_ : Int) (F_ : Int) (N_ : Int) (T_ : Nat → Prop) (S0_ : sm_S) (hI_ : gi S0_) (hdf_ : ∀ x_ : Int, F_ ≤ x_ → x_ < N_ → S0_.2.2.1 202 0 x_.toNat = 1 → S0_.2.2.1 199 0 x_.toNat / 2 ≠ S0_.2.2.1 200 0 x_.toNat / 2) (hlm_ : ∀ m_ : Nat, (crn (fun x_ => decide (F_ ≤ (x_ : Int) ∧ S0_.2.2.1 203 0 x_ = 0)) (fun x_ => (S0_.2.2.1 199 0 x_ / 2).toNat) (fun x_ => (S0_.2.2.1 200 0 x_ / 2).toNat) n_.toNat m_).length ≤ 60) (ht_ : trh (fun x_ => decide (F_ ≤ (x_ : Int) ∧ S0_.2.2.1 203 0 x_ = 0)) (fun x_ => (S0_.2.2.1 199 0 x_ / 2).toNat) (fun x_ => (S0_.2.2.1 200 0 x_ / 2).toNat) n_.toNat T_) (hrd0_ : 0 ≤ S0_.1 13 0 127 ∧ S0_.1 13 0 127 ≤ 1999999000) (hmb0_ : ∀ x_ : Nat, -(S0_.1 13 0 127) ≤ S0_.2.2.1 213 0 x_ ∧ S0_.2.2.1 213 0 x_ ≤ S0_.1 13 0 127) (hf_ : S0_.2.2.1 160 0 (S0_.1 13 0 105).toNat = F_) (hn_ : 1 ≤ F_ ∧ F_ ≤ n_ ∧ n_ < N_ ∧ N_ ≤ 1013) (hw_ : S0_.2.2.1 202 0 n_.toNat = 1) (hl_ : lgn F_ N_ S0_) : sm_T (mt_P sc_) 4 407 (0, [some (.inr (.inr (some (13, 0)))), some (.inl n_), none, none, none], [], S0_) (fun ro9_ => ∃ u_ S1_, ro9_ = (.inl u_, S1_, 0) ∧ vq_407n n_ F_ N_ T_ S0_ u_ S1_) := by
  have hF_ : ai_fr (sx_W vw_407n) S0_ S0_ := ai_fr_rf
  refine sm_T_go 2 (c1 := (2, [some (.inr (.inr (some (13, 0)))), some (.inl n_), none, none, none], [.inl n_, .inr (.inr (some (13, 0)))], S0_)) rfl ?_
  refine sm_T_cal (d1 := 1) (Q1 := vq_400n n_ F_ N_ S0_) rfl rfl (by decide) (vc_400n n_ F_ N_ S0_ hI_ (by exact hdf_) (by exact hlm_) (by exact hf_) (by exact hn_) (by exact hw_) (by exact hl_)) (fun u_ Sx1_ px4_ => ?_)
  obtain ⟨rfl, hIx2_, hFx3_, px4_⟩ := px4_
  have hFx5_ : ai_fr (sx_W vw_407n) S0_ Sx1_ := ai_fr_tr hF_ (fr_le hFx3_ rfl)
  have p2_ := (px4_).1
  obtain ⟨m9_, C9_, c91_, c92_, c93_, c94_⟩ := (px4_).2
  have d2_ : Sx1_.1 13 0 127 = S0_.1 13 0 127 := hFx3_.1 13 0 127 rfl
  have e2_ : Sx1_.2.2.1 213 0 = S0_.2.2.1 213 0 := fr_arr hFx3_ rfl
  have v2_ : wf2 n_ S0_ Sx1_ := wf2_fr hFx3_
  have y210_ : Sx1_.2.2.1 210 0 = S0_.2.2.1 210 0 := fr_arr hFx3_ rfl
  have y211_ : Sx1_.2.2.1 211 0 = S0_.2.2.1 211 0 := fr_arr hFx3_ rfl
  refine sm_T_go 4 (c1 := (11, [some (.inr (.inr (some (13, 0)))), some (.inl n_), none, none, none], [.inl n_, .inl 2, .inr (.inr (some (206, 0)))], Sx1_)) rfl ?_
  refine sm_T_bin (w := 2 * n_) rfl (bi_mul (by omega) (by omega) (by omega)) ?_ -- pc_ 11
  refine sm_T_nt (u := some (.inl 1000000000)) (S1 := Sx1_) rfl rfl rfl ?_
  refine sm_T_iast (n := 4096) rfl rfl (by omega) (by omega) ?_
  have hIx6_ : gi (sm_aI Sx1_ 206 0 (2 * n_).toNat 1000000000) := gi_aI hIx2_ (show 0 ≤ 1000000000 ∧ 1000000000 ≤ 1000000000 from ⟨by omega, by omega⟩)
  have hFx7_ : ai_fr (sx_W vw_407n) S0_ (sm_aI Sx1_ 206 0 (2 * n_).toNat 1000000000) := ai_fr_tr hFx5_ (ai_fr_aI rfl)
  refine sm_T_go 4 (c1 := (22, [some (.inr (.inr (some (13, 0)))), some (.inl n_), none, none, none], [.inl n_, .inl 2, .inr (.inr (some (206, 0)))], sm_aI Sx1_ 206 0 (2 * n_).toNat 1000000000)) rfl ?_
  refine sm_T_bin (w := 2 * n_) rfl (bi_mul (by omega) (by omega) (by omega)) ?_ -- pc_ 22
  refine sm_T_go 1 (c1 := (24, [some (.inr (.inr (some (13, 0)))), some (.inl n_), none, none, none], [.inl 1, .inl (2 * n_), .inr (.inr (some (206, 0)))], sm_aI Sx1_ 206 0 (2 * n_).toNat 1000000000)) rfl ?_
  refine sm_T_bin (w := 2 * n_ + 1) rfl (bi_add (by omega) (by omega) (by omega)) ?_ -- pc_ 24
  refine sm_T_nt (u := some (.inl 1000000000)) (S1 := sm_aI Sx1_ 206 0 (2 * n_).toNat 1000000000) rfl rfl rfl ?_
  refine sm_T_iast (n := 4096) rfl rfl (by omega) (by omega) ?_
  have hIx8_ : gi (sm_aI (sm_aI Sx1_ 206 0 (2 * n_).toNat 1000000000) 206 0 (2 * n_ + 1).toNat 1000000000) := gi_aI hIx6_ (show 0 ≤ 1000000000 ∧ 1000000000 ≤ 1000000000 from ⟨by omega, by omega⟩)
  have hFx9_ : ai_fr (sx_W vw_407n) S0_ (sm_aI (sm_aI Sx1_ 206 0 (2 * n_).toNat 1000000000) 206 0 (2 * n_ + 1).toNat 1000000000) := ai_fr_tr hFx7_ (ai_fr_aI rfl)
  refine sm_T_go 2 (c1 := (31, [some (.inr (.inr (some (13, 0)))), some (.inl n_), some (.inl 0), none, none], [], sm_aI (sm_aI Sx1_ 206 0 (2 * n_).toNat 1000000000) 206 0 (2 * n_ + 1).toNat 1000000000)) rfl ?_
  refine (vl_407n n_ F_ N_ T_ S0_ hdf_ hlm_ ht_ hrd0_ hmb0_ hf_ hn_ hw_ hl_ _).1 0 (sm_aI (sm_aI Sx1_ 206 0 (2 * n_).toNat 1000000000) 206 0 (2 * n_ + 1).toNat 1000000000) hIx8_ hFx9_ ⟨?_, ?_, ?_, ?_, ?_, ?_, ?_, ?_, trivial⟩ (Nat.lt_succ_self _)
  · omega
  · (intro q9_; exfalso; rw [rd_eq, rd_eq] at q9_; (first | rw [if_neg (by omega), if_pos rfl] at q9_ | skip); omega)
  · (intro q9_; exfalso; rw [rd_eq, if_pos rfl] at q9_; omega)
  · exact wf2_tr v2_ ⟨fun j9_ h9_ => by ((try simp only [rd_eq, rd_ne, rf_eq, rf_nk, rf_nt, rd_fa, rd_af, rd_fl, rd_al, rd_lf, rd_la, rd_leq, rd_lne, rd_fr, rd_ar, ne_eq, Nat.reduceEqDiff, not_false_eq_true]); rw [if_neg (by omega), if_neg (by omega)]; refine ⟨?_, ?_, ?_⟩ <;> first | rfl | trivial), fun j9_ _ => by (try simp only [rd_eq, rd_ne, rf_eq, rf_nk, rf_nt, rd_fa, rd_af, rd_fl, rd_al, rd_lf, rd_la, rd_leq, rd_lne, rd_fr, rd_ar, ne_eq, Nat.reduceEqDiff, not_false_eq_true])⟩
  · exact ctp_fr (w_ := ([], [206], [])) p2_ (ai_fr_tr (ai_fr_aI rfl) (ai_fr_aI rfl))
  · exact ⟨by (funext j9_; (try simp only [rd_eq, rd_ne, rf_eq, rf_nk, rf_nt, rd_fa, rd_af, rd_fl, rd_al, rd_lf, rd_la, rd_leq, rd_lne, rd_fr, rd_ar, ne_eq, Nat.reduceEqDiff, not_false_eq_true]); rw [y210_]), by (funext j9_; (try simp only [rd_eq, rd_ne, rf_eq, rf_nk, rf_nt, rd_fa, rd_af, rd_fl, rd_al, rd_lf, rd_la, rd_leq, rd_lne, rd_fr, rd_ar, ne_eq, Nat.reduceEqDiff, not_false_eq_true]); rw [y211_])⟩
  · refine ⟨m9_, C9_, fun _ => 0, ⟨⟨c91_, crf_fr (w_ := ([], [206], [])) c92_ (ai_fr_tr (ai_fr_aI rfl) (ai_fr_aI rfl))⟩, ⟨c93_, c94_⟩, fun i_ u9_ _ => by (exfalso; omega)⟩, ⟨?_, Or.inl rfl⟩, ⟨?_, Or.inl rfl⟩⟩
    · rw [rd_eq, if_neg (by omega), rd_eq, if_pos rfl]
    · rw [rd_eq, if_pos rfl]
  · have z1_ : ((sm_aI (sm_aI Sx1_ 206 0 (2 * n_).toNat 1000000000) 206 0 (2 * n_ + 1).toNat 1000000000)).1 13 0 127 = S0_.1 13 0 127 := by ((try simp only [rd_eq, rd_ne, rf_eq, rf_nk, rf_nt, rd_fa, rd_af, rd_fl, rd_al, rd_lf, rd_la, rd_leq, rd_lne, rd_fr, rd_ar, ne_eq, Nat.reduceEqDiff, not_false_eq_true]); exact d2_)
    have z2_ : ∀ x_ : Nat, ((sm_aI (sm_aI Sx1_ 206 0 (2 * n_).toNat 1000000000) 206 0 (2 * n_ + 1).toNat 1000000000)).2.2.1 213 0 x_ = S0_.2.2.1 213 0 x_ := fun x_ => by (rw [rd_ne (by decide), rd_ne (by decide), e2_])
    rw [z1_]
    exact ⟨hrd0_.1, by omega, fun x_ => by (rw [z2_]; exact hmb0_ x_)⟩
end
/-! 99.ztZX -/
section
/-! both sides have the same ways; written by wip/p55/gen/vg -/

/-! weights of_ trees -/
def pwt (inn_ : Nat → Bool) (wt : Nat → Nat) (z_ : Nat) : Nat := if inn_ z_ = true then wt z_ else 0
def wtf (inn_ : Nat → Bool) (cl_ ch_ : Nat → Nat) : Nat → Nat → Nat
  | 0, _ => 0
  | f_ + 1, x_ => 1 + pwt inn_ (wtf inn_ cl_ ch_ f_) (cl_ x_) + pwt inn_ (wtf inn_ cl_ ch_ f_) (ch_ x_)
def wtn (inn_ : Nat → Bool) (cl_ ch_ : Nat → Nat) (x_ : Nat) : Nat := wtf inn_ cl_ ch_ (x_ + 1) x_
def wsm (P_ : Nat → Nat) : List Nat → Nat
  | [] => 0
  | z_ :: l_ => P_ z_ + wsm P_ l_
theorem wsm_i {P_ : Nat → Nat} {x_ : Nat} : ∀ {l_ : List Nat}, ris l_ → (P_ x_ = 0 ∨ ¬ x_ ∈ l_) → wsm P_ (ins x_ l_) = P_ x_ + wsm P_ l_
  | [], _, _ => rfl
  | y_ :: l_, hr_, h_ => by
    by_cases m_ : x_ ∈ y_ :: l_
    · have p0_ : P_ x_ = 0 := h_.resolve_right (fun q_ => q_ m_)
      rw [ins_o hr_ m_]
      omega
    · rw [ins_c]
      by_cases c_ : x_ < y_
      · rw [if_pos c_]
        rfl
      · rw [if_neg c_, if_neg (fun e_ => m_ (by rw [e_]; exact List.mem_cons_self))]
        show P_ y_ + wsm P_ (ins x_ l_) = P_ x_ + (P_ y_ + wsm P_ l_)
        rw [wsm_i hr_.2 (Or.inr (fun q_ => m_ (List.mem_cons_of_mem _ q_)))]
        omega
theorem fil_x {x_ : Nat} : ∀ {l_ : List Nat}, ¬ x_ ∈ l_ → l_.filter (fun y_ => y_ != x_) = l_
  | [], _ => rfl
  | y_ :: l_, h_ => by
    have n_ : y_ ≠ x_ := fun e_ => h_ (by rw [e_]; exact List.mem_cons_self)
    rw [show List.filter (fun y_ => y_ != x_) (y_ :: l_) = y_ :: List.filter (fun y_ => y_ != x_) l_ from List.filter_cons_of_pos (bne_iff_ne.mpr n_), fil_x (fun q_ => h_ (List.mem_cons_of_mem _ q_))]
theorem wsm_f {P_ : Nat → Nat} {x_ : Nat} : ∀ {l_ : List Nat}, ris l_ → x_ ∈ l_ → wsm P_ (l_.filter (fun y_ => y_ != x_)) + P_ x_ = wsm P_ l_
  | [], _, h_ => absurd h_ List.not_mem_nil
  | y_ :: l_, hr_, h_ => by
    by_cases e_ : y_ = x_
    · have no_ : ¬ x_ ∈ l_ := fun q_ => by
        have := hr_.1 x_ q_
        omega
      have f_ : ¬ ((y_ != x_) = true) := fun q_ => (bne_iff_ne.mp q_) e_
      rw [show List.filter (fun y_ => y_ != x_) (y_ :: l_) = List.filter (fun y_ => y_ != x_) l_ from List.filter_cons_of_neg f_, fil_x no_, ← e_]
      show wsm P_ l_ + P_ y_ = P_ y_ + wsm P_ l_
      omega
    · have m_ : x_ ∈ l_ := (List.mem_cons.mp h_).resolve_left (fun q_ => e_ q_.symm)
      have ih_ := wsm_f (P_ := P_) hr_.2 m_
      rw [show List.filter (fun y_ => y_ != x_) (y_ :: l_) = y_ :: List.filter (fun y_ => y_ != x_) l_ from List.filter_cons_of_pos (bne_iff_ne.mpr e_)]
      show P_ y_ + wsm P_ (l_.filter (fun y_ => y_ != x_)) + P_ x_ = P_ y_ + wsm P_ l_
      omega
theorem wsm_0 {P_ : Nat → Nat} : ∀ {l_ : List Nat}, (∀ z_, z_ ∈ l_ → P_ z_ = 0) → wsm P_ l_ = 0
  | [], _ => rfl
  | y_ :: l_, h_ => by
    show P_ y_ + wsm P_ l_ = 0
    rw [h_ y_ List.mem_cons_self, wsm_0 (fun z_ hz_ => h_ z_ (List.mem_cons_of_mem _ hz_))]
section WT_
variable {inn_ : Nat → Bool} {cl_ ch_ : Nat → Nat} {n_ : Nat} {T_ : Nat → Prop}
theorem wtf_f (ht_ : trh inn_ cl_ ch_ n_ T_) : ∀ f_ g_ x_, x_ < f_ → x_ < g_ → T_ x_ → wtf inn_ cl_ ch_ f_ x_ = wtf inn_ cl_ ch_ g_ x_
  | 0, _, x_, h_, _, _ => absurd h_ (Nat.not_lt_zero _)
  | _ + 1, 0, x_, _, h_, _ => absurd h_ (Nat.not_lt_zero _)
  | f_ + 1, g_ + 1, x_, h1_, h2_, tx_ => by
    have q_ := ht_.2.1 x_ tx_
    have e_ : ∀ z_, z_ < x_ → (inn_ z_ = true → T_ z_) → pwt inn_ (wtf inn_ cl_ ch_ f_) z_ = pwt inn_ (wtf inn_ cl_ ch_ g_) z_ := by
      intro z_ hz_ hT_
      unfold pwt
      by_cases i_ : inn_ z_ = true
      · rw [if_pos i_, if_pos i_]
        exact wtf_f ht_ f_ g_ z_ (by omega) (by omega) (hT_ i_)
      · rw [if_neg i_, if_neg i_]
    show 1 + pwt inn_ (wtf inn_ cl_ ch_ f_) (cl_ x_) + pwt inn_ (wtf inn_ cl_ ch_ f_) (ch_ x_) = 1 + pwt inn_ (wtf inn_ cl_ ch_ g_) (cl_ x_) + pwt inn_ (wtf inn_ cl_ ch_ g_) (ch_ x_)
    rw [e_ _ q_.1.1 q_.2.1, e_ _ q_.1.2.1 q_.2.2]
theorem wtn_s (ht_ : trh inn_ cl_ ch_ n_ T_) {x_ : Nat} (tx_ : T_ x_) : wtn inn_ cl_ ch_ x_ = 1 + pwt inn_ (wtn inn_ cl_ ch_) (cl_ x_) + pwt inn_ (wtn inn_ cl_ ch_) (ch_ x_) := by
  have q_ := ht_.2.1 x_ tx_
  have e_ : ∀ z_, z_ < x_ → (inn_ z_ = true → T_ z_) → pwt inn_ (wtf inn_ cl_ ch_ x_) z_ = pwt inn_ (wtn inn_ cl_ ch_) z_ := by
    intro z_ hz_ hT_
    unfold pwt
    by_cases i_ : inn_ z_ = true
    · rw [if_pos i_, if_pos i_]
      exact wtf_f ht_ x_ (z_ + 1) z_ hz_ (Nat.lt_succ_self z_) (hT_ i_)
    · rw [if_neg i_, if_neg i_]
  show 1 + pwt inn_ (wtf inn_ cl_ ch_ x_) (cl_ x_) + pwt inn_ (wtf inn_ cl_ ch_ x_) (ch_ x_) = _
  rw [e_ _ q_.1.1 q_.2.1, e_ _ q_.1.2.1 q_.2.2]
theorem wsm_frc (ht_ : trh inn_ cl_ ch_ n_ T_) : ∀ E_, frk inn_ cl_ ch_ n_ E_ → wsm (pwt inn_ (wtn inn_ cl_ ch_)) (frc cl_ ch_ n_ E_) + 1 + E_.length = wtn inn_ cl_ ch_ n_
  | [], _ => by
    have q_ := ht_.2.1 n_ ht_.1
    show wsm (pwt inn_ (wtn inn_ cl_ ch_)) (ins (cl_ n_) [ch_ n_]) + 1 + 0 = wtn inn_ cl_ ch_ n_
    rw [wsm_i (l_ := [ch_ n_]) ⟨fun z_ h_ => absurd h_ List.not_mem_nil, trivial⟩ (Or.inr (fun m_ => q_.1.2.2 (List.mem_singleton.mp m_))), wtn_s ht_ ht_.1]
    show pwt inn_ (wtn inn_ cl_ ch_) (cl_ n_) + (pwt inn_ (wtn inn_ cl_ ch_) (ch_ n_) + 0) + 1 + 0 = _
    omega
  | x_ :: E_, hk_ => by
    have ih_ := wsm_frc ht_ E_ hk_.1
    have fa_ := frc_a ht_ E_ hk_.1
    have nx_ := frc_na ht_ hk_.1 hk_.2.1
    obtain ⟨⟨p_, hp_, hs_⟩, _⟩ := (fa_.2 x_).mp hk_.2.1
    have tp_ : T_ p_ := by
      rcases hp_ with e_ | e_
      · rw [e_]
        exact ht_.1
      · exact (fa_.1 p_ e_).2.1
    have qp_ := ht_.2.1 p_ tp_
    have tx_ : T_ x_ := by
      rcases hs_ with e_ | e_
      · rw [e_]
        exact qp_.2.1 (by rw [← e_]; exact hk_.2.2)
      · rw [e_]
        exact qp_.2.2 (by rw [← e_]; exact hk_.2.2)
    have q_ := ht_.2.1 x_ tx_
    have inA_ : ∀ z_, (z_ = cl_ x_ ∨ z_ = ch_ x_) → inn_ z_ = true → ¬ z_ ∈ frc cl_ ch_ n_ E_ := by
      intro z_ hz_ i_ m_
      obtain ⟨⟨r_, hr_, hsr⟩, _⟩ := (fa_.2 z_).mp m_
      have tr_ : T_ r_ := by
        rcases hr_ with e_ | e_
        · rw [e_]
          exact ht_.1
        · exact (fa_.1 r_ e_).2.1
      have e_ := ht_.2.2 x_ r_ z_ tx_ tr_ hz_ hsr i_
      rw [e_] at nx_
      exact nx_ (List.mem_cons.mpr hr_)
    have sm_ : ∀ z_, (z_ = cl_ x_ ∨ z_ = ch_ x_) → pwt inn_ (wtn inn_ cl_ ch_) z_ = 0 ∨ ¬ z_ ∈ (frc cl_ ch_ n_ E_).filter (fun y_ => y_ != x_) := by
      intro z_ hz_
      by_cases i_ : inn_ z_ = true
      · exact Or.inr (fun m_ => inA_ z_ hz_ i_ (List.mem_filter.mp m_).1)
      · left
        unfold pwt
        rw [if_neg i_]
    have rf_ := ris_f (p_ := fun y_ => y_ != x_) (frc_r (cl_ := cl_) (ch_ := ch_) (n_ := n_) E_)
    have s2_ := wsm_i (P_ := pwt inn_ (wtn inn_ cl_ ch_)) rf_ (sm_ (ch_ x_) (Or.inr rfl))
    have s1_ := wsm_i (P_ := pwt inn_ (wtn inn_ cl_ ch_)) (x_ := cl_ x_) (ins_r (x_ := ch_ x_) rf_) (by
      rcases sm_ (cl_ x_) (Or.inl rfl) with e_ | e_
      · exact Or.inl e_
      · exact Or.inr (fun m_ => by
          rcases ins_m.mp m_ with u_ | u_
          · exact q_.1.2.2 u_
          · exact e_ u_))
    have s0_ := wsm_f (P_ := pwt inn_ (wtn inn_ cl_ ch_)) (frc_r (cl_ := cl_) (ch_ := ch_) (n_ := n_) E_) hk_.2.1
    have px_ : pwt inn_ (wtn inn_ cl_ ch_) x_ = wtn inn_ cl_ ch_ x_ := if_pos hk_.2.2
    have wx_ := wtn_s ht_ tx_
    show wsm (pwt inn_ (wtn inn_ cl_ ch_)) (ins (cl_ x_) (ins (ch_ x_) ((frc cl_ ch_ n_ E_).filter (fun y_ => y_ != x_)))) + 1 + (E_.length + 1) = wtn inn_ cl_ ch_ n_
    rw [s1_, s2_]
    omega
theorem frk_l (ht_ : trh inn_ cl_ ch_ n_ T_) {E_ : List Nat} (hk_ : frk inn_ cl_ ch_ n_ E_) : E_.length ≤ n_ :=
  nod1_k (g_ := fun x_ => x_) (frk_d ht_ E_ hk_) (fun x_ y_ _ _ e_ => e_) (fun x_ hx_ => ((frc_a ht_ E_ hk_).1 x_ hx_).2.2.1)
theorem wtn_k (ht_ : trh inn_ cl_ ch_ n_ T_) : ∀ k_ E_, frk inn_ cl_ ch_ n_ E_ → n_ ≤ E_.length + k_ → wtn inn_ cl_ ch_ n_ ≤ n_ + 1 := by
  intro k_
  induction k_ with
  | zero =>
    intro E_ hk_ hl_
    have s_ := wsm_frc ht_ E_ hk_
    by_cases h_ : ∃ z_, z_ ∈ frc cl_ ch_ n_ E_ ∧ inn_ z_ = true
    · obtain ⟨z_, h1_, h2_⟩ := h_
      have q_ := frk_l ht_ (E_ := z_ :: E_) ⟨hk_, h1_, h2_⟩
      have q_ : E_.length + 1 ≤ n_ := q_
      omega
    · have z0_ := wsm_0 (P_ := pwt inn_ (wtn inn_ cl_ ch_)) (l_ := frc cl_ ch_ n_ E_) (fun z_ hz_ => if_neg (fun i_ => h_ ⟨z_, hz_, i_⟩))
      have l_ := frk_l ht_ hk_
      omega
  | succ k_ ih_ =>
    intro E_ hk_ hl_
    by_cases h_ : ∃ z_, z_ ∈ frc cl_ ch_ n_ E_ ∧ inn_ z_ = true
    · obtain ⟨z_, h1_, h2_⟩ := h_
      refine ih_ (z_ :: E_) ⟨hk_, h1_, h2_⟩ ?_
      show n_ ≤ E_.length + 1 + k_
      omega
    · have s_ := wsm_frc ht_ E_ hk_
      have z0_ := wsm_0 (P_ := pwt inn_ (wtn inn_ cl_ ch_)) (l_ := frc cl_ ch_ n_ E_) (fun z_ hz_ => if_neg (fun i_ => h_ ⟨z_, hz_, i_⟩))
      have l_ := frk_l ht_ hk_
      omega
theorem wtn_b (ht_ : trh inn_ cl_ ch_ n_ T_) : wtn inn_ cl_ ch_ n_ ≤ n_ + 1 := wtn_k ht_ n_ [] trivial (by show n_ ≤ 0 + n_; omega)
theorem wsm_c (ht_ : trh inn_ cl_ ch_ n_ T_) {m_ : Nat} {c_ : List Nat} (hc_ : c_ ∈ crn inn_ cl_ ch_ n_ m_) : wsm (pwt inn_ (wtn inn_ cl_ ch_)) c_ + 1 ≤ wtn inn_ cl_ ch_ n_ := by
  obtain ⟨E_, e1_, e2_, _⟩ := crn_fr m_ c_ hc_
  have s_ := wsm_frc ht_ E_ e1_
  rw [← e2_] at s_
  omega
end WT_
/-! costs -/
def eqw (M_ : Int) (b_ d_ : Int × Int × Int × (Nat → Int)) : Prop := (b_.1 = d_.1 ∧ 0 ≤ b_.1 ∧ b_.1 ≤ M_ ∧ b_.2 = d_.2) ∨ (b_.1 = 268435456 ∧ d_.1 = 1000000000)
def eqp (M_ p_ q_ : Int) : Prop := (p_ = q_ ∧ 0 ≤ p_ ∧ p_ ≤ M_) ∨ (p_ = 268435456 ∧ q_ = 1000000000)
theorem wst_e {M_ co_ co'_ : Int} {b_ d_ : Int × Int × Int × (Nat → Int)} {cd_ : Int × Int × (Nat → Int)} (hM_ : M_ < 268435456) (h_ : eqw M_ b_ d_) (g_ : (co_ = co'_ ∧ 0 ≤ co_ ∧ co_ ≤ M_) ∨ (co_ = 268435456 ∧ 1000000000 ≤ co'_)) : eqw M_ (wst b_ co_ cd_) (wst d_ co'_ cd_) := by
  unfold wst
  rcases h_ with ⟨h1_, h2_, h3_, h4_⟩ | ⟨h1_, h2_⟩
  · rcases g_ with ⟨g1_, g2_, g3_⟩ | ⟨g1_, g2_⟩
    · by_cases z_ : co_ < b_.1
      · rw [if_pos z_, if_pos (show co'_ < d_.1 by omega)]
        exact Or.inl ⟨g1_, g2_, g3_, rfl⟩
      · rw [if_neg z_, if_neg (show ¬ co'_ < d_.1 by omega)]
        exact Or.inl ⟨h1_, h2_, h3_, h4_⟩
    · rw [if_neg (show ¬ co_ < b_.1 by omega), if_neg (show ¬ co'_ < d_.1 by omega)]
      exact Or.inl ⟨h1_, h2_, h3_, h4_⟩
  · rcases g_ with ⟨g1_, g2_, g3_⟩ | ⟨g1_, g2_⟩
    · rw [if_pos (show co_ < b_.1 by omega), if_pos (show co'_ < d_.1 by omega)]
      exact Or.inl ⟨g1_, g2_, g3_, rfl⟩
    · rw [if_neg (show ¬ co_ < b_.1 by omega), if_neg (show ¬ co'_ < d_.1 by omega)]
      exact Or.inr ⟨h1_, h2_⟩
theorem cfo_e {M_ : Int} {f_ g_ : Nat → Int × Int × Int × (Nat → Int) → Int × Int × Int × (Nat → Int)} {b_ d_ : Int × Int × Int × (Nat → Int)} (h0_ : eqw M_ b_ d_) : ∀ m_ : Nat, (∀ i_ b_ d_, i_ < m_ → eqw M_ b_ d_ → eqw M_ (f_ i_ b_) (g_ i_ d_)) → eqw M_ (cfo f_ m_ b_) (cfo g_ m_ d_)
  | 0, _ => h0_
  | m_ + 1, h_ => by
    rw [cfo_s, cfo_s]
    exact h_ m_ _ _ (Nat.lt_succ_self m_) (cfo_e h0_ m_ (fun i_ b_ d_ hi_ => h_ i_ b_ d_ (by omega)))
def pso (P_ : Nat → Int) (c_ : List Nat) (ip_ o_ : Nat) : Nat → Int
  | 0 => 0
  | k_ + 1 => pso P_ c_ ip_ o_ k_ + P_ (cdn c_ ip_ o_ k_).toNat
theorem pso_2 {P_ : Nat → Int} {x_ y_ o_ : Nat} (ho_ : o_ ≤ 1) : pso P_ [x_, y_] 2 o_ 2 = P_ x_ + P_ y_ := by
  have c_ : o_ = 0 ∨ o_ = 1 := by omega
  rcases c_ with rfl | rfl
  · show 0 + P_ x_ + P_ y_ = P_ x_ + P_ y_
    omega
  · show 0 + P_ y_ + P_ x_ = P_ x_ + P_ y_
    omega
theorem pso_3 {P_ : Nat → Int} {x_ y_ z_ o_ : Nat} (ho_ : o_ ≤ 5) : pso P_ [x_, y_, z_] 3 o_ 3 = P_ x_ + P_ y_ + P_ z_ := by
  have c_ : o_ = 0 ∨ o_ = 1 ∨ o_ = 2 ∨ o_ = 3 ∨ o_ = 4 ∨ o_ = 5 := by omega
  rcases c_ with rfl | rfl | rfl | rfl | rfl | rfl
  · show 0 + P_ x_ + P_ y_ + P_ z_ = P_ x_ + P_ y_ + P_ z_
    omega
  · show 0 + P_ x_ + P_ z_ + P_ y_ = P_ x_ + P_ y_ + P_ z_
    omega
  · show 0 + P_ y_ + P_ x_ + P_ z_ = P_ x_ + P_ y_ + P_ z_
    omega
  · show 0 + P_ y_ + P_ z_ + P_ x_ = P_ x_ + P_ y_ + P_ z_
    omega
  · show 0 + P_ z_ + P_ x_ + P_ y_ = P_ x_ + P_ y_ + P_ z_
    omega
  · show 0 + P_ z_ + P_ y_ + P_ x_ = P_ x_ + P_ y_ + P_ z_
    omega
theorem cco_e {pc_ pd_ : Int → Int → Int} {P_ : Nat → Int} {a_ M_ : Int} {c_ : List Nat} {ip_ v_ : Nat} (hP_ : ∀ x_, 0 ≤ P_ x_) (ha_ : 0 ≤ a_) (hM_ : M_ < 268435456) : ∀ m_, a_ + pso P_ c_ ip_ (v_ / 2 ^ ip_) m_ ≤ M_ → (∀ k_, k_ < m_ → eqp (P_ (cdn c_ ip_ (v_ / 2 ^ ip_) k_).toNat) (pc_ (cdn c_ ip_ (v_ / 2 ^ ip_) k_) ((v_ / 2 ^ k_ % 2 : Nat) : Int)) (pd_ (cdn c_ ip_ (v_ / 2 ^ ip_) k_) ((v_ / 2 ^ k_ % 2 : Nat) : Int))) → (cco adc pc_ a_ c_ ip_ v_ m_ = cco adr pd_ a_ c_ ip_ v_ m_ ∧ 0 ≤ cco adc pc_ a_ c_ ip_ v_ m_ ∧ cco adc pc_ a_ c_ ip_ v_ m_ ≤ a_ + pso P_ c_ ip_ (v_ / 2 ^ ip_) m_) ∨ (cco adc pc_ a_ c_ ip_ v_ m_ = 268435456 ∧ 1000000000 ≤ cco adr pd_ a_ c_ ip_ v_ m_)
  | 0, _, _ => Or.inl ⟨rfl, ha_, by
      show a_ ≤ a_ + 0
      omega⟩
  | m_ + 1, hs_, h_ => by
    have e_ : pso P_ c_ ip_ (v_ / 2 ^ ip_) (m_ + 1) = pso P_ c_ ip_ (v_ / 2 ^ ip_) m_ + P_ (cdn c_ ip_ (v_ / 2 ^ ip_) m_).toNat := rfl
    have p_ := hP_ (cdn c_ ip_ (v_ / 2 ^ ip_) m_).toNat
    have ih_ := cco_e hP_ ha_ hM_ m_ (by omega) (fun k_ hk_ => h_ k_ (by omega))
    have g_ := h_ m_ (Nat.lt_succ_self m_)
    rw [cco_s, cco_s]
    obtain ⟨X9_, eX_⟩ : ∃ X9_ : Int, X9_ = cco adc pc_ a_ c_ ip_ v_ m_ := ⟨_, rfl⟩
    obtain ⟨Y9_, eY_⟩ : ∃ Y9_ : Int, Y9_ = cco adr pd_ a_ c_ ip_ v_ m_ := ⟨_, rfl⟩
    rw [← eX_, ← eY_] at ih_ ⊢
    clear eX_ eY_
    unfold adc adr
    rcases ih_ with ⟨i1_, i2_, i3_⟩ | ⟨i1_, i2_⟩
    · rcases g_ with ⟨g1_, g2_, g3_⟩ | ⟨g1_, g2_⟩
      · left
        rw [if_pos (by omega)]
        omega
      · right
        rw [g1_, g2_]
        refine ⟨?_, by omega⟩
        split <;> omega
    · right
      have q0_ : 0 ≤ pc_ (cdn c_ ip_ (v_ / 2 ^ ip_) m_) ((v_ / 2 ^ m_ % 2 : Nat) : Int) ∧ 0 ≤ pd_ (cdn c_ ip_ (v_ / 2 ^ ip_) m_) ((v_ / 2 ^ m_ % 2 : Nat) : Int) := by
        rcases g_ with g_ | g_ <;> omega
      refine ⟨?_, by omega⟩
      rw [i1_]
      split <;> omega
/-- the_ costs of_ a_ cut's parts -/
theorem cut_p {Pw_ : Nat → Nat} {c_ : List Nat} {ip_ o_ : Nat} (hl_ : 2 ≤ c_.length ∧ c_.length ≤ 3) (hip_ : ip_ = c_.length) (ho_ : (ip_ = 2 ∧ o_ ≤ 1) ∨ (ip_ = 3 ∧ o_ ≤ 5)) : pso (fun x_ => 1000 + 5000 * (Pw_ x_ : Int)) c_ ip_ o_ ip_ = 1000 * (ip_ : Int) + 5000 * (wsm Pw_ c_ : Int) := by
  rcases c_ with _ | ⟨x_, _ | ⟨y_, _ | ⟨z_, _ | ⟨w_, c_⟩⟩⟩⟩
  · exact absurd hl_.1 (by decide)
  · have h_ : 2 ≤ 1 := hl_.1
    omega
  · have e_ : ip_ = 2 := hip_
    rw [e_, pso_2 (by omega)]
    show 1000 + 5000 * (Pw_ x_ : Int) + (1000 + 5000 * (Pw_ y_ : Int)) = 1000 * 2 + 5000 * ((Pw_ x_ + (Pw_ y_ + 0) : Nat) : Int)
    omega
  · have e_ : ip_ = 3 := hip_
    rw [e_, pso_3 (by omega)]
    show 1000 + 5000 * (Pw_ x_ : Int) + (1000 + 5000 * (Pw_ y_ : Int)) + (1000 + 5000 * (Pw_ z_ : Int)) = 1000 * 3 + 5000 * ((Pw_ x_ + (Pw_ y_ + (Pw_ z_ + 0)) : Nat) : Int)
    omega
  · have h_ : c_.length + 4 ≤ 3 := hl_.2
    omega
theorem wic_2 {ip_ v_ : Nat} (hip_ : ip_ = 2 ∨ ip_ = 3) (hv_ : v_ < wic ip_) : (ip_ = 2 ∧ v_ / 2 ^ ip_ ≤ 1) ∨ (ip_ = 3 ∧ v_ / 2 ^ ip_ ≤ 5) := by
  unfold wic at hv_
  rcases hip_ with e_ | e_
  · rw [e_] at hv_ ⊢
    rw [if_pos rfl] at hv_
    left
    refine ⟨rfl, ?_⟩
    show v_ / 4 ≤ 1
    omega
  · rw [e_] at hv_ ⊢
    rw [if_neg (by decide)] at hv_
    right
    refine ⟨rfl, ?_⟩
    show v_ / 8 ≤ 5
    omega
/-- both sides' ways of_ a_ node -/
theorem ways_e {pc_ pd_ : Int → Int → Int} {Pw_ : Nat → Nat} {hit_ hit'_ : Nat → Nat → Nat → Bool} {ar_ ar'_ : Nat → Int} {inp inp'_ : Nat → Nat} {Q_ Q'_ : Nat → List Nat} {len_ nc W_ : Nat} (hW_ : 5000 * (W_ : Int) - 1000 < 268435456) (hQ_ : ∀ i_, i_ < len_ → Q_ i_ = Q'_ i_ ∧ (2 ≤ (Q_ i_).length ∧ (Q_ i_).length ≤ 3) ∧ wsm Pw_ (Q_ i_) + 1 ≤ W_) (ha_ : ∀ cell, cell < nc → ar_ cell = ar'_ cell ∧ 0 ≤ ar_ cell ∧ ar_ cell ≤ 1000) (hi_ : ∀ cell, cell < nc → inp cell = inp'_ cell) (hp_ : ∀ i_, i_ < len_ → ∀ (x_ : Nat) (t_ : Int), x_ ∈ Q_ i_ → 0 ≤ t_ → t_ ≤ 1 → eqp (1000 + 5000 * (Pw_ x_ : Int)) (pc_ x_ t_) (pd_ x_ t_)) (hh_ : ∀ cell i_ v_, cell < nc → i_ < len_ → inp cell = (Q_ i_).length → v_ < wic (inp cell) → hit_ cell i_ v_ = hit'_ cell i_ v_) : eqw (5000 * (W_ : Int) - 1000) (wbs adc pc_ hit_ ar_ inp Q_ len_ nc 268435456) (wbs adr pd_ hit'_ ar'_ inp'_ Q'_ len_ nc 1000000000) := by
  unfold wbs
  refine cfo_e (Or.inr ⟨rfl, rfl⟩) nc (fun cell b_ d_ hcell h_ => ?_)
  unfold wcl
  have a_ := ha_ cell hcell
  have i1_ := hi_ cell hcell
  refine cfo_e h_ len_ (fun i_ b_ d_ hi2_ h_ => ?_)
  have q_ := hQ_ i_ hi2_
  unfold wct
  rw [← q_.1, ← i1_]
  by_cases z_ : inp cell = (Q_ i_).length
  · rw [if_pos z_, if_pos z_]
    refine cfo_e h_ (wic (inp cell)) (fun v_ b_ d_ hv_ h_ => ?_)
    have e_ := hh_ cell i_ v_ hcell hi2_ z_ hv_
    have o2_ := wic_2 (by omega) hv_
    unfold wvs
    rw [← e_]
    by_cases y_ : hit_ cell i_ v_ = true
    · rw [if_pos y_, if_pos y_]
      have cp_ := cut_p (Pw_ := Pw_) q_.2.1 z_ o2_
      have cc_ := cco_e (pc_ := pc_) (pd_ := pd_) (P_ := fun x_ => 1000 + 5000 * (Pw_ x_ : Int)) (a_ := ar_ cell) (M_ := 5000 * (W_ : Int) - 1000) (c_ := Q_ i_) (ip_ := inp cell) (v_ := v_) (fun x_ => by omega) a_.2.1 hW_ (inp cell) (by
        have := q_.2.2
        have := q_.2.1
        rw [cp_]
        omega) (fun k_ hk_ => by
        obtain ⟨x_, hx_, e_⟩ := cdn_m q_.2.1 z_ (show v_ / 2 ^ inp cell ≤ 5 by omega) hk_
        rw [e_, Int.toNat_natCast]
        exact hp_ i_ hi2_ x_ _ hx_ (by omega) (by omega))
      rw [← a_.1]
      refine wst_e hW_ h_ ?_
      rcases cc_ with ⟨c1_, c2_, c3_⟩ | c_
      · left
        refine ⟨c1_, c2_, ?_⟩
        have := q_.2.2
        have := q_.2.1
        rw [cp_] at c3_
        omega
      · exact Or.inr c_
    · rw [if_neg y_, if_neg y_]
      exact h_
  · rw [if_neg z_, if_neg z_]
    exact h_
/-! tables of_ cuts of_ two_ nodes -/
theorem d17 : ∀ a_ b_ : Fin 16, ∀ s_ t_ : Fin 2, i_and (i_xor (17 * ((a_.val : Nat) : Int)) (255 * ((s_.val : Nat) : Int))) (i_xor (17 * ((b_.val : Nat) : Int)) (255 * ((t_.val : Nat) : Int))) = 17 * (i_and (i_xor (17 * ((a_.val : Nat) : Int)) (255 * ((s_.val : Nat) : Int))) (i_xor (17 * ((b_.val : Nat) : Int)) (255 * ((t_.val : Nat) : Int))) % 16) := by decide +kernel
theorem d17_i {x_ y_ s_ t_ : Int} (hx_ : x_ = 17 * (x_ % 16) ∧ 0 ≤ x_ ∧ x_ ≤ 255) (hy_ : y_ = 17 * (y_ % 16) ∧ 0 ≤ y_ ∧ y_ ≤ 255) (hs_ : s_ = 0 ∨ s_ = 1) (ht_ : t_ = 0 ∨ t_ = 1) : i_and (i_xor x_ (255 * s_)) (i_xor y_ (255 * t_)) = 17 * (i_and (i_xor x_ (255 * s_)) (i_xor y_ (255 * t_)) % 16) ∧ 0 ≤ i_and (i_xor x_ (255 * s_)) (i_xor y_ (255 * t_)) ∧ i_and (i_xor x_ (255 * s_)) (i_xor y_ (255 * t_)) ≤ 255 := by
  refine ⟨?_, i_axb hx_.2 hy_.2 hs_ ht_⟩
  have q_ := d17 ⟨(x_ % 16).toNat, by omega⟩ ⟨(y_ % 16).toNat, by omega⟩ ⟨s_.toNat, by omega⟩ ⟨t_.toNat, by omega⟩
  have e1_ : 17 * (((x_ % 16).toNat : Nat) : Int) = x_ := by omega
  have e2_ : 17 * (((y_ % 16).toNat : Nat) : Int) = y_ := by omega
  have e3_ : ((s_.toNat : Nat) : Int) = s_ := by omega
  have e4_ : ((t_.toNat : Nat) : Int) = t_ := by omega
  simp only [e1_, e2_, e3_, e4_] at q_
  exact q_
theorem tvf_17 {cl_ ch_ : Nat → Nat} {tl_ tu_ : Nat → Int} {c_ : List Nat} {B_ : Nat → Prop} {t_ : Nat → Int} (h_ : tvf cl_ ch_ tl_ tu_ c_ B_ t_) (hc_ : c_.length = 2) (hl_ : ∀ x_, (tl_ x_ = 0 ∨ tl_ x_ = 1) ∧ (tu_ x_ = 0 ∨ tu_ x_ = 1)) : ∀ m_ x_, x_ < m_ → B_ x_ → t_ x_ = 17 * (t_ x_ % 16) ∧ 0 ≤ t_ x_ ∧ t_ x_ ≤ 255
  | 0, x_, hx_, _ => absurd hx_ (Nat.not_lt_zero _)
  | m_ + 1, x_, hx_, b_ => by
    obtain ⟨⟨⟨l1_, l2_⟩, s1_, s2_⟩, e_⟩ := h_.2 x_ b_
    have side : ∀ z_, z_ < x_ → (B_ z_ ∨ z_ ∈ c_) → t_ z_ = 17 * (t_ z_ % 16) ∧ 0 ≤ t_ z_ ∧ t_ z_ ≤ 255 := by
      intro z_ hz_ p_
      rcases p_ with p_ | p_
      · exact tvf_17 h_ hc_ hl_ m_ z_ (by omega) p_
      · obtain ⟨k_, hk_⟩ := List.getElem?_of_mem p_
        have kl_ := (List.getElem?_eq_some_iff.mp hk_).1
        rw [h_.1 k_ z_ hk_]
        have d_ : k_ = 0 ∨ k_ = 1 := by omega
        rcases d_ with d_ | d_ <;> rw [d_] <;> decide
    rw [e_]
    exact d17_i (side _ l1_ s1_) (side _ l2_ s2_) (hl_ x_).1 (hl_ x_).2
theorem x255f : ∀ k_ : Fin 256, i_xor ((k_.val : Nat) : Int) 255 = 255 - ((k_.val : Nat) : Int) := by decide +kernel
theorem x15f : ∀ k_ : Fin 16, i_xor ((k_.val : Nat) : Int) 15 = 15 - ((k_.val : Nat) : Int) := by decide +kernel
theorem x255 {x_ : Int} (h_ : 0 ≤ x_ ∧ x_ ≤ 255) : i_xor x_ 255 = 255 - x_ := by
  have q_ := x255f ⟨x_.toNat, by omega⟩
  have e_ : ((x_.toNat : Nat) : Int) = x_ := by omega
  simp only [e_] at q_
  exact q_
theorem x15 {x_ : Int} (h_ : 0 ≤ x_ ∧ x_ ≤ 15) : i_xor x_ 15 = 15 - x_ := by
  have q_ := x15f ⟨x_.toNat, by omega⟩
  have e_ : ((x_.toNat : Nat) : Int) = x_ := by omega
  simp only [e_] at q_
  exact q_
/-- a_ view fits on_ both sides, or on_ none -/
theorem hit_e {cl_ ch_ dl_ dh_ : Nat → Nat} {tl_ tu_ sl_ su : Nat → Int} {c_ : List Nat} {f_ : Int} {ip_ n_ v_ t_ : Nat} {tc_ tr_ : Int} (hl_ : 2 ≤ c_.length ∧ c_.length ≤ 3) (hip_ : ip_ = c_.length) (hv_ : v_ < wic ip_) {T_ T'_ : Nat → Prop} (h1_ : tbo cl_ ch_ tl_ tu_ T_ n_ c_ tc_) (h2_ : tbq dl_ dh_ sl_ su T'_ n_ c_ tr_) (ag_ : ∀ x_, T_ x_ → T'_ x_ → (cl_ x_ = dl_ x_ ∧ ch_ x_ = dh_ x_ ∧ tl_ x_ = sl_ x_ ∧ tu_ x_ = su x_) ∨ (cl_ x_ = dh_ x_ ∧ ch_ x_ = dl_ x_ ∧ tl_ x_ = su x_ ∧ tu_ x_ = sl_ x_)) (bl_ : ∀ x_, (sl_ x_ = 0 ∨ sl_ x_ = 1) ∧ (su x_ = 0 ∨ su x_ = 1)) : decide (vwc f_ ip_ v_ (2 ^ ip_) = tbx t_ tc_ c_.length) = decide (vwt f_ ip_ v_ 8 = tbr t_ tr_) := by
  obtain ⟨B_, u_, b1_, b0_, b2_, b3_⟩ := h1_
  obtain ⟨B'_, u'_, c1_, c0_, c2_, c3_, c4_, c5_⟩ := h2_
  have e_ := tvf_u b2_ c2_ (fun x_ p_ q_ => ag_ x_ (b0_ x_ p_) (c0_ x_ q_)) (n_ + 1) n_ (Nat.lt_succ_self n_) b1_ c1_
  have hq_ : ∀ p_ q_ : Prop, (p_ ↔ q_) → ∀ [Decidable p_] [Decidable q_], decide p_ = decide q_ := by
    intro p_ q_ h_ _ _
    by_cases z_ : p_
    · rw [decide_eq_true z_, decide_eq_true (h_.mp z_)]
    · rw [decide_eq_false z_, decide_eq_false (fun y_ => z_ (h_.mpr y_))]
  refine hq_ _ _ ?_
  rw [b3_, e_, ← c3_]
  have d_ : ip_ = 2 ∨ ip_ = 3 := by omega
  unfold tbx tbr
  rcases d_ with d_ | d_
  · have l2_ : c_.length = 2 := by omega
    rw [if_pos l2_, if_pos l2_, d_]
    rw [d_] at hv_
    have v8_ : v_ < 8 := hv_
    have w_ := vwc_2 (f_ := f_) v8_
    have s_ := tvf_17 c2_ l2_ bl_ (n_ + 1) n_ (Nat.lt_succ_self n_) c1_
    rw [← c3_] at s_
    show vwc f_ 2 v_ 4 = _ ↔ _
    rw [w_.1, w_.2]
    by_cases z_ : t_ = 0
    · rw [if_pos z_, if_pos z_]
      omega
    · rw [if_neg z_, if_neg z_, x15 (by omega), x255 ⟨c4_, c5_⟩]
      omega
  · have l3_ : ¬ c_.length = 2 := by omega
    rw [if_neg l3_, if_neg l3_, d_]
    rw [d_] at hv_
    have v48_ : v_ < 48 := hv_
    have w_ := vwc_3 (f_ := f_) v48_
    show vwc f_ 3 v_ 8 = _ ↔ _
    rw [w_, show tr_ % 256 = tr_ by omega]
end
/-! 99.ztZY -/
section
/-! gates made: what both sides do; written by wip/p55/gen/vg -/

/-! gates made: nets of_ tasks, gates so_ far_ -/
def nts (g_ : Nat → Int) : Nat → List Int
  | 0 => []
  | k_ + 1 => nts g_ k_ ++ [g_ k_]
def gfo (f_ : Nat → (Nat → Int) × List (Int × List Int) → (Nat → Int) × List (Int × List Int)) (q_ : Nat → Nat) : Nat → (Nat → Int) × List (Int × List Int) → (Nat → Int) × List (Int × List Int)
  | 0, s_ => s_
  | k_ + 1, s_ => f_ (q_ k_) (gfo f_ q_ k_ s_)
def gfin (pn_ : Nat → Nat) (pv_ : Nat → Nat → Nat) (gc_ : Nat → Int) (b0_ : Int) (u_ : Nat) (s_ : (Nat → Int) × List (Int × List Int)) : (Nat → Int) × List (Int × List Int) := (fun x_ => if x_ = u_ then b0_ + (s_.2.length : Int) else s_.1 x_, s_.2 ++ [(gc_ u_, nts (fun k_ => s_.1 (pv_ u_ k_)) (pn_ u_))])
/-- a_ task with all_ that it_ wants -/
def gmk (pn_ : Nat → Nat) (pv_ : Nat → Nat → Nat) (gc_ : Nat → Int) (b0_ : Int) : Nat → Nat → (Nat → Int) × List (Int × List Int) → (Nat → Int) × List (Int × List Int)
  | 0, _, s_ => s_
  | f_ + 1, u_, s_ => if s_.1 u_ = -1 then gfin pn_ pv_ gc_ b0_ u_ (gfo (gmk pn_ pv_ gc_ b0_ f_) (pv_ u_) (pn_ u_) s_) else s_
def gsr (pn_ : Nat → Nat) (pv_ : Nat → Nat → Nat) (gc_ : Nat → Int) (b0_ : Int) (f_ : Nat) : List Nat → (Nat → Int) × List (Int × List Int) → (Nat → Int) × List (Int × List Int)
  | [], s_ => s_
  | u_ :: l_, s_ => gsr pn_ pv_ gc_ b0_ f_ l_ (gmk pn_ pv_ gc_ b0_ f_ u_ s_)
def gdg (pn_ : Nat → Nat) (pv_ : Nat → Nat → Nat) (rk_ : Nat → Nat) (G_ I_ : Nat → Prop) : Prop := ∀ u_, G_ u_ → ¬ I_ u_ → ∀ k_, k_ < pn_ u_ → G_ (pv_ u_ k_) ∧ rk_ (pv_ u_ k_) < rk_ u_
def gle (s_ s'_ : (Nat → Int) × List (Int × List Int)) : Prop := (∀ x_, s_.1 x_ ≠ -1 → s'_.1 x_ = s_.1 x_) ∧ ∃ l_, s'_.2 = s_.2 ++ l_
theorem gle_rf {s_ : (Nat → Int) × List (Int × List Int)} : gle s_ s_ := ⟨fun _ _ => rfl, [], (List.append_nil _).symm⟩
theorem gle_tr {s_ s'_ t_ : (Nat → Int) × List (Int × List Int)} (h_ : gle s_ s'_) (g_ : gle s'_ t_) : gle s_ t_ := by
  refine ⟨fun x_ hx_ => ?_, ?_⟩
  · have e_ := h_.1 x_ hx_
    rw [g_.1 x_ (by rw [e_]; exact hx_), e_]
  · obtain ⟨l_, hl_⟩ := h_.2
    obtain ⟨m_, hm9_⟩ := g_.2
    exact ⟨l_ ++ m_, by rw [hm9_, hl_, List.append_assoc]⟩
section GM_
variable {pn_ : Nat → Nat} {pv_ : Nat → Nat → Nat} {gc_ : Nat → Int} {b0_ : Int} {rk_ : Nat → Nat} {G_ I_ : Nat → Prop}
theorem gmk_y {f_ u_ : Nat} {s_ : (Nat → Int) × List (Int × List Int)} (h_ : s_.1 u_ = -1) : gmk pn_ pv_ gc_ b0_ (f_ + 1) u_ s_ = gfin pn_ pv_ gc_ b0_ u_ (gfo (gmk pn_ pv_ gc_ b0_ f_) (pv_ u_) (pn_ u_) s_) := if_pos h_
theorem gmk_n {f_ u_ : Nat} {s_ : (Nat → Int) × List (Int × List Int)} (h_ : ¬ s_.1 u_ = -1) : gmk pn_ pv_ gc_ b0_ f_ u_ s_ = s_ := by
  cases f_ with
  | zero => rfl
  | succ f_ => exact if_neg h_
theorem gfo_s {f_ : Nat → (Nat → Int) × List (Int × List Int) → (Nat → Int) × List (Int × List Int)} {q_ : Nat → Nat} {k_ : Nat} {s_ : (Nat → Int) × List (Int × List Int)} : gfo f_ q_ (k_ + 1) s_ = f_ (q_ k_) (gfo f_ q_ k_ s_) := rfl
/-- it_ is_ made, what was_ made stays, only what is_ lower has_ changed -/
theorem gmk_r (hb_ : 0 ≤ b0_) (hg_ : gdg pn_ pv_ rk_ G_ I_) : ∀ f_ u_ s_, G_ u_ → (∀ x_, I_ x_ → s_.1 x_ ≠ -1) → rk_ u_ < f_ → gle s_ (gmk pn_ pv_ gc_ b0_ f_ u_ s_) ∧ (gmk pn_ pv_ gc_ b0_ f_ u_ s_).1 u_ ≠ -1 ∧ ∀ x_, (gmk pn_ pv_ gc_ b0_ f_ u_ s_).1 x_ ≠ s_.1 x_ → rk_ x_ ≤ rk_ u_ := by
  intro f_
  induction f_ with
  | zero => exact fun u_ s_ _ _ h_ => absurd h_ (Nat.not_lt_zero _)
  | succ f_ ih_ =>
    intro u_ s_ gu_ hI_ hf_
    by_cases z_ : s_.1 u_ = -1
    · have ni_ : ¬ I_ u_ := fun i_ => hI_ u_ i_ z_
      have fold : ∀ m_, m_ ≤ pn_ u_ → gle s_ (gfo (gmk pn_ pv_ gc_ b0_ f_) (pv_ u_) m_ s_) ∧ (∀ j_, j_ < m_ → (gfo (gmk pn_ pv_ gc_ b0_ f_) (pv_ u_) m_ s_).1 (pv_ u_ j_) ≠ -1) ∧ ∀ x_, (gfo (gmk pn_ pv_ gc_ b0_ f_) (pv_ u_) m_ s_).1 x_ ≠ s_.1 x_ → rk_ x_ < rk_ u_ := by
        intro m_
        induction m_ with
        | zero => exact fun _ => ⟨gle_rf, fun j_ hj_ => absurd hj_ (Nat.not_lt_zero _), fun x_ hx_ => absurd rfl hx_⟩
        | succ m_ ihm_ =>
          intro hm9_
          have a_ := ihm_ (by omega)
          have p_ := hg_ u_ gu_ ni_ m_ (by omega)
          have q_ := ih_ (pv_ u_ m_) (gfo (gmk pn_ pv_ gc_ b0_ f_) (pv_ u_) m_ s_) p_.1 (fun x_ hx_ => by rw [a_.1.1 x_ (hI_ x_ hx_)]; exact hI_ x_ hx_) (by omega)
          rw [gfo_s]
          refine ⟨gle_tr a_.1 q_.1, fun j_ hj_ => ?_, fun x_ hx_ => ?_⟩
          · by_cases e_ : j_ = m_
            · rw [e_]
              exact q_.2.1
            · have w_ := a_.2.1 j_ (by omega)
              rw [q_.1.1 _ w_]
              exact w_
          · by_cases e_ : (gmk pn_ pv_ gc_ b0_ f_ (pv_ u_ m_) (gfo (gmk pn_ pv_ gc_ b0_ f_) (pv_ u_) m_ s_)).1 x_ = (gfo (gmk pn_ pv_ gc_ b0_ f_) (pv_ u_) m_ s_).1 x_
            · rw [e_] at hx_
              exact a_.2.2 x_ hx_
            · have := q_.2.2 x_ e_
              omega
      have w_ := fold (pn_ u_) (Nat.le_refl _)
      rw [gmk_y z_]
      obtain ⟨t_, ht_⟩ : ∃ t_, gfo (gmk pn_ pv_ gc_ b0_ f_) (pv_ u_) (pn_ u_) s_ = t_ := ⟨_, rfl⟩
      rw [ht_] at w_ ⊢
      have tu_ : t_.1 u_ = -1 := by
        by_cases e_ : t_.1 u_ = s_.1 u_
        · rw [e_, z_]
        · have := w_.2.2 u_ e_
          omega
      refine ⟨gle_tr w_.1 ⟨fun x_ hx_ => if_neg (fun e_ => hx_ (by rw [e_]; exact tu_)), _, rfl⟩, ?_, fun x_ hx_ => ?_⟩
      · show (if u_ = u_ then b0_ + (t_.2.length : Int) else t_.1 u_) ≠ -1
        rw [if_pos rfl]
        omega
      · by_cases e_ : x_ = u_
        · rw [e_]
          exact Nat.le_refl _
        · have hx_ : (if x_ = u_ then b0_ + (t_.2.length : Int) else t_.1 x_) ≠ s_.1 x_ := hx_
          rw [if_neg e_] at hx_
          exact Nat.le_of_lt (w_.2.2 x_ hx_)
    · rw [gmk_n z_]
      exact ⟨gle_rf, z_, fun x_ hx_ => absurd rfl hx_⟩
/-- nothing is_ wanted of_ what is_ made -/
theorem gfo_id {f_ u_ : Nat} {s_ : (Nat → Int) × List (Int × List Int)} : ∀ m_, (∀ j_, j_ < m_ → s_.1 (pv_ u_ j_) ≠ -1) → gfo (gmk pn_ pv_ gc_ b0_ f_) (pv_ u_) m_ s_ = s_
  | 0, _ => rfl
  | m_ + 1, h_ => by
    rw [gfo_s, gfo_id m_ (fun j_ hj_ => h_ j_ (by omega)), gmk_n (h_ m_ (Nat.lt_succ_self m_))]
theorem gmk_d {f_ u_ : Nat} {s_ : (Nat → Int) × List (Int × List Int)} (z_ : s_.1 u_ = -1) (h_ : ∀ j_, j_ < pn_ u_ → s_.1 (pv_ u_ j_) ≠ -1) : gmk pn_ pv_ gc_ b0_ (f_ + 1) u_ s_ = gfin pn_ pv_ gc_ b0_ u_ s_ := by
  rw [gmk_y z_, gfo_id (pn_ u_) h_]
/-- more fuel changes nothing -/
theorem gmk_f (hb_ : 0 ≤ b0_) (hg_ : gdg pn_ pv_ rk_ G_ I_) : ∀ f_ g_ u_ s_, G_ u_ → (∀ x_, I_ x_ → s_.1 x_ ≠ -1) → rk_ u_ < f_ → rk_ u_ < g_ → gmk pn_ pv_ gc_ b0_ f_ u_ s_ = gmk pn_ pv_ gc_ b0_ g_ u_ s_ := by
  intro f_
  induction f_ with
  | zero => exact fun g_ u_ s_ _ _ h_ => absurd h_ (Nat.not_lt_zero _)
  | succ f_ ih_ =>
    intro g_ u_ s_ gu_ hI_ h1_ h2_
    cases g_ with
    | zero => exact absurd h2_ (Nat.not_lt_zero _)
    | succ g_ =>
      by_cases z_ : s_.1 u_ = -1
      · have ni_ : ¬ I_ u_ := fun i_ => hI_ u_ i_ z_
        rw [gmk_y z_, gmk_y z_]
        have fold : ∀ m_, m_ ≤ pn_ u_ → gfo (gmk pn_ pv_ gc_ b0_ f_) (pv_ u_) m_ s_ = gfo (gmk pn_ pv_ gc_ b0_ g_) (pv_ u_) m_ s_ ∧ ∀ x_, I_ x_ → (gfo (gmk pn_ pv_ gc_ b0_ f_) (pv_ u_) m_ s_).1 x_ ≠ -1 := by
          intro m_
          induction m_ with
          | zero => exact fun _ => ⟨rfl, hI_⟩
          | succ m_ ihm_ =>
            intro hm9_
            have a_ := ihm_ (by omega)
            have p_ := hg_ u_ gu_ ni_ m_ (by omega)
            rw [gfo_s, gfo_s, ← a_.1]
            have q_ := (gmk_r (gc_ := gc_) hb_ hg_ f_ (pv_ u_ m_) (gfo (gmk pn_ pv_ gc_ b0_ f_) (pv_ u_) m_ s_) p_.1 a_.2 (by omega)).1
            exact ⟨ih_ g_ (pv_ u_ m_) _ p_.1 a_.2 (by omega) (by omega), fun x_ hx_ => by rw [q_.1 x_ (a_.2 x_ hx_)]; exact a_.2 x_ hx_⟩
        rw [(fold (pn_ u_) (Nat.le_refl _)).1]
      · rw [gmk_n z_, gmk_n z_]
/-- the_ first part that is_ wanting may_ be_ made first -/
theorem gmk_p (hb_ : 0 ≤ b0_) (hg_ : gdg pn_ pv_ rk_ G_ I_) {f_ u_ k_ : Nat} {s_ : (Nat → Int) × List (Int × List Int)} (gu_ : G_ u_) (hI_ : ∀ x_, I_ x_ → s_.1 x_ ≠ -1) (hf_ : rk_ u_ < f_) (z_ : s_.1 u_ = -1) (hk_ : k_ < pn_ u_) (hj_ : ∀ j_, j_ < k_ → s_.1 (pv_ u_ j_) ≠ -1) : gmk pn_ pv_ gc_ b0_ f_ u_ s_ = gmk pn_ pv_ gc_ b0_ f_ u_ (gmk pn_ pv_ gc_ b0_ f_ (pv_ u_ k_) s_) := by
  have ni_ : ¬ I_ u_ := fun i_ => hI_ u_ i_ z_
  have p_ := hg_ u_ gu_ ni_ k_ hk_
  obtain ⟨g_, rfl⟩ : ∃ g_, f_ = g_ + 1 := ⟨f_ - 1, by omega⟩
  have eq_ : gmk pn_ pv_ gc_ b0_ (g_ + 1) (pv_ u_ k_) s_ = gmk pn_ pv_ gc_ b0_ g_ (pv_ u_ k_) s_ := gmk_f hb_ hg_ (g_ + 1) g_ (pv_ u_ k_) s_ p_.1 hI_ (by omega) (by omega)
  rw [eq_]
  obtain ⟨t_, ht_⟩ : ∃ t_, gmk pn_ pv_ gc_ b0_ g_ (pv_ u_ k_) s_ = t_ := ⟨_, rfl⟩
  have r_ := gmk_r (gc_ := gc_) hb_ hg_ g_ (pv_ u_ k_) s_ p_.1 hI_ (by omega)
  rw [ht_] at r_ ⊢
  have tu_ : t_.1 u_ = -1 := by
    by_cases e_ : t_.1 u_ = s_.1 u_
    · rw [e_, z_]
    · have := r_.2.2 u_ e_
      omega
  rw [gmk_y z_, gmk_y tu_]
  have fold : ∀ m_, k_ < m_ → gfo (gmk pn_ pv_ gc_ b0_ g_) (pv_ u_) m_ s_ = gfo (gmk pn_ pv_ gc_ b0_ g_) (pv_ u_) m_ t_ := by
    intro m_
    induction m_ with
    | zero => exact fun h_ => absurd h_ (Nat.not_lt_zero _)
    | succ m_ ihm_ =>
      intro hm9_
      rw [gfo_s, gfo_s]
      by_cases e_ : m_ = k_
      · rw [e_, gfo_id k_ hj_, gfo_id k_ (fun j_ hj2_ => by rw [r_.1.1 _ (hj_ j_ hj2_)]; exact hj_ j_ hj2_), ht_, gmk_n r_.2.1]
      · rw [ihm_ (by omega)]
  rw [fold (pn_ u_) hk_]
/-- both sides agree where it_ matters -/
theorem gmk_cg {qn_ : Nat → Nat} {qv_ : Nat → Nat → Nat} {hc_ : Nat → Int} {D_ : Nat → Prop} (hg_ : gdg pn_ pv_ rk_ G_ I_) (hD_ : ∀ u_, G_ u_ → D_ u_) (hI_ : ∀ x_, I_ x_ → D_ x_) (e_ : ∀ u_, G_ u_ → ¬ I_ u_ → pn_ u_ = qn_ u_ ∧ gc_ u_ = hc_ u_ ∧ ∀ k_, k_ < pn_ u_ → pv_ u_ k_ = qv_ u_ k_) (hb_ : 0 ≤ b0_) : ∀ f_ u_ s_ s'_, G_ u_ → (∀ x_, I_ x_ → s_.1 x_ ≠ -1) → rk_ u_ < f_ → (∀ x_, D_ x_ → s_.1 x_ = s'_.1 x_) → s_.2 = s'_.2 → (∀ x_, D_ x_ → (gmk pn_ pv_ gc_ b0_ f_ u_ s_).1 x_ = (gmk qn_ qv_ hc_ b0_ f_ u_ s'_).1 x_) ∧ (gmk pn_ pv_ gc_ b0_ f_ u_ s_).2 = (gmk qn_ qv_ hc_ b0_ f_ u_ s'_).2 := by
  intro f_
  induction f_ with
  | zero => exact fun u_ s_ s'_ _ _ h_ => absurd h_ (Nat.not_lt_zero _)
  | succ f_ ih_ =>
    intro u_ s_ s'_ gu_ hIs_ hf_ h1_ h2_
    have eu_ := h1_ u_ (hD_ u_ gu_)
    by_cases z_ : s_.1 u_ = -1
    · have ni_ : ¬ I_ u_ := fun i_ => hIs_ u_ i_ z_
      have q_ := e_ u_ gu_ ni_
      rw [gmk_y z_, gmk_y (by rw [← eu_]; exact z_)]
      have fold : ∀ m_, m_ ≤ pn_ u_ → ((∀ x_, D_ x_ → (gfo (gmk pn_ pv_ gc_ b0_ f_) (pv_ u_) m_ s_).1 x_ = (gfo (gmk qn_ qv_ hc_ b0_ f_) (qv_ u_) m_ s'_).1 x_) ∧ (gfo (gmk pn_ pv_ gc_ b0_ f_) (pv_ u_) m_ s_).2 = (gfo (gmk qn_ qv_ hc_ b0_ f_) (qv_ u_) m_ s'_).2) ∧ ∀ x_, I_ x_ → (gfo (gmk pn_ pv_ gc_ b0_ f_) (pv_ u_) m_ s_).1 x_ ≠ -1 := by
        intro m_
        induction m_ with
        | zero => exact fun _ => ⟨⟨h1_, h2_⟩, hIs_⟩
        | succ m_ ihm_ =>
          intro hm9_
          have a_ := ihm_ (by omega)
          have p_ := hg_ u_ gu_ ni_ m_ (by omega)
          have w_ := (gmk_r (gc_ := gc_) hb_ hg_ f_ (pv_ u_ m_) (gfo (gmk pn_ pv_ gc_ b0_ f_) (pv_ u_) m_ s_) p_.1 a_.2 (by omega)).1
          rw [gfo_s, gfo_s, ← q_.2.2 m_ (by omega)]
          exact ⟨ih_ (pv_ u_ m_) _ _ p_.1 a_.2 (by omega) a_.1.1 a_.1.2, fun x_ hx_ => by rw [w_.1 x_ (a_.2 x_ hx_)]; exact a_.2 x_ hx_⟩
      have w_ := fold (pn_ u_) (Nat.le_refl _)
      rw [← q_.1]
      obtain ⟨t_, ht_⟩ : ∃ t_, gfo (gmk pn_ pv_ gc_ b0_ f_) (pv_ u_) (pn_ u_) s_ = t_ := ⟨_, rfl⟩
      obtain ⟨t'_, ht'_⟩ : ∃ t'_, gfo (gmk qn_ qv_ hc_ b0_ f_) (qv_ u_) (pn_ u_) s'_ = t'_ := ⟨_, rfl⟩
      rw [ht_, ht'_] at w_ ⊢
      refine ⟨fun x_ hx_ => ?_, ?_⟩
      · show (if x_ = u_ then b0_ + (t_.2.length : Int) else t_.1 x_) = (if x_ = u_ then b0_ + (t'_.2.length : Int) else t'_.1 x_)
        rw [w_.1.2, w_.1.1 x_ hx_]
      · show t_.2 ++ [(gc_ u_, nts (fun k_ => t_.1 (pv_ u_ k_)) (pn_ u_))] = t'_.2 ++ [(hc_ u_, nts (fun k_ => t'_.1 (qv_ u_ k_)) (qn_ u_))]
        have nn9_ : ∀ m_, m_ ≤ pn_ u_ → nts (fun k_ => t_.1 (pv_ u_ k_)) m_ = nts (fun k_ => t'_.1 (qv_ u_ k_)) m_ := by
          intro m_
          induction m_ with
          | zero => exact fun _ => rfl
          | succ m_ ihm_ =>
            intro hm9_
            show nts (fun k_ => t_.1 (pv_ u_ k_)) m_ ++ [t_.1 (pv_ u_ m_)] = nts (fun k_ => t'_.1 (qv_ u_ k_)) m_ ++ [t'_.1 (qv_ u_ m_)]
            rw [ihm_ (by omega), ← q_.2.2 m_ (by omega), w_.1.1 _ (hD_ _ (hg_ u_ gu_ ni_ m_ (by omega)).1)]
        rw [w_.1.2, q_.2.1, ← q_.1, nn9_ (pn_ u_) (Nat.le_refl _)]
    · rw [gmk_n z_, gmk_n (by rw [← eu_]; exact z_)]
      exact ⟨h1_, h2_⟩
/-! stacks of_ tasks -/
theorem gsr_n {f_ u_ : Nat} {l_ : List Nat} {s_ : (Nat → Int) × List (Int × List Int)} (h_ : ¬ s_.1 u_ = -1) : gsr pn_ pv_ gc_ b0_ f_ (u_ :: l_) s_ = gsr pn_ pv_ gc_ b0_ f_ l_ s_ := by
  show gsr pn_ pv_ gc_ b0_ f_ l_ (gmk pn_ pv_ gc_ b0_ f_ u_ s_) = _
  rw [gmk_n h_]
theorem gsr_p (hb_ : 0 ≤ b0_) (hg_ : gdg pn_ pv_ rk_ G_ I_) {f_ u_ k_ : Nat} {l_ : List Nat} {s_ : (Nat → Int) × List (Int × List Int)} (gu_ : G_ u_) (hI_ : ∀ x_, I_ x_ → s_.1 x_ ≠ -1) (hf_ : rk_ u_ < f_) (z_ : s_.1 u_ = -1) (hk_ : k_ < pn_ u_) (hj_ : ∀ j_, j_ < k_ → s_.1 (pv_ u_ j_) ≠ -1) : gsr pn_ pv_ gc_ b0_ f_ (u_ :: l_) s_ = gsr pn_ pv_ gc_ b0_ f_ (pv_ u_ k_ :: u_ :: l_) s_ := by
  show gsr pn_ pv_ gc_ b0_ f_ l_ (gmk pn_ pv_ gc_ b0_ f_ u_ s_) = gsr pn_ pv_ gc_ b0_ f_ l_ (gmk pn_ pv_ gc_ b0_ f_ u_ (gmk pn_ pv_ gc_ b0_ f_ (pv_ u_ k_) s_))
  rw [← gmk_p hb_ hg_ gu_ hI_ hf_ z_ hk_ hj_]
theorem gsr_d {f_ u_ : Nat} {l_ : List Nat} {s_ : (Nat → Int) × List (Int × List Int)} (hf_ : 0 < f_) (z_ : s_.1 u_ = -1) (h_ : ∀ j_, j_ < pn_ u_ → s_.1 (pv_ u_ j_) ≠ -1) : gsr pn_ pv_ gc_ b0_ f_ (u_ :: l_) s_ = gsr pn_ pv_ gc_ b0_ f_ l_ (gfin pn_ pv_ gc_ b0_ u_ s_) := by
  obtain ⟨g_, rfl⟩ : ∃ g_, f_ = g_ + 1 := ⟨f_ - 1, by omega⟩
  show gsr pn_ pv_ gc_ b0_ (g_ + 1) l_ (gmk pn_ pv_ gc_ b0_ (g_ + 1) u_ s_) = _
  rw [gmk_d z_ h_]
/-- no_ gate goes -/
theorem gsr_l (hb_ : 0 ≤ b0_) (hg_ : gdg pn_ pv_ rk_ G_ I_) {f_ : Nat} : ∀ (l_ : List Nat) (s_ : (Nat → Int) × List (Int × List Int)), (∀ u_, u_ ∈ l_ → G_ u_ ∧ rk_ u_ < f_) → (∀ x_, I_ x_ → s_.1 x_ ≠ -1) → gle s_ (gsr pn_ pv_ gc_ b0_ f_ l_ s_)
  | [], s_, _, _ => gle_rf
  | u_ :: l_, s_, h_, hI_ => by
    have q_ := (gmk_r (gc_ := gc_) hb_ hg_ f_ u_ s_ (h_ u_ List.mem_cons_self).1 hI_ (h_ u_ List.mem_cons_self).2).1
    exact gle_tr q_ (gsr_l hb_ hg_ l_ _ (fun v_ hv_ => h_ v_ (List.mem_cons_of_mem _ hv_)) (fun x_ hx_ => by rw [q_.1 x_ (hI_ x_ hx_)]; exact hI_ x_ hx_))
end GM_
/-- the_ stack in a_ row_, the_ last one_ on_ top_ -/
def stq (A_ : Nat → Int) : Nat → List Nat
  | 0 => []
  | k_ + 1 => (A_ k_).toNat :: stq A_ k_
theorem stq_cg {A_ B_ : Nat → Int} : ∀ m_, (∀ j_, j_ < m_ → A_ j_ = B_ j_) → stq A_ m_ = stq B_ m_
  | 0, _ => rfl
  | m_ + 1, h_ => by
    show (A_ m_).toNat :: stq A_ m_ = (B_ m_).toNat :: stq B_ m_
    rw [h_ m_ (Nat.lt_succ_self m_), stq_cg m_ (fun j_ hj_ => h_ j_ (by omega))]
theorem stq_m {A_ : Nat → Int} {x_ : Nat} : ∀ {m_ : Nat}, x_ ∈ stq A_ m_ → ∃ j_, j_ < m_ ∧ x_ = (A_ j_).toNat
  | 0, h_ => absurd h_ List.not_mem_nil
  | m_ + 1, h_ => by
    rcases List.mem_cons.mp h_ with e_ | e_
    · exact ⟨m_, Nat.lt_succ_self m_, e_⟩
    · obtain ⟨j_, j1_, j2_⟩ := stq_m e_
      exact ⟨j_, by omega, j2_⟩
end
/-! 99.ztZZ -/
section
/-! gates made: the class; written by wip/p55/gen/vg -/

def exi (p_ : Int → Prop) : Prop := ∃ k_, p_ k_
theorem exi_i {p_ : Int → Prop} (k_ : Int) (h_ : p_ k_) : exi p_ := ⟨k_, h_⟩
/-! gates made, the_ class -/
def cpn (ll_ : Nat) (S_ : sm_S) (u_ : Nat) : Nat := (pno (S_.2.2.1 62 0) (S_.2.2.1 55 (0 + ll_)) (u_ : Int)).toNat
def cpv (F_ : Int) (S_ : sm_S) (u_ k_ : Nat) : Nat := (ptv F_ (S_.2.2.1 60 0) (S_.2.2.1 62 0) (S_.2.2.1 63 0) (S_.2.2.1 64 0) (u_ : Int) (k_ : Int)).toNat
def cgc (ll_ : Nat) (S_ : sm_S) (u_ : Nat) : Int := if (u_ : Int) % 3 = 2 then S_.1 5 ll_ 2 else if S_.2.2.1 62 0 (2 * ((u_ : Int) / 3) + (u_ : Int) % 3).toNat < 0 then S_.1 5 ll_ 2 else S_.2.2.1 62 0 (2 * ((u_ : Int) / 3) + (u_ : Int) % 3).toNat
def crk (S_ : sm_S) (u_ : Nat) : Nat := (grk (S_.2.2.1 62 0) (u_ : Int)).toNat
def cgk (F_ N_ : Int) (ll_ : Nat) (S_ : sm_S) (u_ : Nat) : Prop := gtk F_ N_ (S_.1 5 ll_ 2) (S_.2.2.1 59 0) (S_.2.2.1 62 0) (u_ : Int)
def cin (F_ : Int) (u_ : Nat) : Prop := 3 ≤ u_ ∧ (u_ : Int) / 3 < F_ ∧ (u_ : Int) % 3 = 0
theorem gdg_c {F_ N_ : Int} {ll_ : Nat} {S_ : sm_S} (h_ : wal F_ N_ ll_ S_) (hf_ : 1 ≤ F_) : gdg (cpn ll_ S_) (cpv F_ S_) (crk S_) (cgk F_ N_ ll_ S_) (cin F_) := by
  intro u_ gu_ ni_ k_ hk_
  have g3_ := gu_.1
  have p_ := gtk_p h_ hf_ gu_ (fun q_ => ni_ ⟨by omega, q_⟩) (k_ := (k_ : Int)) ⟨by omega, by unfold cpn at hk_; omega⟩
  have p3_ := p_.1.1
  have b1_ := grk_b (S_.2.2.1 62 0) (u_ : Int)
  have b2_ := grk_b (S_.2.2.1 62 0) (ptv F_ (S_.2.2.1 60 0) (S_.2.2.1 62 0) (S_.2.2.1 63 0) (S_.2.2.1 64 0) (u_ : Int) (k_ : Int))
  have e_ : ((cpv F_ S_ u_ k_ : Nat) : Int) = ptv F_ (S_.2.2.1 60 0) (S_.2.2.1 62 0) (S_.2.2.1 63 0) (S_.2.2.1 64 0) (u_ : Int) (k_ : Int) := by
    unfold cpv
    omega
  refine ⟨?_, ?_⟩
  · unfold cgk
    rw [e_]
    exact p_.1
  · unfold crk
    rw [e_]
    have := p_.2
    omega
/-- the_ gates of_ a_ chip -/
def cgz (cc_ : Nat) (S_ : sm_S) (gs_ : List (Int × List Int)) : Prop := S_.1 2 cc_ 8 = (gs_.length : Int) ∧ ∀ (g_ : Nat) (c_ : Int) (ns_ : List Int), gs_[g_]? = some (c_, ns_) → S_.2.2.1 35 (0 + cc_) g_ = c_ ∧ ns_.length ≤ 3 ∧ ∀ (k_ : Nat) (x_ : Int), ns_[k_]? = some x_ → S_.2.2.1 36 (0 + cc_) (3 * g_ + k_) = x_
theorem nts_l {g_ : Nat → Int} : ∀ m_, (nts g_ m_).length = m_
  | 0 => rfl
  | m_ + 1 => by
    show (nts g_ m_ ++ [g_ m_]).length = m_ + 1
    rw [List.length_append, nts_l m_]
    rfl
theorem nts_x {g_ : Nat → Int} {k_ : Nat} {x_ : Int} : ∀ {m_ : Nat}, (nts g_ m_)[k_]? = some x_ → k_ < m_ ∧ x_ = g_ k_
  | 0, h_ => by
    have h_ : (none : Option Int) = some x_ := h_
    cases h_
  | m_ + 1, h_ => by
    have h_ : (nts g_ m_ ++ [g_ m_])[k_]? = some x_ := h_
    by_cases c_ : k_ < m_
    · rw [List.getElem?_append_left (by rw [nts_l]; exact c_)] at h_
      have q_ := nts_x h_
      exact ⟨by omega, q_.2⟩
    · have l_ := (List.getElem?_eq_some_iff.mp h_).1
      rw [List.length_append, nts_l] at l_
      have l_ : k_ < m_ + 1 := l_
      have e_ : k_ = m_ := by omega
      rw [e_, List.getElem?_append_right (by rw [nts_l]; exact Nat.le_refl _), nts_l, Nat.sub_self] at h_
      have h_ : some (g_ m_) = some x_ := h_
      exact ⟨by omega, by rw [e_]; exact (Option.some.inj h_).symm⟩
theorem cgz_a {cc_ : Nat} {S_ S'_ : sm_S} {gs_ : List (Int × List Int)} {c_ : Int} {ns_ : List Int} (h_ : cgz cc_ S_ gs_) (e8_ : S'_.1 2 cc_ 8 = S_.1 2 cc_ 8 + 1) (e35_ : ∀ g_, g_ ≠ gs_.length → S'_.2.2.1 35 (0 + cc_) g_ = S_.2.2.1 35 (0 + cc_) g_) (n35_ : S'_.2.2.1 35 (0 + cc_) gs_.length = c_) (e36_ : ∀ j_, (j_ < 3 * gs_.length ∨ 3 * gs_.length + 3 ≤ j_) → S'_.2.2.1 36 (0 + cc_) j_ = S_.2.2.1 36 (0 + cc_) j_) (l3_ : ns_.length ≤ 3) (n36_ : ∀ (k_ : Nat) (x_ : Int), ns_[k_]? = some x_ → S'_.2.2.1 36 (0 + cc_) (3 * gs_.length + k_) = x_) : cgz cc_ S'_ (gs_ ++ [(c_, ns_)]) := by
  refine ⟨?_, fun g_ d_ ms_ hg_ => ?_⟩
  · rw [e8_, h_.1, List.length_append]
    rfl
  · by_cases z_ : g_ < gs_.length
    · rw [List.getElem?_append_left z_] at hg_
      have q_ := h_.2 g_ d_ ms_ hg_
      refine ⟨by rw [e35_ g_ (by omega)]; exact q_.1, q_.2.1, fun k_ x_ hx_ => ?_⟩
      have l_ := (List.getElem?_eq_some_iff.mp hx_).1
      have := q_.2.1
      rw [e36_ _ (by omega)]
      exact q_.2.2 k_ x_ hx_
    · have l_ := (List.getElem?_eq_some_iff.mp hg_).1
      rw [List.length_append] at l_
      have l_ : g_ < gs_.length + 1 := l_
      have e_ : g_ = gs_.length := by omega
      rw [e_, List.getElem?_append_right (Nat.le_refl _), Nat.sub_self] at hg_
      have hg_ : some (c_, ns_) = some (d_, ms_) := hg_
      cases hg_
      rw [e_]
      exact ⟨n35_, l3_, n36_⟩
theorem cgz_fr {w_ : sx_Wl} {cc_ : Nat} {S_ S'_ : sm_S} {gs_ : List (Int × List Int)} (h_ : cgz cc_ S_ gs_) (g_ : ai_fr (sx_W w_) S_ S'_) (a_ : (sx_W w_).1 2 8 = false := by rfl) (b_ : (sx_W w_).2.1 35 = false := by rfl) (c_ : (sx_W w_).2.1 36 = false := by rfl) : cgz cc_ S'_ gs_ := by
  unfold cgz
  rw [g_.1 2 cc_ 8 a_, fr_arr (t := 35) g_ b_, fr_arr (t := 36) g_ c_]
  exact h_

/-! Mapper.missingPart -/
def vw_113n : sx_Wl := ([], [], [])
def vq_113n (a1_ : Int) (dd_ : Nat) (ll_ : Nat) (S0_ : sm_S) (u_ : Option sm_V) (S1_ : sm_S) : Prop := S0_ = S1_ ∧ ∃ v_ : Int, u_ = some (.inl v_) ∧ ((v_ = -1 ∧ ∀ k_ : Int, 0 ≤ k_ → k_ < pno (S0_.2.2.1 62 0) (S0_.2.2.1 55 (0 + ll_)) a1_ → S0_.2.2.1 72 0 (ptv (1 + S0_.1 3 dd_ 1 + S0_.1 3 dd_ 2) (S0_.2.2.1 60 0) (S0_.2.2.1 62 0) (S0_.2.2.1 63 0) (S0_.2.2.1 64 0) a1_ k_).toNat ≠ -1) ∨ (v_ ≠ -1 ∧ gtk (1 + S0_.1 3 dd_ 1 + S0_.1 3 dd_ 2) (S0_.1 3 dd_ 4) (S0_.1 5 ll_ 2) (S0_.2.2.1 59 0) (S0_.2.2.1 62 0) v_ ∧ grk (S0_.2.2.1 62 0) v_ < grk (S0_.2.2.1 62 0) a1_ ∧ S0_.2.2.1 72 0 v_.toNat = -1 ∧ exi (fun k_ : Int => (0 ≤ k_ ∧ k_ < pno (S0_.2.2.1 62 0) (S0_.2.2.1 55 (0 + ll_)) a1_) ∧ v_ = ptv (1 + S0_.1 3 dd_ 1 + S0_.1 3 dd_ 2) (S0_.2.2.1 60 0) (S0_.2.2.1 62 0) (S0_.2.2.1 63 0) (S0_.2.2.1 64 0) a1_ k_ ∧ ∀ j_ : Int, 0 ≤ j_ → j_ < k_ → S0_.2.2.1 72 0 (ptv (1 + S0_.1 3 dd_ 1 + S0_.1 3 dd_ 2) (S0_.2.2.1 60 0) (S0_.2.2.1 62 0) (S0_.2.2.1 63 0) (S0_.2.2.1 64 0) a1_ j_).toNat ≠ -1)))
set_option maxHeartbeats 400000 in
theorem vl_113n {sc_ : Nat × (Nat → Int)} (a1_ : Int) (dd_ : Nat) (ll_ : Nat) (S0_ : sm_S) (hd_ : S0_.2.1 6 0 0 = some dd_) (hc_ : S0_.2.1 6 0 1 = some ll_) (hw_ : wal (1 + S0_.1 3 dd_ 1 + S0_.1 3 dd_ 2) (S0_.1 3 dd_ 4) ll_ S0_) (hgt_ : gtk (1 + S0_.1 3 dd_ 1 + S0_.1 3 dd_ 2) (S0_.1 3 dd_ 4) (S0_.1 5 ll_ 2) (S0_.2.2.1 59 0) (S0_.2.2.1 62 0) a1_) (hni_ : ¬ (a1_ / 3 < (1 + S0_.1 3 dd_ 1 + S0_.1 3 dd_ 2) ∧ a1_ % 3 = 0)) : ∀ nn_ : Nat, (∀ (k_ : Int) (S_ : sm_S), gi S_ → ai_fr (sx_W vw_113n) S0_ S_ → ((0 ≤ k_ ∧ k_ ≤ 3) ∧ (∀ j_ : Int, 0 ≤ j_ → j_ < k_ → S0_.2.2.1 72 0 (ptv (1 + S0_.1 3 dd_ 1 + S0_.1 3 dd_ 2) (S0_.2.2.1 60 0) (S0_.2.2.1 62 0) (S0_.2.2.1 63 0) (S0_.2.2.1 64 0) a1_ j_).toNat ≠ -1) ∧ (S_ = S0_) ∧ True) → ((100 - k_).toNat) < nn_ → sm_T (mt_P sc_) 3 113 (2, [some (.inr (.inr (some (6, 0)))), some (.inl a1_), some (.inl k_), none], [], S_) (fun ro9_ => ∃ u_ S1_, ro9_ = (.inl u_, S1_, 0) ∧ vq_113n a1_ dd_ ll_ S0_ u_ S1_)) := by
  intro nn_
  induction nn_ with
  | zero => exact fun _ _ _ _ _ h_ => absurd h_ (Nat.not_lt_zero _)
  | succ nn_ ih_ =>
    rintro k_ S_ hI_ hF_ ⟨h0_, hk9_, hS_, -⟩ hm_
    have cI_ : 0 ≤ S_.1 3 dd_ 1 ∧ S_.1 3 dd_ 1 ≤ 320 := hI_.1 3 dd_ 1 rfl
    have cR_ : 0 ≤ S_.1 3 dd_ 2 ∧ S_.1 3 dd_ 2 ≤ 100000 := hI_.1 3 dd_ 2 rfl
    have cN_ : 0 ≤ S_.1 3 dd_ 4 ∧ S_.1 3 dd_ 4 ≤ 1013 := hI_.1 3 dd_ 4 rfl
    have f1_ : S_.1 3 dd_ 1 = S0_.1 3 dd_ 1 := by rw [hS_]
    have f2_ : S_.1 3 dd_ 2 = S0_.1 3 dd_ 2 := by rw [hS_]
    have f4_ : S_.1 3 dd_ 4 = S0_.1 3 dd_ 4 := by rw [hS_]
    have hf_ : 1 ≤ (1 + S0_.1 3 dd_ 1 + S0_.1 3 dd_ 2) := by omega
    have t1_ := hgt_.1
    have t2_ := hgt_.2.1
    refine sm_T_go 3 (c1 := (5, [some (.inr (.inr (some (6, 0)))), some (.inl a1_), some (.inl k_), none], [.inl a1_, .inr (.inr (some (6, 0))), .inl k_], S_)) rfl ?_
    refine sm_T_cal (d1 := 0) (Q1 := vq_111 a1_ ll_ S_) rfl rfl (by decide) (vc_111 a1_ ll_ S_ hI_ (by (rw [hS_]; exact hc_)) (by omega)) (fun u_ Sx1_ px4_ => ?_)
    obtain ⟨rfl, vx6_, rfl, px4_⟩ := px4_
    have a5_ := px4_
    rw [hS_] at a5_
    refine sm_T_br (a := 3) (z := 28) rfl (fun cx7_ => ?_) (fun cx7_ => ?_)
    · have cx7_ : vx6_ ≤ k_ := of_decide_eq_true cx7_
      refine sm_T_go 1 (c1 := (37, [some (.inr (.inr (some (6, 0)))), some (.inl a1_), some (.inl k_), none], [.inl (-1)], S_)) rfl ?_
      refine sm_T_ri rfl ⟨_, _, rfl, (by first | rfl | exact hS_.symm), _, rfl, ?_⟩
      left
      exact ⟨rfl, fun j_ u_ w_ => hk9_ j_ u_ (by omega)⟩
    · have cx7_ : ¬ (vx6_ ≤ k_) := of_decide_eq_false cx7_
      refine sm_T_go 3 (c1 := (14, [some (.inr (.inr (some (6, 0)))), some (.inl a1_), some (.inl k_), none], [.inl k_, .inl a1_, .inr (.inr (some (6, 0)))], S_)) rfl ?_
      refine sm_T_cal (d1 := 2) (Q1 := vq_112 a1_ k_ dd_ S_) rfl rfl (by decide) (vc_112 a1_ k_ dd_ S_ hI_ (by (rw [hS_]; exact hd_)) (by omega) (by omega)) (fun u_ Sx8_ px11_ => ?_)
      obtain ⟨rfl, vx13_, rfl, px11_⟩ := px11_
      have a14_ : vx13_ = ptv (1 + S0_.1 3 dd_ 1 + S0_.1 3 dd_ 2) (S0_.2.2.1 60 0) (S0_.2.2.1 62 0) (S0_.2.2.1 63 0) (S0_.2.2.1 64 0) a1_ k_ := by (have z9_ := px11_; rw [hS_] at z9_; exact z9_)
      have gp_ := gtk_p hw_ hf_ hgt_ hni_ (k_ := k_) (by omega)
      rw [← a14_] at gp_
      have g13_ := gp_.1.1
      have g14_ := gp_.1.2.1
      refine sm_T_go 4 (c1 := (23, [some (.inr (.inr (some (6, 0)))), some (.inl a1_), some (.inl k_), some (.inl vx13_)], [.inl vx13_, .inr (.inr (some (72, 0)))], S_)) rfl ?_
      refine sm_T_iald (n := 3039) rfl rfl (by omega) (by omega) ?_
      have bx14_ : (-1) ≤ S_.2.2.1 72 0 vx13_.toNat ∧ S_.2.2.1 72 0 vx13_.toNat ≤ 161 := hI_.2 72 0 _
      refine sm_T_go 1 (c1 := (25, [some (.inr (.inr (some (6, 0)))), some (.inl a1_), some (.inl k_), some (.inl vx13_)], [.inl (-1), .inl (S_.2.2.1 72 0 vx13_.toNat)], S_)) rfl ?_
      refine sm_T_br (a := 1) (z := 5) rfl (fun cx15_ => ?_) (fun cx15_ => ?_)
      · have cx15_ : (S_.2.2.1 72 0 vx13_.toNat) ≠ (-1) := of_decide_eq_true cx15_
        refine sm_T_inc (a := 2) (z := 1) (v := k_) (w := k_ + 1) rfl rfl (by omega) (by omega) (by omega) ?_ -- pc_ 30
        refine sm_T_go 1 (c1 := (2, [some (.inr (.inr (some (6, 0)))), some (.inl a1_), some (.inl (k_ + 1)), some (.inl vx13_)], [], S_)) rfl ?_
        refine sm_T_wk [some (.inr (.inr (some (6, 0)))), some (.inl a1_), some (.inl (k_ + 1)), none] (by exact ⟨rfl, rfl, rfl, trivial⟩) ?_
        refine ih_ (k_ + 1) S_ hI_ hF_ ⟨?_, ?_, ?_, trivial⟩ ?_
        · omega
        · intro j_ u_ w_
          by_cases y_ : j_ = k_
          · rw [y_, ← a14_, ← hS_]; omega
          · exact hk9_ j_ u_ (by omega)
        · first | rfl | exact hS_
        · omega
      · have cx15_ : ¬ ((S_.2.2.1 72 0 vx13_.toNat) ≠ (-1)) := of_decide_eq_false cx15_
        refine sm_T_go 1 (c1 := (29, [some (.inr (.inr (some (6, 0)))), some (.inl a1_), some (.inl k_), some (.inl vx13_)], [.inl vx13_], S_)) rfl ?_
        refine sm_T_ri rfl ⟨_, _, rfl, (by first | rfl | exact hS_.symm), _, rfl, ?_⟩
        right
        exact ⟨by omega, gp_.1, gp_.2, by (rw [← hS_]; omega), exi_i k_ ⟨by omega, a14_, hk9_⟩⟩
set_option maxHeartbeats 400000 in
theorem vc_113n {sc_ : Nat × (Nat → Int)} (a1_ : Int) (dd_ : Nat) (ll_ : Nat) (S0_ : sm_S) (hI_ : gi S0_) (hd_ : S0_.2.1 6 0 0 = some dd_) (hc_ : S0_.2.1 6 0 1 = some ll_) (hw_ : wal (1 + S0_.1 3 dd_ 1 + S0_.1 3 dd_ 2) (S0_.1 3 dd_ 4) ll_ S0_) (hgt_ : gtk (1 + S0_.1 3 dd_ 1 + S0_.1 3 dd_ 2) (S0_.1 3 dd_ 4) (S0_.1 5 ll_ 2) (S0_.2.2.1 59 0) (S0_.2.2.1 62 0) a1_) (hni_ : ¬ (a1_ / 3 < (1 + S0_.1 3 dd_ 1 + S0_.1 3 dd_ 2) ∧ a1_ % 3 = 0)) : sm_T (mt_P sc_) 3 113 (0, [some (.inr (.inr (some (6, 0)))), some (.inl a1_), none, none], [], S0_) (fun ro9_ => ∃ u_ S1_, ro9_ = (.inl u_, S1_, 0) ∧ vq_113n a1_ dd_ ll_ S0_ u_ S1_) := by
  have hF_ : ai_fr (sx_W vw_113n) S0_ S0_ := ai_fr_rf
  have cI_ : 0 ≤ S0_.1 3 dd_ 1 ∧ S0_.1 3 dd_ 1 ≤ 320 := hI_.1 3 dd_ 1 rfl
  have cR_ : 0 ≤ S0_.1 3 dd_ 2 ∧ S0_.1 3 dd_ 2 ≤ 100000 := hI_.1 3 dd_ 2 rfl
  have cN_ : 0 ≤ S0_.1 3 dd_ 4 ∧ S0_.1 3 dd_ 4 ≤ 1013 := hI_.1 3 dd_ 4 rfl
  have hf_ : 1 ≤ (1 + S0_.1 3 dd_ 1 + S0_.1 3 dd_ 2) := by omega
  have t1_ := hgt_.1
  have t2_ := hgt_.2.1
  refine sm_T_go 2 (c1 := (2, [some (.inr (.inr (some (6, 0)))), some (.inl a1_), some (.inl 0), none], [], S0_)) rfl ?_
  refine (vl_113n a1_ dd_ ll_ S0_ hd_ hc_ hw_ hgt_ hni_ _) 0 S0_ hI_ hF_ ⟨?_, ?_, ?_, trivial⟩ (Nat.lt_succ_self _)
  · omega
  · (intro j_ u_ w_; exfalso; omega)
  · first | rfl | exact hS_
/-! Mapper.finishTask -/
def vw_114n : sx_Wl := ([(2, 8)], [35, 36], [])
def vq_114n (a1_ : Int) (dd_ : Nat) (ll_ : Nat) (cc_ : Nat) (gs_ : List (Int × List Int)) (S0_ : sm_S) (u_ : Option sm_V) (S1_ : sm_S) : Prop := ∃ v_ : Int, u_ = some (.inl v_) ∧ gi S1_ ∧ ai_fr (sx_W vw_114n) S0_ S1_ ∧ (cdf cc_ S0_ S1_ ∧ ((v_ = S0_.1 2 cc_ 1 + S0_.1 2 cc_ 2 + S0_.1 2 cc_ 8 ∧ S1_.1 2 cc_ 8 = S0_.1 2 cc_ 8 + 1) ∧ cgz cc_ S1_ (gs_ ++ [(cgc ll_ S0_ a1_.toNat, nts (fun k_ => S0_.2.2.1 72 0 (cpv (1 + S0_.1 3 dd_ 1 + S0_.1 3 dd_ 2) S0_ a1_.toNat k_)) (cpn ll_ S0_ a1_.toNat))])))
set_option maxHeartbeats 1000000 in
theorem vl_114n {sc_ : Nat × (Nat → Int)} (a1_ : Int) (dd_ : Nat) (ll_ : Nat) (cc_ : Nat) (gs_ : List (Int × List Int)) (S0_ : sm_S) (hgl_ : cgz cc_ S0_ gs_) (hd_ : S0_.2.1 6 0 0 = some dd_) (hc_ : S0_.2.1 6 0 1 = some ll_) (hw_ : wal (1 + S0_.1 3 dd_ 1 + S0_.1 3 dd_ 2) (S0_.1 3 dd_ 4) ll_ S0_) (hgt_ : gtk (1 + S0_.1 3 dd_ 1 + S0_.1 3 dd_ 2) (S0_.1 3 dd_ 4) (S0_.1 5 ll_ 2) (S0_.2.2.1 59 0) (S0_.2.2.1 62 0) a1_) (hni_ : ¬ (a1_ / 3 < (1 + S0_.1 3 dd_ 1 + S0_.1 3 dd_ 2) ∧ a1_ % 3 = 0)) (hs2_ : S0_.1 2 cc_ 1 + S0_.1 2 cc_ 2 ≤ 12) (hg8_ : S0_.1 2 cc_ 8 < 150) (hmd_ : ∀ k_ : Int, 0 ≤ k_ → k_ < pno (S0_.2.2.1 62 0) (S0_.2.2.1 55 (0 + ll_)) a1_ → S0_.2.2.1 72 0 (ptv (1 + S0_.1 3 dd_ 1 + S0_.1 3 dd_ 2) (S0_.2.2.1 60 0) (S0_.2.2.1 62 0) (S0_.2.2.1 63 0) (S0_.2.2.1 64 0) a1_ k_).toNat ≠ -1) : ∀ nn_ : Nat, (∀ (g9_ : Int) (c9_ : Int) (k_ : Int) (S_ : sm_S), gi S_ → ai_fr (sx_W vw_114n) S0_ S_ → ((0 ≤ k_ ∧ k_ ≤ 3 ∧ g9_ = S0_.1 2 cc_ 8) ∧ (S_.1 2 cc_ 8 = S0_.1 2 cc_ 8) ∧ ((∀ g_ : Nat, (g_ : Int) ≠ g9_ → S_.2.2.1 35 (0 + cc_) g_ = S0_.2.2.1 35 (0 + cc_) g_) ∧ S_.2.2.1 35 (0 + cc_) g9_.toNat = cgc ll_ S0_ a1_.toNat) ∧ ((∀ j_ : Nat, ((j_ : Int) < 3 * g9_ ∨ 3 * g9_ + 3 ≤ (j_ : Int)) → S_.2.2.1 36 (0 + cc_) j_ = S0_.2.2.1 36 (0 + cc_) j_) ∧ ∀ j_ : Int, 0 ≤ j_ → j_ < k_ → S_.2.2.1 36 (0 + cc_) (3 * g9_ + j_).toNat = S0_.2.2.1 72 0 (ptv (1 + S0_.1 3 dd_ 1 + S0_.1 3 dd_ 2) (S0_.2.2.1 60 0) (S0_.2.2.1 62 0) (S0_.2.2.1 63 0) (S0_.2.2.1 64 0) a1_ j_).toNat) ∧ (cdf cc_ S0_ S_) ∧ True) → ((100 - k_).toNat) < nn_ → sm_T (mt_P sc_) 3 114 (59, [some (.inr (.inr (some (6, 0)))), some (.inl a1_), some (.inr (.inr (some (2, cc_)))), some (.inl g9_), some (.inl c9_), some (.inl k_)], [], S_) (fun ro9_ => ∃ u_ S1_, ro9_ = (.inl u_, S1_, 0) ∧ vq_114n a1_ dd_ ll_ cc_ gs_ S0_ u_ S1_)) := by
  intro nn_
  induction nn_ with
  | zero => exact fun _ _ _ _ _ _ _ h_ => absurd h_ (Nat.not_lt_zero _)
  | succ nn_ ih_ =>
    rintro g9_ c9_ k_ S_ hI_ hF_ ⟨h0_, h8_, hc35_, hn36_, hC_, -⟩ hm_
    have f59_ : S_.2.2.1 59 0 = S0_.2.2.1 59 0 := fr_arr hF_ rfl
    have f60_ : S_.2.2.1 60 0 = S0_.2.2.1 60 0 := fr_arr hF_ rfl
    have f62_ : S_.2.2.1 62 0 = S0_.2.2.1 62 0 := fr_arr hF_ rfl
    have f63_ : S_.2.2.1 63 0 = S0_.2.2.1 63 0 := fr_arr hF_ rfl
    have f64_ : S_.2.2.1 64 0 = S0_.2.2.1 64 0 := fr_arr hF_ rfl
    have f55_ : S_.2.2.1 55 (0 + ll_) = S0_.2.2.1 55 (0 + ll_) := fr_arr hF_ rfl
    have f1_ : S_.1 3 dd_ 1 = S0_.1 3 dd_ 1 := hF_.1 3 dd_ 1 rfl
    have f2_ : S_.1 3 dd_ 2 = S0_.1 3 dd_ 2 := hF_.1 3 dd_ 2 rfl
    have f4_ : S_.1 3 dd_ 4 = S0_.1 3 dd_ 4 := hF_.1 3 dd_ 4 rfl
    have f5_ : S_.1 5 ll_ 2 = S0_.1 5 ll_ 2 := hF_.1 5 ll_ 2 rfl
    have cI_ : 0 ≤ S_.1 3 dd_ 1 ∧ S_.1 3 dd_ 1 ≤ 320 := hI_.1 3 dd_ 1 rfl
    have cR_ : 0 ≤ S_.1 3 dd_ 2 ∧ S_.1 3 dd_ 2 ≤ 100000 := hI_.1 3 dd_ 2 rfl
    have cN_ : 0 ≤ S_.1 3 dd_ 4 ∧ S_.1 3 dd_ 4 ≤ 1013 := hI_.1 3 dd_ 4 rfl
    have hf_ : 1 ≤ (1 + S0_.1 3 dd_ 1 + S0_.1 3 dd_ 2) := by omega
    have f72_ : S_.2.2.1 72 0 = S0_.2.2.1 72 0 := fr_arr hF_ rfl
    have e1_ : S_.1 2 cc_ 1 = S0_.1 2 cc_ 1 := hF_.1 2 cc_ 1 rfl
    have e2_ : S_.1 2 cc_ 2 = S0_.1 2 cc_ 2 := hF_.1 2 cc_ 2 rfl
    have c8_ : 0 ≤ S_.1 2 cc_ 8 ∧ S_.1 2 cc_ 8 ≤ 150 := hI_.1 2 cc_ 8 rfl
    have t1_ := hgt_.1
    have t2_ := hgt_.2.1
    refine sm_T_go 3 (c1 := (63, [some (.inr (.inr (some (6, 0)))), some (.inl a1_), some (.inr (.inr (some (2, cc_)))), some (.inl g9_), some (.inl c9_), some (.inl k_)], [.inl a1_, .inr (.inr (some (6, 0))), .inl k_], S_)) rfl ?_
    refine sm_T_cal (d1 := 0) (Q1 := vq_111 a1_ ll_ S_) rfl rfl (by decide) (vc_111 a1_ ll_ S_ hI_ (by exact (hF_.2.1 6 0 1 rfl).trans hc_) (by omega)) (fun u_ Sx1_ px4_ => ?_)
    obtain ⟨rfl, vx6_, rfl, px4_⟩ := px4_
    have a63_ := px4_
    rw [f62_, f55_] at a63_
    refine sm_T_br (a := 3) (z := 32) rfl (fun cx7_ => ?_) (fun cx7_ => ?_)
    · have cx7_ : vx6_ ≤ k_ := of_decide_eq_true cx7_
      have bx8_ : 0 ≤ S_.1 2 cc_ 8 ∧ S_.1 2 cc_ 8 ≤ 150 := hI_.1 2 cc_ 8 rfl
      refine sm_T_go 4 (c1 := (104, [some (.inr (.inr (some (6, 0)))), some (.inl a1_), some (.inr (.inr (some (2, cc_)))), some (.inl g9_), some (.inl c9_), some (.inl k_)], [.inl 1, .inl (S_.1 2 cc_ 8), .inr (.inr (some (2, cc_)))], S_)) rfl ?_
      refine sm_T_bin (w := (S_.1 2 cc_ 8) + 1) rfl (bi_add (by omega) (by omega) (by omega)) ?_ -- pc_ 104
      have hIx9_ : gi (sm_pI S_ 2 cc_ 8 ((S_.1 2 cc_ 8) + 1)) := gi_pI hI_ (show 0 ≤ (S_.1 2 cc_ 8) + 1 ∧ (S_.1 2 cc_ 8) + 1 ≤ 150 from ⟨by omega, by omega⟩)
      have hFx10_ : ai_fr (sx_W vw_114n) S0_ (sm_pI S_ 2 cc_ 8 ((S_.1 2 cc_ 8) + 1)) := ai_fr_tr hF_ (ai_fr_pI rfl)
      have hCx11_ : cdf cc_ S0_ (sm_pI S_ 2 cc_ 8 ((S_.1 2 cc_ 8) + 1)) := cdf_pI hC_ (Or.inr (by rw [show cof 2 = 0 from rfl] <;> omega))
      refine sm_T_go 2 (c1 := (109, [some (.inr (.inr (some (6, 0)))), some (.inl a1_), some (.inr (.inr (some (2, cc_)))), some (.inl g9_), some (.inl c9_), some (.inl k_)], [.inr (.inr (some (2, cc_)))], sm_pI S_ 2 cc_ 8 ((S_.1 2 cc_ 8) + 1))) rfl ?_
      refine sm_T_cal (d1 := 0) (Q1 := vq_54 cc_ (sm_pI S_ 2 cc_ 8 ((S_.1 2 cc_ 8) + 1))) rfl rfl (by decide) (vc_54 cc_ (sm_pI S_ 2 cc_ 8 ((S_.1 2 cc_ 8) + 1)) hIx9_ ) (fun u_ Sx12_ px15_ => ?_)
      obtain ⟨rfl, vx17_, rfl, px15_⟩ := px15_
      have a109_ := px15_
      refine sm_T_go 1 (c1 := (113, [some (.inr (.inr (some (6, 0)))), some (.inl a1_), some (.inr (.inr (some (2, cc_)))), some (.inl g9_), some (.inl c9_), some (.inl k_)], [.inl g9_, .inl vx17_], sm_pI S_ 2 cc_ 8 ((S_.1 2 cc_ 8) + 1))) rfl ?_
      refine sm_T_bin (w := vx17_ + g9_) rfl (bi_add (by omega) (by omega) (by omega)) ?_ -- pc_ 113
      refine sm_T_ri rfl ⟨_, _, rfl, _, rfl, hIx9_, hFx10_, ?_⟩
      refine ⟨hCx11_, ?_⟩
      have L9_ := hgl_.1
      have m9_ : cpn ll_ S0_ a1_.toNat ≤ 3 ∧ ((cpn ll_ S0_ a1_.toNat : Nat) : Int) ≤ k_ := by (have z9_ : ((cpn ll_ S0_ a1_.toNat : Nat) : Int) = pno (S0_.2.2.1 62 0) (S0_.2.2.1 55 (0 + ll_)) a1_ := (by unfold cpn; rw [show ((a1_.toNat : Nat) : Int) = a1_ by omega]; omega); omega)
      refine ⟨?_, cgz_a hgl_ ?_ (fun g_ u_ => ?_) ?_ (fun j_ u_ => ?_) (by rw [nts_l]; exact m9_.1) (fun j_ x_ u_ => ?_)⟩
      · (try simp only [rd_eq, rd_ne, rf_eq, rf_nk, rf_nt, rd_fa, rd_af, rd_fl, rd_al, rd_lf, rd_la, rd_leq, rd_lne, rd_fr, rd_ar, ne_eq, Nat.reduceEqDiff, not_false_eq_true] at *)
        omega
      · (try simp only [rd_eq, rd_ne, rf_eq, rf_nk, rf_nt, rd_fa, rd_af, rd_fl, rd_al, rd_lf, rd_la, rd_leq, rd_lne, rd_fr, rd_ar, ne_eq, Nat.reduceEqDiff, not_false_eq_true])
        omega
      · show S_.2.2.1 35 (0 + cc_) g_ = _
        exact hc35_.1 g_ (by omega)
      · show S_.2.2.1 35 (0 + cc_) gs_.length = _
        rw [show gs_.length = g9_.toNat by omega]
        exact hc35_.2
      · show S_.2.2.1 36 (0 + cc_) j_ = _
        exact hn36_.1 j_ (by omega)
      · have z9_ := nts_x u_
        rw [z9_.2]
        show S_.2.2.1 36 (0 + cc_) (3 * gs_.length + j_) = S0_.2.2.1 72 0 (cpv (1 + S0_.1 3 dd_ 1 + S0_.1 3 dd_ 2) S0_ a1_.toNat j_)
        have w9_ := hn36_.2 (j_ : Int) (by omega) (by omega)
        rw [show (3 * g9_ + (j_ : Int)).toNat = 3 * gs_.length + j_ by omega] at w9_
        rw [w9_]
        unfold cpv
        rw [show ((a1_.toNat : Nat) : Int) = a1_ by omega]
    · have cx7_ : ¬ (vx6_ ≤ k_) := of_decide_eq_false cx7_
      refine sm_T_go 4 (c1 := (75, [some (.inr (.inr (some (6, 0)))), some (.inl a1_), some (.inr (.inr (some (2, cc_)))), some (.inl g9_), some (.inl c9_), some (.inl k_)], [.inl g9_, .inl 3, .inr (.inr (some (36, (0 + cc_))))], S_)) rfl ?_
      refine sm_T_bin (w := 3 * g9_) rfl (bi_mul (by omega) (by omega) (by omega)) ?_ -- pc_ 75
      refine sm_T_go 1 (c1 := (78, [some (.inr (.inr (some (6, 0)))), some (.inl a1_), some (.inr (.inr (some (2, cc_)))), some (.inl g9_), some (.inl c9_), some (.inl k_)], [.inl k_, .inl (3 * g9_), .inr (.inr (some (36, (0 + cc_))))], S_)) rfl ?_
      refine sm_T_bin (w := 3 * g9_ + k_) rfl (bi_add (by omega) (by omega) (by omega)) ?_ -- pc_ 78
      refine sm_T_go 5 (c1 := (87, [some (.inr (.inr (some (6, 0)))), some (.inl a1_), some (.inr (.inr (some (2, cc_)))), some (.inl g9_), some (.inl c9_), some (.inl k_)], [.inl k_, .inl a1_, .inr (.inr (some (6, 0))), .inr (.inr (some (72, 0))), .inl (3 * g9_ + k_), .inr (.inr (some (36, (0 + cc_))))], S_)) rfl ?_
      refine sm_T_cal (d1 := 2) (Q1 := vq_112 a1_ k_ dd_ S_) rfl rfl (by decide) (vc_112 a1_ k_ dd_ S_ hI_ (by exact (hF_.2.1 6 0 0 rfl).trans hd_) (by omega) (by omega)) (fun u_ Sx18_ px21_ => ?_)
      obtain ⟨rfl, vx23_, rfl, px21_⟩ := px21_
      have a87_ := px21_
      rw [f1_, f2_, f60_, f62_, f63_, f64_] at a87_
      have gp_ := gtk_p hw_ hf_ hgt_ hni_ (k_ := k_) (by omega)
      have md9_ := hmd_ k_ (by omega) (by omega)
      rw [← a87_] at gp_ md9_
      have g13_ := gp_.1.1
      have g14_ := gp_.1.2.1
      rw [← f72_] at md9_
      refine sm_T_iald (n := 3039) rfl rfl (by omega) (by omega) ?_
      have bx24_ : (-1) ≤ S_.2.2.1 72 0 vx23_.toNat ∧ S_.2.2.1 72 0 vx23_.toNat ≤ 161 := hI_.2 72 0 _
      refine sm_T_iast (n := 450) rfl rfl (by omega) (by omega) ?_
      have hIx25_ : gi (sm_aI S_ 36 (0 + cc_) (3 * g9_ + k_).toNat (S_.2.2.1 72 0 vx23_.toNat)) := gi_aI hI_ (show 0 ≤ (S_.2.2.1 72 0 vx23_.toNat) ∧ (S_.2.2.1 72 0 vx23_.toNat) ≤ 161 from ⟨by omega, by omega⟩)
      have hFx26_ : ai_fr (sx_W vw_114n) S0_ (sm_aI S_ 36 (0 + cc_) (3 * g9_ + k_).toNat (S_.2.2.1 72 0 vx23_.toNat)) := ai_fr_tr hF_ (ai_fr_aI rfl)
      have hCx27_ : cdf cc_ S0_ (sm_aI S_ 36 (0 + cc_) (3 * g9_ + k_).toNat (S_.2.2.1 72 0 vx23_.toNat)) := cdf_aI hC_ (Or.inr (by rw [show cof 36 = 0 from rfl] <;> omega))
      refine sm_T_inc (a := 5) (z := 1) (v := k_) (w := k_ + 1) rfl rfl (by omega) (by omega) (by omega) ?_ -- pc_ 92
      refine sm_T_go 1 (c1 := (59, [some (.inr (.inr (some (6, 0)))), some (.inl a1_), some (.inr (.inr (some (2, cc_)))), some (.inl g9_), some (.inl c9_), some (.inl (k_ + 1))], [], sm_aI S_ 36 (0 + cc_) (3 * g9_ + k_).toNat (S_.2.2.1 72 0 vx23_.toNat))) rfl ?_
      refine ih_ g9_ c9_ (k_ + 1) (sm_aI S_ 36 (0 + cc_) (3 * g9_ + k_).toNat (S_.2.2.1 72 0 vx23_.toNat)) hIx25_ hFx26_ ⟨?_, ?_, ?_, ?_, ?_, trivial⟩ ?_
      · omega
      · exact h8_
      · exact ⟨fun g_ u_ => by (rw [rd_ne (by decide)]; exact hc35_.1 g_ u_), by (rw [rd_ne (by decide)]; exact hc35_.2)⟩
      · refine ⟨fun j_ u_ => by (rw [rd_eq, if_neg (by omega)]; exact hn36_.1 j_ u_), fun j_ u_ w_ => ?_⟩
        rw [rd_eq]
        by_cases y_ : j_ = k_
        · rw [if_pos (by omega), f72_, a87_, y_]
        · rw [if_neg (by omega)]; exact hn36_.2 j_ u_ (by omega)
      · exact hCx27_
      · omega
set_option maxHeartbeats 1000000 in
theorem vc_114n {sc_ : Nat × (Nat → Int)} (a1_ : Int) (dd_ : Nat) (ll_ : Nat) (cc_ : Nat) (gs_ : List (Int × List Int)) (S0_ : sm_S) (hI_ : gi S0_) (hgl_ : cgz cc_ S0_ gs_) (hd_ : S0_.2.1 6 0 0 = some dd_) (hc_ : S0_.2.1 6 0 1 = some ll_) (hw_ : wal (1 + S0_.1 3 dd_ 1 + S0_.1 3 dd_ 2) (S0_.1 3 dd_ 4) ll_ S0_) (hgt_ : gtk (1 + S0_.1 3 dd_ 1 + S0_.1 3 dd_ 2) (S0_.1 3 dd_ 4) (S0_.1 5 ll_ 2) (S0_.2.2.1 59 0) (S0_.2.2.1 62 0) a1_) (hni_ : ¬ (a1_ / 3 < (1 + S0_.1 3 dd_ 1 + S0_.1 3 dd_ 2) ∧ a1_ % 3 = 0)) (hs2_ : S0_.1 2 cc_ 1 + S0_.1 2 cc_ 2 ≤ 12) (hg8_ : S0_.1 2 cc_ 8 < 150) (hmd_ : ∀ k_ : Int, 0 ≤ k_ → k_ < pno (S0_.2.2.1 62 0) (S0_.2.2.1 55 (0 + ll_)) a1_ → S0_.2.2.1 72 0 (ptv (1 + S0_.1 3 dd_ 1 + S0_.1 3 dd_ 2) (S0_.2.2.1 60 0) (S0_.2.2.1 62 0) (S0_.2.2.1 63 0) (S0_.2.2.1 64 0) a1_ k_).toNat ≠ -1) : sm_T (mt_P sc_) 3 114 (0, [some (.inr (.inr (some (6, 0)))), some (.inl a1_), some (.inr (.inr (some (2, cc_)))), none, none, none], [], S0_) (fun ro9_ => ∃ u_ S1_, ro9_ = (.inl u_, S1_, 0) ∧ vq_114n a1_ dd_ ll_ cc_ gs_ S0_ u_ S1_) := by
  have hF_ : ai_fr (sx_W vw_114n) S0_ S0_ := ai_fr_rf
  have hC_ : cdf cc_ S0_ S0_ := cdf_rf
  have cI_ : 0 ≤ S0_.1 3 dd_ 1 ∧ S0_.1 3 dd_ 1 ≤ 320 := hI_.1 3 dd_ 1 rfl
  have cR_ : 0 ≤ S0_.1 3 dd_ 2 ∧ S0_.1 3 dd_ 2 ≤ 100000 := hI_.1 3 dd_ 2 rfl
  have cN_ : 0 ≤ S0_.1 3 dd_ 4 ∧ S0_.1 3 dd_ 4 ≤ 1013 := hI_.1 3 dd_ 4 rfl
  have hf_ : 1 ≤ (1 + S0_.1 3 dd_ 1 + S0_.1 3 dd_ 2) := by omega
  have t1_ := hgt_.1
  have t2_ := hgt_.2.1
  have iv9_ := gtk_iv hw_ hf_ hgt_ hni_
  have ci_ : (-1) ≤ S0_.1 5 ll_ 2 ∧ S0_.1 5 ll_ 2 ≤ 11 := hI_.1 5 ll_ 2 rfl
  have c8_ : 0 ≤ S0_.1 2 cc_ 8 ∧ S0_.1 2 cc_ 8 ≤ 150 := hI_.1 2 cc_ 8 rfl
  have bx1_ : 0 ≤ S0_.1 2 cc_ 8 ∧ S0_.1 2 cc_ 8 ≤ 150 := hI_.1 2 cc_ 8 rfl
  refine sm_T_go 5 (c1 := (7, [some (.inr (.inr (some (6, 0)))), some (.inl a1_), some (.inr (.inr (some (2, cc_)))), some (.inl (S0_.1 2 cc_ 8)), none, none], [.inl 3, .inl a1_], S0_)) rfl ?_
  refine sm_T_bin (w := (a1_ % 3)) rfl (bi_rem (by omega) (by omega) (by omega) (by omega)) ?_ -- pc_ 7
  refine sm_T_go 1 (c1 := (9, [some (.inr (.inr (some (6, 0)))), some (.inl a1_), some (.inr (.inr (some (2, cc_)))), some (.inl (S0_.1 2 cc_ 8)), none, none], [.inl 2, .inl (a1_ % 3)], S0_)) rfl ?_
  refine sm_T_br (a := 1) (z := 8) rfl (fun cx2_ => ?_) (fun cx2_ => ?_)
  · have cx2_ : (a1_ % 3) ≠ 2 := of_decide_eq_true cx2_
    refine sm_T_go 5 (c1 := (24, [some (.inr (.inr (some (6, 0)))), some (.inl a1_), some (.inr (.inr (some (2, cc_)))), some (.inl (S0_.1 2 cc_ 8)), none, none], [.inl 3, .inl a1_, .inl 2, .inr (.inr (some (62, 0)))], S0_)) rfl ?_
    refine sm_T_bin (w := (a1_ / 3)) rfl (bi_div (by omega) (by omega) (by omega) (by omega)) ?_ -- pc_ 24
    refine sm_T_bin (w := 2 * (a1_ / 3)) rfl (bi_mul (by omega) (by omega) (by omega)) ?_ -- pc_ 25
    refine sm_T_go 2 (c1 := (28, [some (.inr (.inr (some (6, 0)))), some (.inl a1_), some (.inr (.inr (some (2, cc_)))), some (.inl (S0_.1 2 cc_ 8)), none, none], [.inl 3, .inl a1_, .inl (2 * (a1_ / 3)), .inr (.inr (some (62, 0)))], S0_)) rfl ?_
    refine sm_T_bin (w := (a1_ % 3)) rfl (bi_rem (by omega) (by omega) (by omega) (by omega)) ?_ -- pc_ 28
    refine sm_T_bin (w := 2 * (a1_ / 3) + (a1_ % 3)) rfl (bi_add (by omega) (by omega) (by omega)) ?_ -- pc_ 29
    refine sm_T_iald (n := 2026) rfl rfl (by omega) (by omega) ?_
    have bx3_ : (-2) ≤ S0_.2.2.1 62 0 (2 * (a1_ / 3) + (a1_ % 3)).toNat ∧ S0_.2.2.1 62 0 (2 * (a1_ / 3) + (a1_ % 3)).toNat ≤ 11 := hI_.2 62 0 _
    refine sm_T_go 5 (c1 := (40, [some (.inr (.inr (some (6, 0)))), some (.inl a1_), some (.inr (.inr (some (2, cc_)))), some (.inl (S0_.1 2 cc_ 8)), some (.inl (S0_.2.2.1 62 0 (2 * (a1_ / 3) + (a1_ % 3)).toNat)), none], [.inl (S0_.2.2.1 62 0 (2 * (a1_ / 3) + (a1_ % 3)).toNat), .inl (S0_.1 2 cc_ 8), .inr (.inr (some (35, (0 + cc_))))], S0_)) rfl ?_
    refine sm_T_b0 (a := 3) (z := 13) rfl (fun cx4_ => ?_) (fun cx4_ => ?_)
    · have cx4_ : 0 ≤ (S0_.2.2.1 62 0 (2 * (a1_ / 3) + (a1_ % 3)).toNat) := of_decide_eq_true cx4_
      refine sm_T_go 1 (c1 := (55, [some (.inr (.inr (some (6, 0)))), some (.inl a1_), some (.inr (.inr (some (2, cc_)))), some (.inl (S0_.1 2 cc_ 8)), some (.inl (S0_.2.2.1 62 0 (2 * (a1_ / 3) + (a1_ % 3)).toNat)), none], [.inl (S0_.2.2.1 62 0 (2 * (a1_ / 3) + (a1_ % 3)).toNat), .inl (S0_.1 2 cc_ 8), .inr (.inr (some (35, (0 + cc_))))], S0_)) rfl ?_
      refine sm_T_iast (n := 150) rfl rfl (by omega) (by omega) ?_
      have hIx5_ : gi (sm_aI S0_ 35 (0 + cc_) (S0_.1 2 cc_ 8).toNat (S0_.2.2.1 62 0 (2 * (a1_ / 3) + (a1_ % 3)).toNat)) := gi_aI hI_ (show 0 ≤ (S0_.2.2.1 62 0 (2 * (a1_ / 3) + (a1_ % 3)).toNat) ∧ (S0_.2.2.1 62 0 (2 * (a1_ / 3) + (a1_ % 3)).toNat) ≤ 11 from ⟨by omega, by omega⟩)
      have hFx6_ : ai_fr (sx_W vw_114n) S0_ (sm_aI S0_ 35 (0 + cc_) (S0_.1 2 cc_ 8).toNat (S0_.2.2.1 62 0 (2 * (a1_ / 3) + (a1_ % 3)).toNat)) := ai_fr_tr hF_ (ai_fr_aI rfl)
      have hCx7_ : cdf cc_ S0_ (sm_aI S0_ 35 (0 + cc_) (S0_.1 2 cc_ 8).toNat (S0_.2.2.1 62 0 (2 * (a1_ / 3) + (a1_ % 3)).toNat)) := cdf_aI hC_ (Or.inr (by rw [show cof 35 = 0 from rfl] <;> omega))
      refine sm_T_go 2 (c1 := (59, [some (.inr (.inr (some (6, 0)))), some (.inl a1_), some (.inr (.inr (some (2, cc_)))), some (.inl (S0_.1 2 cc_ 8)), some (.inl (S0_.2.2.1 62 0 (2 * (a1_ / 3) + (a1_ % 3)).toNat)), some (.inl 0)], [], sm_aI S0_ 35 (0 + cc_) (S0_.1 2 cc_ 8).toNat (S0_.2.2.1 62 0 (2 * (a1_ / 3) + (a1_ % 3)).toNat))) rfl ?_
      refine (vl_114n a1_ dd_ ll_ cc_ gs_ S0_ hgl_ hd_ hc_ hw_ hgt_ hni_ hs2_ hg8_ hmd_ _) (S0_.1 2 cc_ 8) (S0_.2.2.1 62 0 (2 * (a1_ / 3) + (a1_ % 3)).toNat) 0 (sm_aI S0_ 35 (0 + cc_) (S0_.1 2 cc_ 8).toNat (S0_.2.2.1 62 0 (2 * (a1_ / 3) + (a1_ % 3)).toNat)) hIx5_ hFx6_ ⟨?_, ?_, ?_, ?_, ?_, trivial⟩ (Nat.lt_succ_self _)
      · omega
      · rfl
      · refine ⟨fun g_ u_ => by (rw [rd_eq, if_neg (by omega)]), ?_⟩
        rw [rd_eq, if_pos rfl]
        unfold cgc
        rw [show ((a1_.toNat : Nat) : Int) = a1_ by omega]
        first | (rw [if_pos (by omega)]; done) | (rw [if_neg (by omega), if_pos (by omega)]; done) | (rw [if_neg (by omega), if_neg (by omega)]; done)
      · refine ⟨fun j_ u_ => by (rw [rd_ne (by decide)]), fun j_ u_ w_ => by (exfalso; omega)⟩
      · exact hCx7_
    · have cx4_ : ¬ (0 ≤ (S0_.2.2.1 62 0 (2 * (a1_ / 3) + (a1_ % 3)).toNat)) := of_decide_eq_false cx4_
      refine sm_T_go 1 (c1 := (44, [some (.inr (.inr (some (6, 0)))), some (.inl a1_), some (.inr (.inr (some (2, cc_)))), some (.inl (S0_.1 2 cc_ 8)), some (.inl (S0_.2.2.1 62 0 (2 * (a1_ / 3) + (a1_ % 3)).toNat)), none], [.inr (.inr (some (6, 0))), .inl (S0_.1 2 cc_ 8), .inr (.inr (some (35, (0 + cc_))))], S0_)) rfl ?_
      refine sm_T_gr rfl rfl ((hF_.2.1 6 0 1 rfl).trans hc_) ?_
      have bx8_ : (-1) ≤ S0_.1 5 ll_ 2 ∧ S0_.1 5 ll_ 2 ≤ 11 := hI_.1 5 ll_ 2 rfl
      refine sm_T_go 2 (c1 := (55, [some (.inr (.inr (some (6, 0)))), some (.inl a1_), some (.inr (.inr (some (2, cc_)))), some (.inl (S0_.1 2 cc_ 8)), some (.inl (S0_.2.2.1 62 0 (2 * (a1_ / 3) + (a1_ % 3)).toNat)), none], [.inl (S0_.1 5 ll_ 2), .inl (S0_.1 2 cc_ 8), .inr (.inr (some (35, (0 + cc_))))], S0_)) rfl ?_
      refine sm_T_iast (n := 150) rfl rfl (by omega) (by omega) ?_
      have hIx9_ : gi (sm_aI S0_ 35 (0 + cc_) (S0_.1 2 cc_ 8).toNat (S0_.1 5 ll_ 2)) := gi_aI hI_ (show 0 ≤ (S0_.1 5 ll_ 2) ∧ (S0_.1 5 ll_ 2) ≤ 11 from ⟨by omega, by omega⟩)
      have hFx10_ : ai_fr (sx_W vw_114n) S0_ (sm_aI S0_ 35 (0 + cc_) (S0_.1 2 cc_ 8).toNat (S0_.1 5 ll_ 2)) := ai_fr_tr hF_ (ai_fr_aI rfl)
      have hCx11_ : cdf cc_ S0_ (sm_aI S0_ 35 (0 + cc_) (S0_.1 2 cc_ 8).toNat (S0_.1 5 ll_ 2)) := cdf_aI hC_ (Or.inr (by rw [show cof 35 = 0 from rfl] <;> omega))
      refine sm_T_go 2 (c1 := (59, [some (.inr (.inr (some (6, 0)))), some (.inl a1_), some (.inr (.inr (some (2, cc_)))), some (.inl (S0_.1 2 cc_ 8)), some (.inl (S0_.2.2.1 62 0 (2 * (a1_ / 3) + (a1_ % 3)).toNat)), some (.inl 0)], [], sm_aI S0_ 35 (0 + cc_) (S0_.1 2 cc_ 8).toNat (S0_.1 5 ll_ 2))) rfl ?_
      refine (vl_114n a1_ dd_ ll_ cc_ gs_ S0_ hgl_ hd_ hc_ hw_ hgt_ hni_ hs2_ hg8_ hmd_ _) (S0_.1 2 cc_ 8) (S0_.2.2.1 62 0 (2 * (a1_ / 3) + (a1_ % 3)).toNat) 0 (sm_aI S0_ 35 (0 + cc_) (S0_.1 2 cc_ 8).toNat (S0_.1 5 ll_ 2)) hIx9_ hFx10_ ⟨?_, ?_, ?_, ?_, ?_, trivial⟩ (Nat.lt_succ_self _)
      · omega
      · rfl
      · refine ⟨fun g_ u_ => by (rw [rd_eq, if_neg (by omega)]), ?_⟩
        rw [rd_eq, if_pos rfl]
        unfold cgc
        rw [show ((a1_.toNat : Nat) : Int) = a1_ by omega]
        first | (rw [if_pos (by omega)]; done) | (rw [if_neg (by omega), if_pos (by omega)]; done) | (rw [if_neg (by omega), if_neg (by omega)]; done)
      · refine ⟨fun j_ u_ => by (rw [rd_ne (by decide)]), fun j_ u_ w_ => by (exfalso; omega)⟩
      · exact hCx11_
  · have cx2_ : ¬ ((a1_ % 3) ≠ 2) := of_decide_eq_false cx2_
    refine sm_T_go 9 (c1 := (44, [some (.inr (.inr (some (6, 0)))), some (.inl a1_), some (.inr (.inr (some (2, cc_)))), some (.inl (S0_.1 2 cc_ 8)), some (.inl (-2)), none], [.inr (.inr (some (6, 0))), .inl (S0_.1 2 cc_ 8), .inr (.inr (some (35, (0 + cc_))))], S0_)) rfl ?_
    refine sm_T_gr rfl rfl ((hF_.2.1 6 0 1 rfl).trans hc_) ?_
    have bx12_ : (-1) ≤ S0_.1 5 ll_ 2 ∧ S0_.1 5 ll_ 2 ≤ 11 := hI_.1 5 ll_ 2 rfl
    refine sm_T_go 2 (c1 := (55, [some (.inr (.inr (some (6, 0)))), some (.inl a1_), some (.inr (.inr (some (2, cc_)))), some (.inl (S0_.1 2 cc_ 8)), some (.inl (-2)), none], [.inl (S0_.1 5 ll_ 2), .inl (S0_.1 2 cc_ 8), .inr (.inr (some (35, (0 + cc_))))], S0_)) rfl ?_
    refine sm_T_iast (n := 150) rfl rfl (by omega) (by omega) ?_
    have hIx13_ : gi (sm_aI S0_ 35 (0 + cc_) (S0_.1 2 cc_ 8).toNat (S0_.1 5 ll_ 2)) := gi_aI hI_ (show 0 ≤ (S0_.1 5 ll_ 2) ∧ (S0_.1 5 ll_ 2) ≤ 11 from ⟨by omega, by omega⟩)
    have hFx14_ : ai_fr (sx_W vw_114n) S0_ (sm_aI S0_ 35 (0 + cc_) (S0_.1 2 cc_ 8).toNat (S0_.1 5 ll_ 2)) := ai_fr_tr hF_ (ai_fr_aI rfl)
    have hCx15_ : cdf cc_ S0_ (sm_aI S0_ 35 (0 + cc_) (S0_.1 2 cc_ 8).toNat (S0_.1 5 ll_ 2)) := cdf_aI hC_ (Or.inr (by rw [show cof 35 = 0 from rfl] <;> omega))
    refine sm_T_go 2 (c1 := (59, [some (.inr (.inr (some (6, 0)))), some (.inl a1_), some (.inr (.inr (some (2, cc_)))), some (.inl (S0_.1 2 cc_ 8)), some (.inl (-2)), some (.inl 0)], [], sm_aI S0_ 35 (0 + cc_) (S0_.1 2 cc_ 8).toNat (S0_.1 5 ll_ 2))) rfl ?_
    refine (vl_114n a1_ dd_ ll_ cc_ gs_ S0_ hgl_ hd_ hc_ hw_ hgt_ hni_ hs2_ hg8_ hmd_ _) (S0_.1 2 cc_ 8) (-2) 0 (sm_aI S0_ 35 (0 + cc_) (S0_.1 2 cc_ 8).toNat (S0_.1 5 ll_ 2)) hIx13_ hFx14_ ⟨?_, ?_, ?_, ?_, ?_, trivial⟩ (Nat.lt_succ_self _)
    · omega
    · rfl
    · refine ⟨fun g_ u_ => by (rw [rd_eq, if_neg (by omega)]), ?_⟩
      rw [rd_eq, if_pos rfl]
      unfold cgc
      rw [show ((a1_.toNat : Nat) : Int) = a1_ by omega]
      first | (rw [if_pos (by omega)]; done) | (rw [if_neg (by omega), if_pos (by omega)]; done) | (rw [if_neg (by omega), if_neg (by omega)]; done)
    · refine ⟨fun j_ u_ => by (rw [rd_ne (by decide)]), fun j_ u_ w_ => by (exfalso; omega)⟩
    · exact hCx15_
/-! Mapper.makeTask -/
def vw_110n : sx_Wl := ([(2, 8)], [35, 36, 72, 73], [])
def vq_110n (a1_ : Int) (dd_ : Nat) (ll_ : Nat) (cc_ : Nat) (gs_ : List (Int × List Int)) (S0_ : sm_S) (u_ : Option sm_V) (S1_ : sm_S) : Prop := ∃ v_ : Int, u_ = some (.inl v_) ∧ gi S1_ ∧ ai_fr (sx_W vw_110n) S0_ S1_ ∧ (cdf cc_ S0_ S1_ ∧ (((v_ = 0 ∨ v_ = 1) ∧ ∀ x_ : Int, 1 ≤ x_ → x_ < (1 + S0_.1 3 dd_ 1 + S0_.1 3 dd_ 2) → S1_.2.2.1 72 0 (3 * x_).toNat ≠ -1) ∧ imq (v_ = 1) (∃ g9_ : List (Int × List Int), cgz cc_ S1_ g9_ ∧ (S1_.2.2.1 72 0, g9_) = gmk (cpn ll_ S0_) (cpv (1 + S0_.1 3 dd_ 1 + S0_.1 3 dd_ 2) S0_) (cgc ll_ S0_) (S0_.1 2 cc_ 1 + S0_.1 2 cc_ 2) 4000 a1_.toNat (S0_.2.2.1 72 0, gs_)) ∧ imq (v_ = 0) (150 < (gmk (cpn ll_ S0_) (cpv (1 + S0_.1 3 dd_ 1 + S0_.1 3 dd_ 2) S0_) (cgc ll_ S0_) (S0_.1 2 cc_ 1 + S0_.1 2 cc_ 2) 4000 a1_.toNat (S0_.2.2.1 72 0, gs_)).2.length)))
set_option maxHeartbeats 3000000 in
theorem vl_110n {sc_ : Nat × (Nat → Int)} (a1_ : Int) (dd_ : Nat) (ll_ : Nat) (cc_ : Nat) (gs_ : List (Int × List Int)) (S0_ : sm_S) (hgl_ : cgz cc_ S0_ gs_) (hd_ : S0_.2.1 6 0 0 = some dd_) (hc_ : S0_.2.1 6 0 1 = some ll_) (hw_ : wal (1 + S0_.1 3 dd_ 1 + S0_.1 3 dd_ 2) (S0_.1 3 dd_ 4) ll_ S0_) (hgt_ : gtk (1 + S0_.1 3 dd_ 1 + S0_.1 3 dd_ 2) (S0_.1 3 dd_ 4) (S0_.1 5 ll_ 2) (S0_.2.2.1 59 0) (S0_.2.2.1 62 0) a1_) (hs2_ : S0_.1 2 cc_ 1 + S0_.1 2 cc_ 2 ≤ 12) (hin_ : ∀ x_ : Int, 1 ≤ x_ → x_ < (1 + S0_.1 3 dd_ 1 + S0_.1 3 dd_ 2) → S0_.2.2.1 72 0 (3 * x_).toNat ≠ -1) : ∀ nn_ : Nat, (∀ (tp_ : Int) (gd_ : Int) (S_ : sm_S), gi S_ → ai_fr (sx_W vw_110n) S0_ S_ → ((0 ≤ gd_ ∧ gd_ ≤ 1000000 ∧ 0 ≤ tp_ ∧ tp_ ≤ 3039) ∧ (∀ i_ : Nat, (i_ : Int) < tp_ → gtk (1 + S0_.1 3 dd_ 1 + S0_.1 3 dd_ 2) (S0_.1 3 dd_ 4) (S0_.1 5 ll_ 2) (S0_.2.2.1 59 0) (S0_.2.2.1 62 0) (S_.2.2.1 73 0 i_) ∧ grk (S0_.2.2.1 62 0) (S_.2.2.1 73 0 i_) + (i_ : Int) ≤ 3038) ∧ (∀ x_ : Int, 1 ≤ x_ → x_ < (1 + S0_.1 3 dd_ 1 + S0_.1 3 dd_ 2) → S_.2.2.1 72 0 (3 * x_).toNat ≠ -1) ∧ (∃ g9_ : List (Int × List Int), cgz cc_ S_ g9_ ∧ gsr (cpn ll_ S0_) (cpv (1 + S0_.1 3 dd_ 1 + S0_.1 3 dd_ 2) S0_) (cgc ll_ S0_) (S0_.1 2 cc_ 1 + S0_.1 2 cc_ 2) 4000 (stq (S_.2.2.1 73 0) tp_.toNat) (S_.2.2.1 72 0, g9_) = gmk (cpn ll_ S0_) (cpv (1 + S0_.1 3 dd_ 1 + S0_.1 3 dd_ 2) S0_) (cgc ll_ S0_) (S0_.1 2 cc_ 1 + S0_.1 2 cc_ 2) 4000 a1_.toNat (S0_.2.2.1 72 0, gs_)) ∧ (∀ i_ : Nat, (i_ : Int) + 1 < tp_ → grk (S0_.2.2.1 62 0) (S_.2.2.1 73 0 (i_ + 1)) < grk (S0_.2.2.1 62 0) (S_.2.2.1 73 0 i_)) ∧ (∀ i_ : Nat, (i_ : Int) < tp_ → S_.2.2.1 72 0 (S_.2.2.1 73 0 i_).toNat = -1 ∨ gd_ = 0) ∧ ((gd_ + 2 * ((cn1 (isn (S_.2.2.1 72 0)) 3039 : Nat) : Int) - tp_ ≤ 6077 ∨ tp_ = 0) ∧ (gd_ = 0 → tp_ = 1)) ∧ (cdf cc_ S0_ S_) ∧ True) → ((1000001 - gd_).toNat) < nn_ → sm_T (mt_P sc_) 4 110 (12, [some (.inr (.inr (some (6, 0)))), some (.inl a1_), some (.inr (.inr (some (2, cc_)))), some (.inl tp_), some (.inl gd_), none, none], [], S_) (fun ro9_ => ∃ u_ S1_, ro9_ = (.inl u_, S1_, 0) ∧ vq_110n a1_ dd_ ll_ cc_ gs_ S0_ u_ S1_)) := by
  intro nn_
  induction nn_ with
  | zero => exact fun _ _ _ _ _ _ h_ => absurd h_ (Nat.not_lt_zero _)
  | succ nn_ ih_ =>
    rintro tp_ gd_ S_ hI_ hF_ ⟨h0_, hT_, hi9_, hX_, hRk_, hun_, hcn_, hC_, -⟩ hm_
    have f59_ : S_.2.2.1 59 0 = S0_.2.2.1 59 0 := fr_arr hF_ rfl
    have f60_ : S_.2.2.1 60 0 = S0_.2.2.1 60 0 := fr_arr hF_ rfl
    have f62_ : S_.2.2.1 62 0 = S0_.2.2.1 62 0 := fr_arr hF_ rfl
    have f63_ : S_.2.2.1 63 0 = S0_.2.2.1 63 0 := fr_arr hF_ rfl
    have f64_ : S_.2.2.1 64 0 = S0_.2.2.1 64 0 := fr_arr hF_ rfl
    have f55_ : S_.2.2.1 55 (0 + ll_) = S0_.2.2.1 55 (0 + ll_) := fr_arr hF_ rfl
    have f1_ : S_.1 3 dd_ 1 = S0_.1 3 dd_ 1 := hF_.1 3 dd_ 1 rfl
    have f2_ : S_.1 3 dd_ 2 = S0_.1 3 dd_ 2 := hF_.1 3 dd_ 2 rfl
    have f4_ : S_.1 3 dd_ 4 = S0_.1 3 dd_ 4 := hF_.1 3 dd_ 4 rfl
    have f5_ : S_.1 5 ll_ 2 = S0_.1 5 ll_ 2 := hF_.1 5 ll_ 2 rfl
    have cI_ : 0 ≤ S_.1 3 dd_ 1 ∧ S_.1 3 dd_ 1 ≤ 320 := hI_.1 3 dd_ 1 rfl
    have cR_ : 0 ≤ S_.1 3 dd_ 2 ∧ S_.1 3 dd_ 2 ≤ 100000 := hI_.1 3 dd_ 2 rfl
    have cN_ : 0 ≤ S_.1 3 dd_ 4 ∧ S_.1 3 dd_ 4 ≤ 1013 := hI_.1 3 dd_ 4 rfl
    have hf_ : 1 ≤ (1 + S0_.1 3 dd_ 1 + S0_.1 3 dd_ 2) := by omega
    have e1_ : S_.1 2 cc_ 1 = S0_.1 2 cc_ 1 := hF_.1 2 cc_ 1 rfl
    have e2_ : S_.1 2 cc_ 2 = S0_.1 2 cc_ 2 := hF_.1 2 cc_ 2 rfl
    have c8_ : 0 ≤ S_.1 2 cc_ 8 ∧ S_.1 2 cc_ 8 ≤ 150 := hI_.1 2 cc_ 8 rfl
    have k1_ : 0 ≤ S_.1 2 cc_ 1 ∧ S_.1 2 cc_ 1 ≤ 12 := hI_.1 2 cc_ 1 rfl
    have k2_ : 0 ≤ S_.1 2 cc_ 2 ∧ S_.1 2 cc_ 2 ≤ 6 := hI_.1 2 cc_ 2 rfl
    refine sm_T_go 1 (c1 := (14, [some (.inr (.inr (some (6, 0)))), some (.inl a1_), some (.inr (.inr (some (2, cc_)))), some (.inl tp_), some (.inl gd_), none, none], [.inl gd_], S_)) rfl ?_
    refine sm_T_nt (u := some (.inl 1000000)) (S1 := S_) rfl rfl rfl ?_
    refine sm_T_br (a := 3) (z := 112) rfl (fun cx1_ => ?_) (fun cx1_ => ?_)
    · have cx1_ : 1000000 ≤ gd_ := of_decide_eq_true cx1_
      have tp0_ : tp_ = 0 := by (have z9_ := hcn_.1; omega)
      refine sm_T_go 1 (c1 := (129, [some (.inr (.inr (some (6, 0)))), some (.inl a1_), some (.inr (.inr (some (2, cc_)))), some (.inl tp_), some (.inl gd_), none, none], [.inl 1], S_)) rfl ?_
      refine sm_T_rz rfl (by omega) ⟨_, _, rfl, _, rfl, hI_, hF_, ?_⟩
      refine ⟨hC_, ?_⟩
      obtain ⟨g9_, hg9_, hX9_⟩ := hX_
      refine ⟨⟨Or.inr rfl, hi9_⟩, fun _ => ⟨g9_, hg9_, ?_⟩, fun u_ => absurd u_ (by decide)⟩
      rw [tp0_] at hX9_
      exact hX9_
    · have cx1_ : ¬ (1000000 ≤ gd_) := of_decide_eq_false cx1_
      refine sm_T_go 1 (c1 := (20, [some (.inr (.inr (some (6, 0)))), some (.inl a1_), some (.inr (.inr (some (2, cc_)))), some (.inl tp_), some (.inl gd_), none, none], [.inl tp_], S_)) rfl ?_
      refine sm_T_b0 (a := 5) (z := 108) rfl (fun cx2_ => ?_) (fun cx2_ => ?_)
      · have cx2_ : tp_ ≤ 0 := of_decide_eq_true cx2_
        have tp0_ : tp_ = 0 := by omega
        refine sm_T_go 1 (c1 := (129, [some (.inr (.inr (some (6, 0)))), some (.inl a1_), some (.inr (.inr (some (2, cc_)))), some (.inl tp_), some (.inl gd_), none, none], [.inl 1], S_)) rfl ?_
        refine sm_T_rz rfl (by omega) ⟨_, _, rfl, _, rfl, hI_, hF_, ?_⟩
        refine ⟨hC_, ?_⟩
        obtain ⟨g9_, hg9_, hX9_⟩ := hX_
        refine ⟨⟨Or.inr rfl, hi9_⟩, fun _ => ⟨g9_, hg9_, ?_⟩, fun u_ => absurd u_ (by decide)⟩
        rw [tp0_] at hX9_
        exact hX9_
      · have cx2_ : ¬ (tp_ ≤ 0) := of_decide_eq_false cx2_
        obtain ⟨g9_, hg9_, hX9_⟩ := hX_
        have b09_ : 0 ≤ S0_.1 2 cc_ 1 + S0_.1 2 cc_ 2 := by omega
        have GD9_ := gdg_c hw_ hf_
        have I9_ : ∀ x_, cin (1 + S0_.1 3 dd_ 1 + S0_.1 3 dd_ 2) x_ → (S_.2.2.1 72 0, g9_).1 x_ ≠ -1 := fun x_ q9_ => by (have z9_ := hi9_ ((x_ : Int) / 3) (by have := q9_.1; omega) q9_.2.1; have y9_ := q9_.2.2; rw [show (3 * ((x_ : Int) / 3)).toNat = x_ by omega] at z9_; exact z9_)
        have st9_ : stq (S_.2.2.1 73 0) tp_.toNat = (S_.2.2.1 73 0 (tp_ - 1).toNat).toNat :: stq (S_.2.2.1 73 0) (tp_ - 1).toNat := by (rw [show tp_.toNat = (tp_ - 1).toNat + 1 by omega]; rfl)
        rw [st9_] at hX9_
        have un9_ := hun_ (tp_ - 1).toNat (by omega)
        have t9_ := hT_ (tp_ - 1).toNat (by omega)
        have t8_ := t9_.1.1
        have t7_ := t9_.1.2.1
        have t6_ := t9_.2
        have t5_ := grk_b (S0_.2.2.1 62 0) (S_.2.2.1 73 0 (tp_ - 1).toNat)
        have tu9_ : ((((S_.2.2.1 73 0 (tp_ - 1).toNat).toNat : Nat)) : Int) = S_.2.2.1 73 0 (tp_ - 1).toNat := by omega
        have gk9_ : cgk (1 + S0_.1 3 dd_ 1 + S0_.1 3 dd_ 2) (S0_.1 3 dd_ 4) ll_ S0_ (S_.2.2.1 73 0 (tp_ - 1).toNat).toNat := by (unfold cgk; rw [tu9_]; exact t9_.1)
        have rk9_ : crk S0_ (S_.2.2.1 73 0 (tp_ - 1).toNat).toNat < 4000 := by (unfold crk; rw [tu9_]; omega)
        refine sm_T_go 4 (c1 := (29, [some (.inr (.inr (some (6, 0)))), some (.inl a1_), some (.inr (.inr (some (2, cc_)))), some (.inl tp_), some (.inl gd_), none, none], [.inl 1, .inl tp_, .inr (.inr (some (73, 0)))], S_)) rfl ?_
        refine sm_T_bin (w := tp_ - 1) rfl (bi_sub (by omega) (by omega) (by omega)) ?_ -- pc_ 29
        refine sm_T_iald (n := 3039) rfl rfl (by omega) (by omega) ?_
        have bx3_ : 0 ≤ S_.2.2.1 73 0 (tp_ - 1).toNat ∧ S_.2.2.1 73 0 (tp_ - 1).toNat ≤ 3039 := hI_.2 73 0 _
        refine sm_T_go 4 (c1 := (39, [some (.inr (.inr (some (6, 0)))), some (.inl a1_), some (.inr (.inr (some (2, cc_)))), some (.inl tp_), some (.inl gd_), some (.inl (S_.2.2.1 73 0 (tp_ - 1).toNat)), none], [.inl (S_.2.2.1 73 0 (tp_ - 1).toNat), .inr (.inr (some (72, 0)))], S_)) rfl ?_
        refine sm_T_iald (n := 3039) rfl rfl (by omega) (by omega) ?_
        have bx4_ : (-1) ≤ S_.2.2.1 72 0 (S_.2.2.1 73 0 (tp_ - 1).toNat).toNat ∧ S_.2.2.1 72 0 (S_.2.2.1 73 0 (tp_ - 1).toNat).toNat ≤ 161 := hI_.2 72 0 _
        refine sm_T_go 1 (c1 := (41, [some (.inr (.inr (some (6, 0)))), some (.inl a1_), some (.inr (.inr (some (2, cc_)))), some (.inl tp_), some (.inl gd_), some (.inl (S_.2.2.1 73 0 (tp_ - 1).toNat)), none], [.inl (-1), .inl (S_.2.2.1 72 0 (S_.2.2.1 73 0 (tp_ - 1).toNat).toNat)], S_)) rfl ?_
        refine sm_T_br (a := 0) (z := 7) rfl (fun cx5_ => ?_) (fun cx5_ => ?_)
        · have cx5_ : (S_.2.2.1 72 0 (S_.2.2.1 73 0 (tp_ - 1).toNat).toNat) = (-1) := of_decide_eq_true cx5_
          refine sm_T_go 2 (c1 := (51, [some (.inr (.inr (some (6, 0)))), some (.inl a1_), some (.inr (.inr (some (2, cc_)))), some (.inl tp_), some (.inl gd_), some (.inl (S_.2.2.1 73 0 (tp_ - 1).toNat)), none], [.inl (S_.2.2.1 73 0 (tp_ - 1).toNat), .inr (.inr (some (6, 0)))], S_)) rfl ?_
          refine sm_T_cal (d1 := 3) (Q1 := vq_113n (S_.2.2.1 73 0 (tp_ - 1).toNat) dd_ ll_ S_) rfl rfl (by decide) (vc_113n (S_.2.2.1 73 0 (tp_ - 1).toNat) dd_ ll_ S_ hI_ (by exact (hF_.2.1 6 0 0 rfl).trans hd_) (by exact (hF_.2.1 6 0 1 rfl).trans hc_) (by (rw [f1_, f2_, f4_]; exact wal_fr hw_ hF_)) (by (rw [f1_, f2_, f4_, f5_, f59_, f62_]; exact t9_.1)) (by (rw [f1_, f2_]; intro q9_; have z9_ := hi9_ ((S_.2.2.1 73 0 (tp_ - 1).toNat) / 3) (by omega) q9_.1; rw [show 3 * ((S_.2.2.1 73 0 (tp_ - 1).toNat) / 3) = (S_.2.2.1 73 0 (tp_ - 1).toNat) by omega] at z9_; omega))) (fun u_ Sx6_ px9_ => ?_)
          obtain ⟨rfl, vx11_, rfl, px9_⟩ := px9_
          have m9_ := px9_
          rw [f1_, f2_, f4_, f5_, f55_, f59_, f60_, f62_, f63_, f64_] at m9_
          refine sm_T_go 4 (c1 := (62, [some (.inr (.inr (some (6, 0)))), some (.inl a1_), some (.inr (.inr (some (2, cc_)))), some (.inl tp_), some (.inl gd_), some (.inl (S_.2.2.1 73 0 (tp_ - 1).toNat)), some (.inl vx11_)], [.inl (S_.2.2.1 73 0 (tp_ - 1).toNat), .inr (.inr (some (72, 0)))], S_)) rfl ?_
          refine sm_T_iald (n := 3039) rfl rfl (by omega) (by omega) ?_
          refine sm_T_go 1 (c1 := (64, [some (.inr (.inr (some (6, 0)))), some (.inl a1_), some (.inr (.inr (some (2, cc_)))), some (.inl tp_), some (.inl gd_), some (.inl (S_.2.2.1 73 0 (tp_ - 1).toNat)), some (.inl vx11_)], [.inl (-1), .inl (S_.2.2.1 72 0 (S_.2.2.1 73 0 (tp_ - 1).toNat).toNat)], S_)) rfl ?_
          refine sm_T_br (a := 0) (z := 9) rfl (fun cx12_ => ?_) (fun cx12_ => ?_)
          · have cx12_ : (S_.2.2.1 72 0 (S_.2.2.1 73 0 (tp_ - 1).toNat).toNat) = (-1) := of_decide_eq_true cx12_
            refine sm_T_go 2 (c1 := (76, [some (.inr (.inr (some (6, 0)))), some (.inl a1_), some (.inr (.inr (some (2, cc_)))), some (.inl tp_), some (.inl gd_), some (.inl (S_.2.2.1 73 0 (tp_ - 1).toNat)), some (.inl vx11_)], [.inl (-1), .inl vx11_], S_)) rfl ?_
            refine sm_T_br (a := 0) (z := 17) rfl (fun cx13_ => ?_) (fun cx13_ => ?_)
            · have cx13_ : vx11_ = (-1) := of_decide_eq_true cx13_
              have bx14_ : 0 ≤ S_.1 2 cc_ 8 ∧ S_.1 2 cc_ 8 ≤ 150 := hI_.1 2 cc_ 8 rfl
              refine sm_T_go 3 (c1 := (100, [some (.inr (.inr (some (6, 0)))), some (.inl a1_), some (.inr (.inr (some (2, cc_)))), some (.inl tp_), some (.inl gd_), some (.inl (S_.2.2.1 73 0 (tp_ - 1).toNat)), some (.inl vx11_)], [.inl 150, .inl (S_.1 2 cc_ 8)], S_)) rfl ?_
              refine sm_T_br (a := 1) (z := 5) rfl (fun cx15_ => ?_) (fun cx15_ => ?_)
              · have cx15_ : (S_.1 2 cc_ 8) ≠ 150 := of_decide_eq_true cx15_
                refine sm_T_go 6 (c1 := (115, [some (.inr (.inr (some (6, 0)))), some (.inl a1_), some (.inr (.inr (some (2, cc_)))), some (.inl tp_), some (.inl gd_), some (.inl (S_.2.2.1 73 0 (tp_ - 1).toNat)), some (.inl vx11_)], [.inr (.inr (some (2, cc_))), .inl (S_.2.2.1 73 0 (tp_ - 1).toNat), .inr (.inr (some (6, 0))), .inl (S_.2.2.1 73 0 (tp_ - 1).toNat), .inr (.inr (some (72, 0)))], S_)) rfl ?_
                refine sm_T_cal (d1 := 3) (Q1 := vq_114n (S_.2.2.1 73 0 (tp_ - 1).toNat) dd_ ll_ cc_ g9_ S_) rfl rfl (by decide) (vc_114n (S_.2.2.1 73 0 (tp_ - 1).toNat) dd_ ll_ cc_ g9_ S_ hI_ (by exact hg9_) (by exact (hF_.2.1 6 0 0 rfl).trans hd_) (by exact (hF_.2.1 6 0 1 rfl).trans hc_) (by (rw [f1_, f2_, f4_]; exact wal_fr hw_ hF_)) (by (rw [f1_, f2_, f4_, f5_, f59_, f62_]; exact t9_.1)) (by (rw [f1_, f2_]; intro q9_; have z9_ := hi9_ ((S_.2.2.1 73 0 (tp_ - 1).toNat) / 3) (by omega) q9_.1; rw [show 3 * ((S_.2.2.1 73 0 (tp_ - 1).toNat) / 3) = (S_.2.2.1 73 0 (tp_ - 1).toNat) by omega] at z9_; omega)) (by omega) (by omega) (by first | (exfalso; omega) | (rw [f1_, f2_, f55_, f60_, f62_, f63_, f64_]; exact (m9_.resolve_right (fun q9_ => absurd (by omega) q9_.1)).2))) (fun u_ Sx16_ px19_ => ?_)
                obtain ⟨vx21_, rfl, hIx17_, hFx18_, px19_⟩ := px19_
                have hFx20_ : ai_fr (sx_W vw_110n) S0_ Sx16_ := ai_fr_tr hF_ (fr_le hFx18_ rfl)
                obtain ⟨dx23_, px19_⟩ := px19_
                have hCx22_ : cdf cc_ S0_ Sx16_ := cdf_tr hC_ (cdf_cg (by omega) dx23_)
                have a115_ := (px19_).1
                have n115_ := (px19_).2
                have z73_ : Sx16_.2.2.1 73 0 = S_.2.2.1 73 0 := fr_arr hFx18_ rfl
                have z72_ : Sx16_.2.2.1 72 0 = S_.2.2.1 72 0 := fr_arr hFx18_ rfl
                have x1_ : 0 ≤ vx21_ := by omega
                refine sm_T_iast (n := 3039) rfl rfl (by omega) (by omega) ?_
                have hIx24_ : gi (sm_aI Sx16_ 72 0 (S_.2.2.1 73 0 (tp_ - 1).toNat).toNat vx21_) := gi_aI hIx17_ (show (-1) ≤ vx21_ ∧ vx21_ ≤ 161 from ⟨by omega, by omega⟩)
                have hFx25_ : ai_fr (sx_W vw_110n) S0_ (sm_aI Sx16_ 72 0 (S_.2.2.1 73 0 (tp_ - 1).toNat).toNat vx21_) := ai_fr_tr hFx20_ (ai_fr_aI rfl)
                have hCx26_ : cdf cc_ S0_ (sm_aI Sx16_ 72 0 (S_.2.2.1 73 0 (tp_ - 1).toNat).toNat vx21_) := cdf_aI hCx22_ (Or.inl rfl)
                refine sm_T_inc (a := 3) (z := (-1)) (v := tp_) (w := tp_ - 1) rfl rfl (by omega) (by omega) (by omega) ?_ -- pc_ 119
                refine sm_T_inc (a := 4) (z := 1) (v := gd_) (w := gd_ + 1) rfl rfl (by omega) (by omega) (by omega) ?_ -- pc_ 122
                refine sm_T_go 1 (c1 := (12, [some (.inr (.inr (some (6, 0)))), some (.inl a1_), some (.inr (.inr (some (2, cc_)))), some (.inl (tp_ - 1)), some (.inl (gd_ + 1)), some (.inl (S_.2.2.1 73 0 (tp_ - 1).toNat)), some (.inl vx11_)], [], sm_aI Sx16_ 72 0 (S_.2.2.1 73 0 (tp_ - 1).toNat).toNat vx21_)) rfl ?_
                refine sm_T_wk [some (.inr (.inr (some (6, 0)))), some (.inl a1_), some (.inr (.inr (some (2, cc_)))), some (.inl (tp_ - 1)), some (.inl (gd_ + 1)), none, none] (by exact ⟨rfl, rfl, rfl, rfl, rfl, trivial⟩) ?_
                refine ih_ (tp_ - 1) (gd_ + 1) (sm_aI Sx16_ 72 0 (S_.2.2.1 73 0 (tp_ - 1).toNat).toNat vx21_) hIx24_ hFx25_ ⟨?_, ?_, ?_, ?_, ?_, ?_, ?_, ?_, trivial⟩ ?_
                · omega
                · first | (intro i_ hi_; exact hT_ i_ (by omega)) | (have m8_ := m9_.resolve_left (fun q9_ => absurd q9_.1 (by omega)); intro i_ hi_; rw [rd_eq]; split; (have m5_ := m8_.2.2.1; exact ⟨m8_.2.1, by omega⟩); (exact hT_ i_ (by omega))) | (intro i_ hi_; rw [rd_ne (by decide), z73_]; exact hT_ i_ (by omega))
                · first | exact hi9_ | (intro x_ u_ w_; rw [rd_ne (by decide)]; exact hi9_ x_ u_ w_) | (intro x_ u_ w_; rw [rd_eq]; split; (omega); (rw [z72_]; exact hi9_ x_ u_ w_))
                · first | (exfalso; omega) | (have y8_ := a115_; refine ⟨_, cgz_fr (w_ := ([], [72], [])) n115_ (ai_fr_aI rfl), ?_⟩; have al9_ := (m9_.resolve_right (fun q9_ => absurd (by omega) q9_.1)).2; have dn9_ : ∀ j_, j_ < cpn ll_ S0_ (S_.2.2.1 73 0 (tp_ - 1).toNat).toNat → (S_.2.2.1 72 0, g9_).1 (cpv (1 + S0_.1 3 dd_ 1 + S0_.1 3 dd_ 2) S0_ (S_.2.2.1 73 0 (tp_ - 1).toNat).toNat j_) ≠ -1 := fun j_ hj_ => (by (unfold cpn at hj_; rw [tu9_] at hj_; have z9_ := al9_ (j_ : Int) (by omega) (by omega); show S_.2.2.1 72 0 _ ≠ -1; unfold cpv; rw [tu9_]; exact z9_)); have hX8_ := Eq.trans (Eq.symm (gsr_d (by decide) (show (S_.2.2.1 72 0, g9_).1 (S_.2.2.1 73 0 (tp_ - 1).toNat).toNat = -1 by (show S_.2.2.1 72 0 _ = -1; omega)) dn9_)) hX9_; rw [← hX8_]; have q73_ : ((sm_aI Sx16_ 72 0 (S_.2.2.1 73 0 (tp_ - 1).toNat).toNat vx21_)).2.2.1 73 0 = S_.2.2.1 73 0 := (by (rw [rd_ne_ (by decide), z73_])); rw [q73_]; have q72_ : ((sm_aI Sx16_ 72 0 (S_.2.2.1 73 0 (tp_ - 1).toNat).toNat vx21_)).2.2.1 72 0 = fun x_ => if x_ = (S_.2.2.1 73 0 (tp_ - 1).toNat).toNat then (S0_.1 2 cc_ 1 + S0_.1 2 cc_ 2) + ((g9_.length : Nat) : Int) else S_.2.2.1 72 0 x_ := (by (funext x_; rw [rd_eq, z72_]; have y9_ := hg9_.1; split; omega; rfl)); rw [q72_]; have fg9_ : cgc ll_ S_ = cgc ll_ S0_ ∧ cpn ll_ S_ = cpn ll_ S0_ ∧ cpv (1 + S_.1 3 dd_ 1 + S_.1 3 dd_ 2) S_ = cpv (1 + S0_.1 3 dd_ 1 + S0_.1 3 dd_ 2) S0_ := ⟨by (funext u_; unfold cgc; rw [f62_, f5_]), by (funext u_; unfold cpn; rw [f62_, f55_]), by (funext u_ k_; unfold cpv; rw [f1_, f2_, f60_, f62_, f63_, f64_])⟩; rw [fg9_.1, fg9_.2.1, fg9_.2.2]; rfl) | (have y7_ := m8_; obtain ⟨k9_, k91_, k92_, k93_⟩ := m8_.2.2.2.2; refine ⟨g9_, cgz_fr (w_ := ([], [73], [])) hg9_ (ai_fr_aI rfl), ?_⟩; have pk9_ : cpv (1 + S0_.1 3 dd_ 1 + S0_.1 3 dd_ 2) S0_ (S_.2.2.1 73 0 (tp_ - 1).toNat).toNat k9_.toNat = (ptv (1 + S0_.1 3 dd_ 1 + S0_.1 3 dd_ 2) (S0_.2.2.1 60 0) (S0_.2.2.1 62 0) (S0_.2.2.1 63 0) (S0_.2.2.1 64 0) (S_.2.2.1 73 0 (tp_ - 1).toNat) k9_).toNat := (by (unfold cpv; rw [tu9_, show ((k9_.toNat : Nat) : Int) = k9_ by omega])); have hX8_ := Eq.trans (Eq.symm (gsr_p b09_ GD9_ gk9_ I9_ rk9_ (show (S_.2.2.1 72 0, g9_).1 (S_.2.2.1 73 0 (tp_ - 1).toNat).toNat = -1 by (show S_.2.2.1 72 0 _ = -1; omega)) (k_ := k9_.toNat) (by (unfold cpn; rw [tu9_]; omega)) (fun j_ hj_ => by (have z9_ := k93_ (j_ : Int) (by omega) (by omega); show S_.2.2.1 72 0 _ ≠ -1; unfold cpv; rw [tu9_]; exact z9_)))) hX9_; rw [pk9_] at hX8_; rw [← hX8_, rd_ne_ (t'_ := 72) (by decide)]; have q73_ : stq (((sm_aI Sx16_ 72 0 (S_.2.2.1 73 0 (tp_ - 1).toNat).toNat vx21_)).2.2.1 73 0) (tp_ + 1).toNat = (ptv (1 + S0_.1 3 dd_ 1 + S0_.1 3 dd_ 2) (S0_.2.2.1 60 0) (S0_.2.2.1 62 0) (S0_.2.2.1 63 0) (S0_.2.2.1 64 0) (S_.2.2.1 73 0 (tp_ - 1).toNat) k9_).toNat :: stq (S_.2.2.1 73 0) tp_.toNat := (by (rw [show (tp_ + 1).toNat = tp_.toNat + 1 by omega]; show (((sm_aI Sx16_ 72 0 (S_.2.2.1 73 0 (tp_ - 1).toNat).toNat vx21_)).2.2.1 73 0 tp_.toNat).toNat :: stq _ _ = _; rw [rd_eq, if_pos rfl, k92_, stq_cg tp_.toNat (fun j_ hj_ => by (rw [rd_eq, if_neg (by omega)]))])); rw [q73_, st9_]) | (refine ⟨g9_, hg9_, ?_⟩; rw [gsr_n (show ¬ (S_.2.2.1 72 0, g9_).1 (S_.2.2.1 73 0 (tp_ - 1).toNat).toNat = -1 by (show ¬ S_.2.2.1 72 0 _ = -1; omega))] at hX9_; exact hX9_)
                · first | (have y8_ := a115_; intro i_ u_; rw [rd_ne (by decide), rd_ne (by decide), z73_]; exact hRk_ i_ (by omega)) | (have y7_ := m8_; intro i_ u_; rw [rd_eq, rd_eq, if_neg (show ¬ i_ = tp_.toNat by omega)]; by_cases z9_ : i_ + 1 = tp_.toNat; (rw [if_pos z9_, show i_ = (tp_ - 1).toNat by omega]; exact m8_.2.2.1); (rw [if_neg z9_]; exact hRk_ i_ (by omega))) | (intro i_ u_; exact hRk_ i_ (by omega))
                · first | (exfalso; omega) | (have y8_ := a115_; intro i_ u_; rw [rd_ne (show (73 : Nat) ≠ 72 by decide), z73_, rd_eq]; left; rw [if_neg (show ¬ (S_.2.2.1 73 0 i_).toNat = (S_.2.2.1 73 0 (tp_ - 1).toNat).toNat from fun q9_ => by (have z9_ : ∀ d_ : Nat, ∀ j_ : Nat, j_ + d_ + 1 = (tp_ - 1).toNat + 1 → j_ ≤ (tp_ - 1).toNat → j_ < (tp_ - 1).toNat → grk (S0_.2.2.1 62 0) (S_.2.2.1 73 0 j_) > grk (S0_.2.2.1 62 0) (S_.2.2.1 73 0 (tp_ - 1).toNat) := (by (intro d_; induction d_ with | zero => (intro j_ h1_ h2_ h3_; exfalso; omega) | succ d_ ih9_ => (intro j_ h1_ h2_ h3_; have y9_ := hRk_ j_ (by omega); by_cases e9_ : j_ + 1 = (tp_ - 1).toNat; (rw [e9_] at y9_; omega); (have x9_ := ih9_ (j_ + 1) (by omega) (by omega) (by omega); omega)))); have y9_ := z9_ ((tp_ - 1).toNat - i_) i_ (by omega) (by omega) (by omega); have x9_ := hT_ i_ (by omega); have w9_ := x9_.1.1; have v9_ : S_.2.2.1 73 0 i_ = S_.2.2.1 73 0 (tp_ - 1).toNat := (by omega); rw [v9_] at y9_; omega)), z72_]; have z9_ := hun_ i_ (by omega); rcases z9_ with z9_ | z9_; exact z9_; (have z8_ := hcn_.2 z9_; exfalso; omega)) | (have y7_ := m8_; intro i_ u_; rw [rd_ne (by decide), rd_eq]; left; split; (exact m8_.2.2.2.1); (have z9_ := hun_ i_ (by omega); rcases z9_ with z9_ | z9_; exact z9_; (have z8_ := hcn_.2 z9_; rw [show i_ = (tp_ - 1).toNat by omega]; omega))) | (intro i_ u_; exfalso; have z9_ := hcn_.2; omega)
                · first | (exfalso; omega) | (have y8_ := a115_; refine ⟨?_, fun u_ => by omega⟩; have U9_ : cn1 (isn ((sm_aI Sx16_ 72 0 (S_.2.2.1 73 0 (tp_ - 1).toNat).toNat vx21_).2.2.1 72 0)) 3039 + 1 = cn1 (isn (S_.2.2.1 72 0)) 3039 := (cn1_up (f := isn ((sm_aI Sx16_ 72 0 (S_.2.2.1 73 0 (tp_ - 1).toNat).toNat vx21_).2.2.1 72 0)) (g := isn (S_.2.2.1 72 0)) (j := (S_.2.2.1 73 0 (tp_ - 1).toNat).toNat) (fun q9_ => by (have w9_ := isn_1.mp q9_; rw [rd_eq, if_pos rfl] at w9_; omega)) (isn_1.mpr (by omega)) (fun k9_ hk9_ => by (unfold isn; rw [rd_eq, if_neg hk9_, z72_])) (n := 3039) (by omega)).symm; have z9_ := hcn_.1; omega) | (have y7_ := m9_; refine ⟨?_, fun u_ => by omega⟩; rw [rd_ne_ (by decide)]; have z9_ := hcn_.1; omega) | (refine ⟨Or.inr ?_, fun u_ => by omega⟩; have z9_ := hcn_.2; omega)
                · exact hCx26_
                · omega
              · have cx15_ : ¬ ((S_.1 2 cc_ 8) ≠ 150) := of_decide_eq_false cx15_
                refine sm_T_go 1 (c1 := (104, [some (.inr (.inr (some (6, 0)))), some (.inl a1_), some (.inr (.inr (some (2, cc_)))), some (.inl tp_), some (.inl gd_), some (.inl (S_.2.2.1 73 0 (tp_ - 1).toNat)), some (.inl vx11_)], [.inl 0], S_)) rfl ?_
                refine sm_T_rz rfl (by omega) ⟨_, _, rfl, _, rfl, hI_, hF_, ?_⟩
                refine ⟨hC_, ?_⟩
                first
                | (exfalso; omega)
                | (refine ⟨⟨Or.inl rfl, hi9_⟩, fun u_ => absurd u_ (by decide), fun _ => ?_⟩
                   have al9_ := (m9_.resolve_right (fun q9_ => absurd (by omega) q9_.1)).2
                   have dn9_ : ∀ j_, j_ < cpn ll_ S0_ (S_.2.2.1 73 0 (tp_ - 1).toNat).toNat → (S_.2.2.1 72 0, g9_).1 (cpv (1 + S0_.1 3 dd_ 1 + S0_.1 3 dd_ 2) S0_ (S_.2.2.1 73 0 (tp_ - 1).toNat).toNat j_) ≠ -1 := fun j_ hj_ => by (unfold cpn at hj_; rw [tu9_] at hj_; have z9_ := al9_ (j_ : Int) (by omega) (by omega); show S_.2.2.1 72 0 _ ≠ -1; unfold cpv; rw [tu9_]; exact z9_)
                   rw [gsr_d (by decide) (show (S_.2.2.1 72 0, g9_).1 (S_.2.2.1 73 0 (tp_ - 1).toNat).toNat = -1 by (show S_.2.2.1 72 0 _ = -1; omega)) dn9_] at hX9_
                   have le9_ := gsr_l (gc_ := cgc ll_ S0_) b09_ GD9_ (f_ := 4000) (stq (S_.2.2.1 73 0) (tp_ - 1).toNat) (gfin (cpn ll_ S0_) (cpv (1 + S0_.1 3 dd_ 1 + S0_.1 3 dd_ 2) S0_) (cgc ll_ S0_) (S0_.1 2 cc_ 1 + S0_.1 2 cc_ 2) (S_.2.2.1 73 0 (tp_ - 1).toNat).toNat (S_.2.2.1 72 0, g9_)) (fun u_ hu_ => ?_) (fun x_ hx_ => ?_)
                   · obtain ⟨l9_, e9_⟩ := le9_.2
                     rw [← hX9_, e9_, List.length_append]
                     have q9_ : (gfin (cpn ll_ S0_) (cpv (1 + S0_.1 3 dd_ 1 + S0_.1 3 dd_ 2) S0_) (cgc ll_ S0_) (S0_.1 2 cc_ 1 + S0_.1 2 cc_ 2) (S_.2.2.1 73 0 (tp_ - 1).toNat).toNat (S_.2.2.1 72 0, g9_)).2.length = g9_.length + 1 := by (show (g9_ ++ _).length = _; rw [List.length_append]; rfl)
                     have y9_ := hg9_.1
                     omega
                   · obtain ⟨j9_, j91_, j92_⟩ := stq_m hu_
                     have z9_ := hT_ j9_ (by omega)
                     have z8_ := z9_.1.1
                     have z7_ := grk_b (S0_.2.2.1 62 0) (S_.2.2.1 73 0 j9_)
                     have z6_ : ((u_ : Nat) : Int) = S_.2.2.1 73 0 j9_ := by omega
                     exact ⟨by (unfold cgk; rw [z6_]; exact z9_.1), by (unfold crk; rw [z6_]; omega)⟩
                   · show (if x_ = (S_.2.2.1 73 0 (tp_ - 1).toNat).toNat then (S0_.1 2 cc_ 1 + S0_.1 2 cc_ 2) + ((g9_.length : Nat) : Int) else S_.2.2.1 72 0 x_) ≠ -1
                     split
                     · omega
                     · exact I9_ x_ hx_)
            · have cx13_ : ¬ (vx11_ = (-1)) := of_decide_eq_false cx13_
              have m8_ := m9_.resolve_left (fun q9_ => absurd q9_.1 (by omega))
              have m7_ := m8_.2.1.1
              have m6_ := m8_.2.1.2.1
              have m5_ := m8_.2.2.1
              have m4_ := fun y_ => grk_b (S0_.2.2.1 62 0) y_
              have m3 := m4_ _ |>.1 |> fun h_ => Int.lt_of_le_of_lt h_ m5_
              refine sm_T_go 4 (c1 := (86, [some (.inr (.inr (some (6, 0)))), some (.inl a1_), some (.inr (.inr (some (2, cc_)))), some (.inl tp_), some (.inl gd_), some (.inl (S_.2.2.1 73 0 (tp_ - 1).toNat)), some (.inl vx11_)], [.inl vx11_, .inl tp_, .inr (.inr (some (73, 0)))], S_)) rfl ?_
              refine sm_T_iast (n := 3039) rfl rfl (by omega) (by omega) ?_
              have hIx27_ : gi (sm_aI S_ 73 0 tp_.toNat vx11_) := gi_aI hI_ (show 0 ≤ vx11_ ∧ vx11_ ≤ 3039 from ⟨by omega, by omega⟩)
              have hFx28_ : ai_fr (sx_W vw_110n) S0_ (sm_aI S_ 73 0 tp_.toNat vx11_) := ai_fr_tr hF_ (ai_fr_aI rfl)
              have hCx29_ : cdf cc_ S0_ (sm_aI S_ 73 0 tp_.toNat vx11_) := cdf_aI hC_ (Or.inl rfl)
              refine sm_T_inc (a := 3) (z := 1) (v := tp_) (w := tp_ + 1) rfl rfl (by omega) (by omega) (by omega) ?_ -- pc_ 87
              refine sm_T_go 1 (c1 := (122, [some (.inr (.inr (some (6, 0)))), some (.inl a1_), some (.inr (.inr (some (2, cc_)))), some (.inl (tp_ + 1)), some (.inl gd_), some (.inl (S_.2.2.1 73 0 (tp_ - 1).toNat)), some (.inl vx11_)], [], sm_aI S_ 73 0 tp_.toNat vx11_)) rfl ?_
              refine sm_T_inc (a := 4) (z := 1) (v := gd_) (w := gd_ + 1) rfl rfl (by omega) (by omega) (by omega) ?_ -- pc_ 122
              refine sm_T_go 1 (c1 := (12, [some (.inr (.inr (some (6, 0)))), some (.inl a1_), some (.inr (.inr (some (2, cc_)))), some (.inl (tp_ + 1)), some (.inl (gd_ + 1)), some (.inl (S_.2.2.1 73 0 (tp_ - 1).toNat)), some (.inl vx11_)], [], sm_aI S_ 73 0 tp_.toNat vx11_)) rfl ?_
              refine sm_T_wk [some (.inr (.inr (some (6, 0)))), some (.inl a1_), some (.inr (.inr (some (2, cc_)))), some (.inl (tp_ + 1)), some (.inl (gd_ + 1)), none, none] (by exact ⟨rfl, rfl, rfl, rfl, rfl, trivial⟩) ?_
              refine ih_ (tp_ + 1) (gd_ + 1) (sm_aI S_ 73 0 tp_.toNat vx11_) hIx27_ hFx28_ ⟨?_, ?_, ?_, ?_, ?_, ?_, ?_, ?_, trivial⟩ ?_
              · omega
              · first | (intro i_ hi_; exact hT_ i_ (by omega)) | (have m8_ := m9_.resolve_left (fun q9_ => absurd q9_.1 (by omega)); intro i_ hi_; rw [rd_eq]; split; (have m5_ := m8_.2.2.1; exact ⟨m8_.2.1, by omega⟩); (exact hT_ i_ (by omega))) | (intro i_ hi_; rw [rd_ne (by decide), z73_]; exact hT_ i_ (by omega))
              · first | exact hi9_ | (intro x_ u_ w_; rw [rd_ne (by decide)]; exact hi9_ x_ u_ w_) | (intro x_ u_ w_; rw [rd_eq]; split; (omega); (rw [z72_]; exact hi9_ x_ u_ w_))
              · first | (exfalso; omega) | (have y8_ := a115_; refine ⟨_, cgz_fr (w_ := ([], [72], [])) n115_ (ai_fr_aI rfl), ?_⟩; have al9_ := (m9_.resolve_right (fun q9_ => absurd (by omega) q9_.1)).2; have dn9_ : ∀ j_, j_ < cpn ll_ S0_ (S_.2.2.1 73 0 (tp_ - 1).toNat).toNat → (S_.2.2.1 72 0, g9_).1 (cpv (1 + S0_.1 3 dd_ 1 + S0_.1 3 dd_ 2) S0_ (S_.2.2.1 73 0 (tp_ - 1).toNat).toNat j_) ≠ -1 := fun j_ hj_ => (by (unfold cpn at hj_; rw [tu9_] at hj_; have z9_ := al9_ (j_ : Int) (by omega) (by omega); show S_.2.2.1 72 0 _ ≠ -1; unfold cpv; rw [tu9_]; exact z9_)); have hX8_ := Eq.trans (Eq.symm (gsr_d (by decide) (show (S_.2.2.1 72 0, g9_).1 (S_.2.2.1 73 0 (tp_ - 1).toNat).toNat = -1 by (show S_.2.2.1 72 0 _ = -1; omega)) dn9_)) hX9_; rw [← hX8_]; have q73_ : ((sm_aI S_ 73 0 tp_.toNat vx11_)).2.2.1 73 0 = S_.2.2.1 73 0 := (by (rw [rd_ne_ (by decide), z73_])); rw [q73_]; have q72_ : ((sm_aI S_ 73 0 tp_.toNat vx11_)).2.2.1 72 0 = fun x_ => if x_ = (S_.2.2.1 73 0 (tp_ - 1).toNat).toNat then (S0_.1 2 cc_ 1 + S0_.1 2 cc_ 2) + ((g9_.length : Nat) : Int) else S_.2.2.1 72 0 x_ := (by (funext x_; rw [rd_eq, z72_]; have y9_ := hg9_.1; split; omega; rfl)); rw [q72_]; have fg9_ : cgc ll_ S_ = cgc ll_ S0_ ∧ cpn ll_ S_ = cpn ll_ S0_ ∧ cpv (1 + S_.1 3 dd_ 1 + S_.1 3 dd_ 2) S_ = cpv (1 + S0_.1 3 dd_ 1 + S0_.1 3 dd_ 2) S0_ := ⟨by (funext u_; unfold cgc; rw [f62_, f5_]), by (funext u_; unfold cpn; rw [f62_, f55_]), by (funext u_ k_; unfold cpv; rw [f1_, f2_, f60_, f62_, f63_, f64_])⟩; rw [fg9_.1, fg9_.2.1, fg9_.2.2]; rfl) | (have y7_ := m8_; obtain ⟨k9_, k91_, k92_, k93_⟩ := m8_.2.2.2.2; refine ⟨g9_, cgz_fr (w_ := ([], [73], [])) hg9_ (ai_fr_aI rfl), ?_⟩; have pk9_ : cpv (1 + S0_.1 3 dd_ 1 + S0_.1 3 dd_ 2) S0_ (S_.2.2.1 73 0 (tp_ - 1).toNat).toNat k9_.toNat = (ptv (1 + S0_.1 3 dd_ 1 + S0_.1 3 dd_ 2) (S0_.2.2.1 60 0) (S0_.2.2.1 62 0) (S0_.2.2.1 63 0) (S0_.2.2.1 64 0) (S_.2.2.1 73 0 (tp_ - 1).toNat) k9_).toNat := (by (unfold cpv; rw [tu9_, show ((k9_.toNat : Nat) : Int) = k9_ by omega])); have hX8_ := Eq.trans (Eq.symm (gsr_p b09_ GD9_ gk9_ I9_ rk9_ (show (S_.2.2.1 72 0, g9_).1 (S_.2.2.1 73 0 (tp_ - 1).toNat).toNat = -1 by (show S_.2.2.1 72 0 _ = -1; omega)) (k_ := k9_.toNat) (by (unfold cpn; rw [tu9_]; omega)) (fun j_ hj_ => by (have z9_ := k93_ (j_ : Int) (by omega) (by omega); show S_.2.2.1 72 0 _ ≠ -1; unfold cpv; rw [tu9_]; exact z9_)))) hX9_; rw [pk9_] at hX8_; rw [← hX8_, rd_ne_ (t'_ := 72) (by decide)]; have q73_ : stq (((sm_aI S_ 73 0 tp_.toNat vx11_)).2.2.1 73 0) (tp_ + 1).toNat = (ptv (1 + S0_.1 3 dd_ 1 + S0_.1 3 dd_ 2) (S0_.2.2.1 60 0) (S0_.2.2.1 62 0) (S0_.2.2.1 63 0) (S0_.2.2.1 64 0) (S_.2.2.1 73 0 (tp_ - 1).toNat) k9_).toNat :: stq (S_.2.2.1 73 0) tp_.toNat := (by (rw [show (tp_ + 1).toNat = tp_.toNat + 1 by omega]; show (((sm_aI S_ 73 0 tp_.toNat vx11_)).2.2.1 73 0 tp_.toNat).toNat :: stq _ _ = _; rw [rd_eq, if_pos rfl, k92_, stq_cg tp_.toNat (fun j_ hj_ => by (rw [rd_eq, if_neg (by omega)]))])); rw [q73_, st9_]) | (refine ⟨g9_, hg9_, ?_⟩; rw [gsr_n (show ¬ (S_.2.2.1 72 0, g9_).1 (S_.2.2.1 73 0 (tp_ - 1).toNat).toNat = -1 by (show ¬ S_.2.2.1 72 0 _ = -1; omega))] at hX9_; exact hX9_)
              · first | (have y8_ := a115_; intro i_ u_; rw [rd_ne (by decide), rd_ne (by decide), z73_]; exact hRk_ i_ (by omega)) | (have y7_ := m8_; intro i_ u_; rw [rd_eq, rd_eq, if_neg (show ¬ i_ = tp_.toNat by omega)]; by_cases z9_ : i_ + 1 = tp_.toNat; (rw [if_pos z9_, show i_ = (tp_ - 1).toNat by omega]; exact m8_.2.2.1); (rw [if_neg z9_]; exact hRk_ i_ (by omega))) | (intro i_ u_; exact hRk_ i_ (by omega))
              · first | (exfalso; omega) | (have y8_ := a115_; intro i_ u_; rw [rd_ne (show (73 : Nat) ≠ 72 by decide), z73_, rd_eq]; left; rw [if_neg (show ¬ (S_.2.2.1 73 0 i_).toNat = (S_.2.2.1 73 0 (tp_ - 1).toNat).toNat from fun q9_ => by (have z9_ : ∀ d_ : Nat, ∀ j_ : Nat, j_ + d_ + 1 = (tp_ - 1).toNat + 1 → j_ ≤ (tp_ - 1).toNat → j_ < (tp_ - 1).toNat → grk (S0_.2.2.1 62 0) (S_.2.2.1 73 0 j_) > grk (S0_.2.2.1 62 0) (S_.2.2.1 73 0 (tp_ - 1).toNat) := (by (intro d_; induction d_ with | zero => (intro j_ h1_ h2_ h3_; exfalso; omega) | succ d_ ih9_ => (intro j_ h1_ h2_ h3_; have y9_ := hRk_ j_ (by omega); by_cases e9_ : j_ + 1 = (tp_ - 1).toNat; (rw [e9_] at y9_; omega); (have x9_ := ih9_ (j_ + 1) (by omega) (by omega) (by omega); omega)))); have y9_ := z9_ ((tp_ - 1).toNat - i_) i_ (by omega) (by omega) (by omega); have x9_ := hT_ i_ (by omega); have w9_ := x9_.1.1; have v9_ : S_.2.2.1 73 0 i_ = S_.2.2.1 73 0 (tp_ - 1).toNat := (by omega); rw [v9_] at y9_; omega)), z72_]; have z9_ := hun_ i_ (by omega); rcases z9_ with z9_ | z9_; exact z9_; (have z8_ := hcn_.2 z9_; exfalso; omega)) | (have y7_ := m8_; intro i_ u_; rw [rd_ne (by decide), rd_eq]; left; split; (exact m8_.2.2.2.1); (have z9_ := hun_ i_ (by omega); rcases z9_ with z9_ | z9_; exact z9_; (have z8_ := hcn_.2 z9_; rw [show i_ = (tp_ - 1).toNat by omega]; omega))) | (intro i_ u_; exfalso; have z9_ := hcn_.2; omega)
              · first | (exfalso; omega) | (have y8_ := a115_; refine ⟨?_, fun u_ => by omega⟩; have U9_ : cn1 (isn ((sm_aI S_ 73 0 tp_.toNat vx11_).2.2.1 72 0)) 3039 + 1 = cn1 (isn (S_.2.2.1 72 0)) 3039 := (cn1_up (f := isn ((sm_aI S_ 73 0 tp_.toNat vx11_).2.2.1 72 0)) (g := isn (S_.2.2.1 72 0)) (j := (S_.2.2.1 73 0 (tp_ - 1).toNat).toNat) (fun q9_ => by (have w9_ := isn_1.mp q9_; rw [rd_eq, if_pos rfl] at w9_; omega)) (isn_1.mpr (by omega)) (fun k9_ hk9_ => by (unfold isn; rw [rd_eq, if_neg hk9_, z72_])) (n := 3039) (by omega)).symm; have z9_ := hcn_.1; omega) | (have y7_ := m9_; refine ⟨?_, fun u_ => by omega⟩; rw [rd_ne_ (by decide)]; have z9_ := hcn_.1; omega) | (refine ⟨Or.inr ?_, fun u_ => by omega⟩; have z9_ := hcn_.2; omega)
              · exact hCx29_
              · omega
          · have cx12_ : ¬ ((S_.2.2.1 72 0 (S_.2.2.1 73 0 (tp_ - 1).toNat).toNat) = (-1)) := of_decide_eq_false cx12_
            exfalso; omega
        · have cx5_ : ¬ ((S_.2.2.1 72 0 (S_.2.2.1 73 0 (tp_ - 1).toNat).toNat) = (-1)) := of_decide_eq_false cx5_
          refine sm_T_go 6 (c1 := (62, [some (.inr (.inr (some (6, 0)))), some (.inl a1_), some (.inr (.inr (some (2, cc_)))), some (.inl tp_), some (.inl gd_), some (.inl (S_.2.2.1 73 0 (tp_ - 1).toNat)), some (.inl (-1))], [.inl (S_.2.2.1 73 0 (tp_ - 1).toNat), .inr (.inr (some (72, 0)))], S_)) rfl ?_
          refine sm_T_iald (n := 3039) rfl rfl (by omega) (by omega) ?_
          refine sm_T_go 1 (c1 := (64, [some (.inr (.inr (some (6, 0)))), some (.inl a1_), some (.inr (.inr (some (2, cc_)))), some (.inl tp_), some (.inl gd_), some (.inl (S_.2.2.1 73 0 (tp_ - 1).toNat)), some (.inl (-1))], [.inl (-1), .inl (S_.2.2.1 72 0 (S_.2.2.1 73 0 (tp_ - 1).toNat).toNat)], S_)) rfl ?_
          refine sm_T_br (a := 0) (z := 9) rfl (fun cx30_ => ?_) (fun cx30_ => ?_)
          · have cx30_ : (S_.2.2.1 72 0 (S_.2.2.1 73 0 (tp_ - 1).toNat).toNat) = (-1) := of_decide_eq_true cx30_
            have bx31_ : 0 ≤ S_.1 2 cc_ 8 ∧ S_.1 2 cc_ 8 ≤ 150 := hI_.1 2 cc_ 8 rfl
            refine sm_T_go 6 (c1 := (100, [some (.inr (.inr (some (6, 0)))), some (.inl a1_), some (.inr (.inr (some (2, cc_)))), some (.inl tp_), some (.inl gd_), some (.inl (S_.2.2.1 73 0 (tp_ - 1).toNat)), some (.inl (-1))], [.inl 150, .inl (S_.1 2 cc_ 8)], S_)) rfl ?_
            refine sm_T_br (a := 1) (z := 5) rfl (fun cx32_ => ?_) (fun cx32_ => ?_)
            · have cx32_ : (S_.1 2 cc_ 8) ≠ 150 := of_decide_eq_true cx32_
              refine sm_T_go 6 (c1 := (115, [some (.inr (.inr (some (6, 0)))), some (.inl a1_), some (.inr (.inr (some (2, cc_)))), some (.inl tp_), some (.inl gd_), some (.inl (S_.2.2.1 73 0 (tp_ - 1).toNat)), some (.inl (-1))], [.inr (.inr (some (2, cc_))), .inl (S_.2.2.1 73 0 (tp_ - 1).toNat), .inr (.inr (some (6, 0))), .inl (S_.2.2.1 73 0 (tp_ - 1).toNat), .inr (.inr (some (72, 0)))], S_)) rfl ?_
              refine sm_T_cal (d1 := 3) (Q1 := vq_114n (S_.2.2.1 73 0 (tp_ - 1).toNat) dd_ ll_ cc_ g9_ S_) rfl rfl (by decide) (vc_114n (S_.2.2.1 73 0 (tp_ - 1).toNat) dd_ ll_ cc_ g9_ S_ hI_ (by exact hg9_) (by exact (hF_.2.1 6 0 0 rfl).trans hd_) (by exact (hF_.2.1 6 0 1 rfl).trans hc_) (by (rw [f1_, f2_, f4_]; exact wal_fr hw_ hF_)) (by (rw [f1_, f2_, f4_, f5_, f59_, f62_]; exact t9_.1)) (by (rw [f1_, f2_]; intro q9_; have z9_ := hi9_ ((S_.2.2.1 73 0 (tp_ - 1).toNat) / 3) (by omega) q9_.1; rw [show 3 * ((S_.2.2.1 73 0 (tp_ - 1).toNat) / 3) = (S_.2.2.1 73 0 (tp_ - 1).toNat) by omega] at z9_; omega)) (by omega) (by omega) (by first | (exfalso; omega) | (rw [f1_, f2_, f55_, f60_, f62_, f63_, f64_]; exact (m9_.resolve_right (fun q9_ => absurd (by omega) q9_.1)).2))) (fun u_ Sx33_ px36_ => ?_)
              obtain ⟨vx38_, rfl, hIx34_, hFx35_, px36_⟩ := px36_
              have hFx37_ : ai_fr (sx_W vw_110n) S0_ Sx33_ := ai_fr_tr hF_ (fr_le hFx35_ rfl)
              obtain ⟨dx40_, px36_⟩ := px36_
              have hCx39_ : cdf cc_ S0_ Sx33_ := cdf_tr hC_ (cdf_cg (by omega) dx40_)
              have a115_ := (px36_).1
              have n115_ := (px36_).2
              have z73_ : Sx33_.2.2.1 73 0 = S_.2.2.1 73 0 := fr_arr hFx35_ rfl
              have z72_ : Sx33_.2.2.1 72 0 = S_.2.2.1 72 0 := fr_arr hFx35_ rfl
              have x1_ : 0 ≤ vx38_ := by omega
              refine sm_T_iast (n := 3039) rfl rfl (by omega) (by omega) ?_
              have hIx41_ : gi (sm_aI Sx33_ 72 0 (S_.2.2.1 73 0 (tp_ - 1).toNat).toNat vx38_) := gi_aI hIx34_ (show (-1) ≤ vx38_ ∧ vx38_ ≤ 161 from ⟨by omega, by omega⟩)
              have hFx42_ : ai_fr (sx_W vw_110n) S0_ (sm_aI Sx33_ 72 0 (S_.2.2.1 73 0 (tp_ - 1).toNat).toNat vx38_) := ai_fr_tr hFx37_ (ai_fr_aI rfl)
              have hCx43_ : cdf cc_ S0_ (sm_aI Sx33_ 72 0 (S_.2.2.1 73 0 (tp_ - 1).toNat).toNat vx38_) := cdf_aI hCx39_ (Or.inl rfl)
              refine sm_T_inc (a := 3) (z := (-1)) (v := tp_) (w := tp_ - 1) rfl rfl (by omega) (by omega) (by omega) ?_ -- pc_ 119
              refine sm_T_inc (a := 4) (z := 1) (v := gd_) (w := gd_ + 1) rfl rfl (by omega) (by omega) (by omega) ?_ -- pc_ 122
              refine sm_T_go 1 (c1 := (12, [some (.inr (.inr (some (6, 0)))), some (.inl a1_), some (.inr (.inr (some (2, cc_)))), some (.inl (tp_ - 1)), some (.inl (gd_ + 1)), some (.inl (S_.2.2.1 73 0 (tp_ - 1).toNat)), some (.inl (-1))], [], sm_aI Sx33_ 72 0 (S_.2.2.1 73 0 (tp_ - 1).toNat).toNat vx38_)) rfl ?_
              refine sm_T_wk [some (.inr (.inr (some (6, 0)))), some (.inl a1_), some (.inr (.inr (some (2, cc_)))), some (.inl (tp_ - 1)), some (.inl (gd_ + 1)), none, none] (by exact ⟨rfl, rfl, rfl, rfl, rfl, trivial⟩) ?_
              refine ih_ (tp_ - 1) (gd_ + 1) (sm_aI Sx33_ 72 0 (S_.2.2.1 73 0 (tp_ - 1).toNat).toNat vx38_) hIx41_ hFx42_ ⟨?_, ?_, ?_, ?_, ?_, ?_, ?_, ?_, trivial⟩ ?_
              · omega
              · first | (intro i_ hi_; exact hT_ i_ (by omega)) | (have m8_ := m9_.resolve_left (fun q9_ => absurd q9_.1 (by omega)); intro i_ hi_; rw [rd_eq]; split; (have m5_ := m8_.2.2.1; exact ⟨m8_.2.1, by omega⟩); (exact hT_ i_ (by omega))) | (intro i_ hi_; rw [rd_ne (by decide), z73_]; exact hT_ i_ (by omega))
              · first | exact hi9_ | (intro x_ u_ w_; rw [rd_ne (by decide)]; exact hi9_ x_ u_ w_) | (intro x_ u_ w_; rw [rd_eq]; split; (omega); (rw [z72_]; exact hi9_ x_ u_ w_))
              · first | (exfalso; omega) | (have y8_ := a115_; refine ⟨_, cgz_fr (w_ := ([], [72], [])) n115_ (ai_fr_aI rfl), ?_⟩; have al9_ := (m9_.resolve_right (fun q9_ => absurd (by omega) q9_.1)).2; have dn9_ : ∀ j_, j_ < cpn ll_ S0_ (S_.2.2.1 73 0 (tp_ - 1).toNat).toNat → (S_.2.2.1 72 0, g9_).1 (cpv (1 + S0_.1 3 dd_ 1 + S0_.1 3 dd_ 2) S0_ (S_.2.2.1 73 0 (tp_ - 1).toNat).toNat j_) ≠ -1 := fun j_ hj_ => (by (unfold cpn at hj_; rw [tu9_] at hj_; have z9_ := al9_ (j_ : Int) (by omega) (by omega); show S_.2.2.1 72 0 _ ≠ -1; unfold cpv; rw [tu9_]; exact z9_)); have hX8_ := Eq.trans (Eq.symm (gsr_d (by decide) (show (S_.2.2.1 72 0, g9_).1 (S_.2.2.1 73 0 (tp_ - 1).toNat).toNat = -1 by (show S_.2.2.1 72 0 _ = -1; omega)) dn9_)) hX9_; rw [← hX8_]; have q73_ : ((sm_aI Sx33_ 72 0 (S_.2.2.1 73 0 (tp_ - 1).toNat).toNat vx38_)).2.2.1 73 0 = S_.2.2.1 73 0 := (by (rw [rd_ne_ (by decide), z73_])); rw [q73_]; have q72_ : ((sm_aI Sx33_ 72 0 (S_.2.2.1 73 0 (tp_ - 1).toNat).toNat vx38_)).2.2.1 72 0 = fun x_ => if x_ = (S_.2.2.1 73 0 (tp_ - 1).toNat).toNat then (S0_.1 2 cc_ 1 + S0_.1 2 cc_ 2) + ((g9_.length : Nat) : Int) else S_.2.2.1 72 0 x_ := (by (funext x_; rw [rd_eq, z72_]; have y9_ := hg9_.1; split; omega; rfl)); rw [q72_]; have fg9_ : cgc ll_ S_ = cgc ll_ S0_ ∧ cpn ll_ S_ = cpn ll_ S0_ ∧ cpv (1 + S_.1 3 dd_ 1 + S_.1 3 dd_ 2) S_ = cpv (1 + S0_.1 3 dd_ 1 + S0_.1 3 dd_ 2) S0_ := ⟨by (funext u_; unfold cgc; rw [f62_, f5_]), by (funext u_; unfold cpn; rw [f62_, f55_]), by (funext u_ k_; unfold cpv; rw [f1_, f2_, f60_, f62_, f63_, f64_])⟩; rw [fg9_.1, fg9_.2.1, fg9_.2.2]; rfl) | (have y7_ := m8_; obtain ⟨k9_, k91_, k92_, k93_⟩ := m8_.2.2.2.2; refine ⟨g9_, cgz_fr (w_ := ([], [73], [])) hg9_ (ai_fr_aI rfl), ?_⟩; have pk9_ : cpv (1 + S0_.1 3 dd_ 1 + S0_.1 3 dd_ 2) S0_ (S_.2.2.1 73 0 (tp_ - 1).toNat).toNat k9_.toNat = (ptv (1 + S0_.1 3 dd_ 1 + S0_.1 3 dd_ 2) (S0_.2.2.1 60 0) (S0_.2.2.1 62 0) (S0_.2.2.1 63 0) (S0_.2.2.1 64 0) (S_.2.2.1 73 0 (tp_ - 1).toNat) k9_).toNat := (by (unfold cpv; rw [tu9_, show ((k9_.toNat : Nat) : Int) = k9_ by omega])); have hX8_ := Eq.trans (Eq.symm (gsr_p b09_ GD9_ gk9_ I9_ rk9_ (show (S_.2.2.1 72 0, g9_).1 (S_.2.2.1 73 0 (tp_ - 1).toNat).toNat = -1 by (show S_.2.2.1 72 0 _ = -1; omega)) (k_ := k9_.toNat) (by (unfold cpn; rw [tu9_]; omega)) (fun j_ hj_ => by (have z9_ := k93_ (j_ : Int) (by omega) (by omega); show S_.2.2.1 72 0 _ ≠ -1; unfold cpv; rw [tu9_]; exact z9_)))) hX9_; rw [pk9_] at hX8_; rw [← hX8_, rd_ne_ (t'_ := 72) (by decide)]; have q73_ : stq (((sm_aI Sx33_ 72 0 (S_.2.2.1 73 0 (tp_ - 1).toNat).toNat vx38_)).2.2.1 73 0) (tp_ + 1).toNat = (ptv (1 + S0_.1 3 dd_ 1 + S0_.1 3 dd_ 2) (S0_.2.2.1 60 0) (S0_.2.2.1 62 0) (S0_.2.2.1 63 0) (S0_.2.2.1 64 0) (S_.2.2.1 73 0 (tp_ - 1).toNat) k9_).toNat :: stq (S_.2.2.1 73 0) tp_.toNat := (by (rw [show (tp_ + 1).toNat = tp_.toNat + 1 by omega]; show (((sm_aI Sx33_ 72 0 (S_.2.2.1 73 0 (tp_ - 1).toNat).toNat vx38_)).2.2.1 73 0 tp_.toNat).toNat :: stq _ _ = _; rw [rd_eq, if_pos rfl, k92_, stq_cg tp_.toNat (fun j_ hj_ => by (rw [rd_eq, if_neg (by omega)]))])); rw [q73_, st9_]) | (refine ⟨g9_, hg9_, ?_⟩; rw [gsr_n (show ¬ (S_.2.2.1 72 0, g9_).1 (S_.2.2.1 73 0 (tp_ - 1).toNat).toNat = -1 by (show ¬ S_.2.2.1 72 0 _ = -1; omega))] at hX9_; exact hX9_)
              · first | (have y8_ := a115_; intro i_ u_; rw [rd_ne (by decide), rd_ne (by decide), z73_]; exact hRk_ i_ (by omega)) | (have y7_ := m8_; intro i_ u_; rw [rd_eq, rd_eq, if_neg (show ¬ i_ = tp_.toNat by omega)]; by_cases z9_ : i_ + 1 = tp_.toNat; (rw [if_pos z9_, show i_ = (tp_ - 1).toNat by omega]; exact m8_.2.2.1); (rw [if_neg z9_]; exact hRk_ i_ (by omega))) | (intro i_ u_; exact hRk_ i_ (by omega))
              · first | (exfalso; omega) | (have y8_ := a115_; intro i_ u_; rw [rd_ne (show (73 : Nat) ≠ 72 by decide), z73_, rd_eq]; left; rw [if_neg (show ¬ (S_.2.2.1 73 0 i_).toNat = (S_.2.2.1 73 0 (tp_ - 1).toNat).toNat from fun q9_ => by (have z9_ : ∀ d_ : Nat, ∀ j_ : Nat, j_ + d_ + 1 = (tp_ - 1).toNat + 1 → j_ ≤ (tp_ - 1).toNat → j_ < (tp_ - 1).toNat → grk (S0_.2.2.1 62 0) (S_.2.2.1 73 0 j_) > grk (S0_.2.2.1 62 0) (S_.2.2.1 73 0 (tp_ - 1).toNat) := (by (intro d_; induction d_ with | zero => (intro j_ h1_ h2_ h3_; exfalso; omega) | succ d_ ih9_ => (intro j_ h1_ h2_ h3_; have y9_ := hRk_ j_ (by omega); by_cases e9_ : j_ + 1 = (tp_ - 1).toNat; (rw [e9_] at y9_; omega); (have x9_ := ih9_ (j_ + 1) (by omega) (by omega) (by omega); omega)))); have y9_ := z9_ ((tp_ - 1).toNat - i_) i_ (by omega) (by omega) (by omega); have x9_ := hT_ i_ (by omega); have w9_ := x9_.1.1; have v9_ : S_.2.2.1 73 0 i_ = S_.2.2.1 73 0 (tp_ - 1).toNat := (by omega); rw [v9_] at y9_; omega)), z72_]; have z9_ := hun_ i_ (by omega); rcases z9_ with z9_ | z9_; exact z9_; (have z8_ := hcn_.2 z9_; exfalso; omega)) | (have y7_ := m8_; intro i_ u_; rw [rd_ne (by decide), rd_eq]; left; split; (exact m8_.2.2.2.1); (have z9_ := hun_ i_ (by omega); rcases z9_ with z9_ | z9_; exact z9_; (have z8_ := hcn_.2 z9_; rw [show i_ = (tp_ - 1).toNat by omega]; omega))) | (intro i_ u_; exfalso; have z9_ := hcn_.2; omega)
              · first | (exfalso; omega) | (have y8_ := a115_; refine ⟨?_, fun u_ => by omega⟩; have U9_ : cn1 (isn ((sm_aI Sx33_ 72 0 (S_.2.2.1 73 0 (tp_ - 1).toNat).toNat vx38_).2.2.1 72 0)) 3039 + 1 = cn1 (isn (S_.2.2.1 72 0)) 3039 := (cn1_up (f := isn ((sm_aI Sx33_ 72 0 (S_.2.2.1 73 0 (tp_ - 1).toNat).toNat vx38_).2.2.1 72 0)) (g := isn (S_.2.2.1 72 0)) (j := (S_.2.2.1 73 0 (tp_ - 1).toNat).toNat) (fun q9_ => by (have w9_ := isn_1.mp q9_; rw [rd_eq, if_pos rfl] at w9_; omega)) (isn_1.mpr (by omega)) (fun k9_ hk9_ => by (unfold isn; rw [rd_eq, if_neg hk9_, z72_])) (n := 3039) (by omega)).symm; have z9_ := hcn_.1; omega) | (have y7_ := m9_; refine ⟨?_, fun u_ => by omega⟩; rw [rd_ne_ (by decide)]; have z9_ := hcn_.1; omega) | (refine ⟨Or.inr ?_, fun u_ => by omega⟩; have z9_ := hcn_.2; omega)
              · exact hCx43_
              · omega
            · have cx32_ : ¬ ((S_.1 2 cc_ 8) ≠ 150) := of_decide_eq_false cx32_
              refine sm_T_go 1 (c1 := (104, [some (.inr (.inr (some (6, 0)))), some (.inl a1_), some (.inr (.inr (some (2, cc_)))), some (.inl tp_), some (.inl gd_), some (.inl (S_.2.2.1 73 0 (tp_ - 1).toNat)), some (.inl (-1))], [.inl 0], S_)) rfl ?_
              refine sm_T_rz rfl (by omega) ⟨_, _, rfl, _, rfl, hI_, hF_, ?_⟩
              refine ⟨hC_, ?_⟩
              first
              | (exfalso; omega)
              | (refine ⟨⟨Or.inl rfl, hi9_⟩, fun u_ => absurd u_ (by decide), fun _ => ?_⟩
                 have al9_ := (m9_.resolve_right (fun q9_ => absurd (by omega) q9_.1)).2
                 have dn9_ : ∀ j_, j_ < cpn ll_ S0_ (S_.2.2.1 73 0 (tp_ - 1).toNat).toNat → (S_.2.2.1 72 0, g9_).1 (cpv (1 + S0_.1 3 dd_ 1 + S0_.1 3 dd_ 2) S0_ (S_.2.2.1 73 0 (tp_ - 1).toNat).toNat j_) ≠ -1 := fun j_ hj_ => by (unfold cpn at hj_; rw [tu9_] at hj_; have z9_ := al9_ (j_ : Int) (by omega) (by omega); show S_.2.2.1 72 0 _ ≠ -1; unfold cpv; rw [tu9_]; exact z9_)
                 rw [gsr_d (by decide) (show (S_.2.2.1 72 0, g9_).1 (S_.2.2.1 73 0 (tp_ - 1).toNat).toNat = -1 by (show S_.2.2.1 72 0 _ = -1; omega)) dn9_] at hX9_
                 have le9_ := gsr_l (gc_ := cgc ll_ S0_) b09_ GD9_ (f_ := 4000) (stq (S_.2.2.1 73 0) (tp_ - 1).toNat) (gfin (cpn ll_ S0_) (cpv (1 + S0_.1 3 dd_ 1 + S0_.1 3 dd_ 2) S0_) (cgc ll_ S0_) (S0_.1 2 cc_ 1 + S0_.1 2 cc_ 2) (S_.2.2.1 73 0 (tp_ - 1).toNat).toNat (S_.2.2.1 72 0, g9_)) (fun u_ hu_ => ?_) (fun x_ hx_ => ?_)
                 · obtain ⟨l9_, e9_⟩ := le9_.2
                   rw [← hX9_, e9_, List.length_append]
                   have q9_ : (gfin (cpn ll_ S0_) (cpv (1 + S0_.1 3 dd_ 1 + S0_.1 3 dd_ 2) S0_) (cgc ll_ S0_) (S0_.1 2 cc_ 1 + S0_.1 2 cc_ 2) (S_.2.2.1 73 0 (tp_ - 1).toNat).toNat (S_.2.2.1 72 0, g9_)).2.length = g9_.length + 1 := by (show (g9_ ++ _).length = _; rw [List.length_append]; rfl)
                   have y9_ := hg9_.1
                   omega
                 · obtain ⟨j9_, j91_, j92_⟩ := stq_m hu_
                   have z9_ := hT_ j9_ (by omega)
                   have z8_ := z9_.1.1
                   have z7_ := grk_b (S0_.2.2.1 62 0) (S_.2.2.1 73 0 j9_)
                   have z6_ : ((u_ : Nat) : Int) = S_.2.2.1 73 0 j9_ := by omega
                   exact ⟨by (unfold cgk; rw [z6_]; exact z9_.1), by (unfold crk; rw [z6_]; omega)⟩
                 · show (if x_ = (S_.2.2.1 73 0 (tp_ - 1).toNat).toNat then (S0_.1 2 cc_ 1 + S0_.1 2 cc_ 2) + ((g9_.length : Nat) : Int) else S_.2.2.1 72 0 x_) ≠ -1
                   split
                   · omega
                   · exact I9_ x_ hx_)
          · have cx30_ : ¬ ((S_.2.2.1 72 0 (S_.2.2.1 73 0 (tp_ - 1).toNat).toNat) = (-1)) := of_decide_eq_false cx30_
            refine sm_T_inc (a := 3) (z := (-1)) (v := tp_) (w := tp_ - 1) rfl rfl (by omega) (by omega) (by omega) ?_ -- pc_ 67
            refine sm_T_go 1 (c1 := (122, [some (.inr (.inr (some (6, 0)))), some (.inl a1_), some (.inr (.inr (some (2, cc_)))), some (.inl (tp_ - 1)), some (.inl gd_), some (.inl (S_.2.2.1 73 0 (tp_ - 1).toNat)), some (.inl (-1))], [], S_)) rfl ?_
            refine sm_T_inc (a := 4) (z := 1) (v := gd_) (w := gd_ + 1) rfl rfl (by omega) (by omega) (by omega) ?_ -- pc_ 122
            refine sm_T_go 1 (c1 := (12, [some (.inr (.inr (some (6, 0)))), some (.inl a1_), some (.inr (.inr (some (2, cc_)))), some (.inl (tp_ - 1)), some (.inl (gd_ + 1)), some (.inl (S_.2.2.1 73 0 (tp_ - 1).toNat)), some (.inl (-1))], [], S_)) rfl ?_
            refine sm_T_wk [some (.inr (.inr (some (6, 0)))), some (.inl a1_), some (.inr (.inr (some (2, cc_)))), some (.inl (tp_ - 1)), some (.inl (gd_ + 1)), none, none] (by exact ⟨rfl, rfl, rfl, rfl, rfl, trivial⟩) ?_
            refine ih_ (tp_ - 1) (gd_ + 1) S_ hI_ hF_ ⟨?_, ?_, ?_, ?_, ?_, ?_, ?_, ?_, trivial⟩ ?_
            · omega
            · first | (intro i_ hi_; exact hT_ i_ (by omega)) | (have m8_ := m9_.resolve_left (fun q9_ => absurd q9_.1 (by omega)); intro i_ hi_; rw [rd_eq]; split; (have m5_ := m8_.2.2.1; exact ⟨m8_.2.1, by omega⟩); (exact hT_ i_ (by omega))) | (intro i_ hi_; rw [rd_ne (by decide), z73_]; exact hT_ i_ (by omega))
            · first | exact hi9_ | (intro x_ u_ w_; rw [rd_ne (by decide)]; exact hi9_ x_ u_ w_) | (intro x_ u_ w_; rw [rd_eq]; split; (omega); (rw [z72_]; exact hi9_ x_ u_ w_))
            · first | (exfalso; omega) | (have y8_ := a115_; refine ⟨_, cgz_fr (w_ := ([], [72], [])) n115_ (ai_fr_aI rfl), ?_⟩; have al9_ := (m9_.resolve_right (fun q9_ => absurd (by omega) q9_.1)).2; have dn9_ : ∀ j_, j_ < cpn ll_ S0_ (S_.2.2.1 73 0 (tp_ - 1).toNat).toNat → (S_.2.2.1 72 0, g9_).1 (cpv (1 + S0_.1 3 dd_ 1 + S0_.1 3 dd_ 2) S0_ (S_.2.2.1 73 0 (tp_ - 1).toNat).toNat j_) ≠ -1 := fun j_ hj_ => (by (unfold cpn at hj_; rw [tu9_] at hj_; have z9_ := al9_ (j_ : Int) (by omega) (by omega); show S_.2.2.1 72 0 _ ≠ -1; unfold cpv; rw [tu9_]; exact z9_)); have hX8_ := Eq.trans (Eq.symm (gsr_d (by decide) (show (S_.2.2.1 72 0, g9_).1 (S_.2.2.1 73 0 (tp_ - 1).toNat).toNat = -1 by (show S_.2.2.1 72 0 _ = -1; omega)) dn9_)) hX9_; rw [← hX8_]; have q73_ : (S_).2.2.1 73 0 = S_.2.2.1 73 0 := (by (rw [rd_ne_ (by decide), z73_])); rw [q73_]; have q72_ : (S_).2.2.1 72 0 = fun x_ => if x_ = (S_.2.2.1 73 0 (tp_ - 1).toNat).toNat then (S0_.1 2 cc_ 1 + S0_.1 2 cc_ 2) + ((g9_.length : Nat) : Int) else S_.2.2.1 72 0 x_ := (by (funext x_; rw [rd_eq, z72_]; have y9_ := hg9_.1; split; omega; rfl)); rw [q72_]; have fg9_ : cgc ll_ S_ = cgc ll_ S0_ ∧ cpn ll_ S_ = cpn ll_ S0_ ∧ cpv (1 + S_.1 3 dd_ 1 + S_.1 3 dd_ 2) S_ = cpv (1 + S0_.1 3 dd_ 1 + S0_.1 3 dd_ 2) S0_ := ⟨by (funext u_; unfold cgc; rw [f62_, f5_]), by (funext u_; unfold cpn; rw [f62_, f55_]), by (funext u_ k_; unfold cpv; rw [f1_, f2_, f60_, f62_, f63_, f64_])⟩; rw [fg9_.1, fg9_.2.1, fg9_.2.2]; rfl) | (have y7_ := m8_; obtain ⟨k9_, k91_, k92_, k93_⟩ := m8_.2.2.2.2; refine ⟨g9_, cgz_fr (w_ := ([], [73], [])) hg9_ (ai_fr_aI rfl), ?_⟩; have pk9_ : cpv (1 + S0_.1 3 dd_ 1 + S0_.1 3 dd_ 2) S0_ (S_.2.2.1 73 0 (tp_ - 1).toNat).toNat k9_.toNat = (ptv (1 + S0_.1 3 dd_ 1 + S0_.1 3 dd_ 2) (S0_.2.2.1 60 0) (S0_.2.2.1 62 0) (S0_.2.2.1 63 0) (S0_.2.2.1 64 0) (S_.2.2.1 73 0 (tp_ - 1).toNat) k9_).toNat := (by (unfold cpv; rw [tu9_, show ((k9_.toNat : Nat) : Int) = k9_ by omega])); have hX8_ := Eq.trans (Eq.symm (gsr_p b09_ GD9_ gk9_ I9_ rk9_ (show (S_.2.2.1 72 0, g9_).1 (S_.2.2.1 73 0 (tp_ - 1).toNat).toNat = -1 by (show S_.2.2.1 72 0 _ = -1; omega)) (k_ := k9_.toNat) (by (unfold cpn; rw [tu9_]; omega)) (fun j_ hj_ => by (have z9_ := k93_ (j_ : Int) (by omega) (by omega); show S_.2.2.1 72 0 _ ≠ -1; unfold cpv; rw [tu9_]; exact z9_)))) hX9_; rw [pk9_] at hX8_; rw [← hX8_, rd_ne_ (t'_ := 72) (by decide)]; have q73_ : stq ((S_).2.2.1 73 0) (tp_ + 1).toNat = (ptv (1 + S0_.1 3 dd_ 1 + S0_.1 3 dd_ 2) (S0_.2.2.1 60 0) (S0_.2.2.1 62 0) (S0_.2.2.1 63 0) (S0_.2.2.1 64 0) (S_.2.2.1 73 0 (tp_ - 1).toNat) k9_).toNat :: stq (S_.2.2.1 73 0) tp_.toNat := (by (rw [show (tp_ + 1).toNat = tp_.toNat + 1 by omega]; show ((S_).2.2.1 73 0 tp_.toNat).toNat :: stq _ _ = _; rw [rd_eq, if_pos rfl, k92_, stq_cg tp_.toNat (fun j_ hj_ => by (rw [rd_eq, if_neg (by omega)]))])); rw [q73_, st9_]) | (refine ⟨g9_, hg9_, ?_⟩; rw [gsr_n (show ¬ (S_.2.2.1 72 0, g9_).1 (S_.2.2.1 73 0 (tp_ - 1).toNat).toNat = -1 by (show ¬ S_.2.2.1 72 0 _ = -1; omega))] at hX9_; exact hX9_)
            · first | (have y8_ := a115_; intro i_ u_; rw [rd_ne (by decide), rd_ne (by decide), z73_]; exact hRk_ i_ (by omega)) | (have y7_ := m8_; intro i_ u_; rw [rd_eq, rd_eq, if_neg (show ¬ i_ = tp_.toNat by omega)]; by_cases z9_ : i_ + 1 = tp_.toNat; (rw [if_pos z9_, show i_ = (tp_ - 1).toNat by omega]; exact m8_.2.2.1); (rw [if_neg z9_]; exact hRk_ i_ (by omega))) | (intro i_ u_; exact hRk_ i_ (by omega))
            · first | (exfalso; omega) | (have y8_ := a115_; intro i_ u_; rw [rd_ne (show (73 : Nat) ≠ 72 by decide), z73_, rd_eq]; left; rw [if_neg (show ¬ (S_.2.2.1 73 0 i_).toNat = (S_.2.2.1 73 0 (tp_ - 1).toNat).toNat from fun q9_ => by (have z9_ : ∀ d_ : Nat, ∀ j_ : Nat, j_ + d_ + 1 = (tp_ - 1).toNat + 1 → j_ ≤ (tp_ - 1).toNat → j_ < (tp_ - 1).toNat → grk (S0_.2.2.1 62 0) (S_.2.2.1 73 0 j_) > grk (S0_.2.2.1 62 0) (S_.2.2.1 73 0 (tp_ - 1).toNat) := (by (intro d_; induction d_ with | zero => (intro j_ h1_ h2_ h3_; exfalso; omega) | succ d_ ih9_ => (intro j_ h1_ h2_ h3_; have y9_ := hRk_ j_ (by omega); by_cases e9_ : j_ + 1 = (tp_ - 1).toNat; (rw [e9_] at y9_; omega); (have x9_ := ih9_ (j_ + 1) (by omega) (by omega) (by omega); omega)))); have y9_ := z9_ ((tp_ - 1).toNat - i_) i_ (by omega) (by omega) (by omega); have x9_ := hT_ i_ (by omega); have w9_ := x9_.1.1; have v9_ : S_.2.2.1 73 0 i_ = S_.2.2.1 73 0 (tp_ - 1).toNat := (by omega); rw [v9_] at y9_; omega)), z72_]; have z9_ := hun_ i_ (by omega); rcases z9_ with z9_ | z9_; exact z9_; (have z8_ := hcn_.2 z9_; exfalso; omega)) | (have y7_ := m8_; intro i_ u_; rw [rd_ne (by decide), rd_eq]; left; split; (exact m8_.2.2.2.1); (have z9_ := hun_ i_ (by omega); rcases z9_ with z9_ | z9_; exact z9_; (have z8_ := hcn_.2 z9_; rw [show i_ = (tp_ - 1).toNat by omega]; omega))) | (intro i_ u_; exfalso; have z9_ := hcn_.2; omega)
            · first | (exfalso; omega) | (have y8_ := a115_; refine ⟨?_, fun u_ => by omega⟩; have U9_ : cn1 (isn (S_.2.2.1 72 0)) 3039 + 1 = cn1 (isn (S_.2.2.1 72 0)) 3039 := (cn1_up (f := isn (S_.2.2.1 72 0)) (g := isn (S_.2.2.1 72 0)) (j := (S_.2.2.1 73 0 (tp_ - 1).toNat).toNat) (fun q9_ => by (have w9_ := isn_1.mp q9_; rw [rd_eq, if_pos rfl] at w9_; omega)) (isn_1.mpr (by omega)) (fun k9_ hk9_ => by (unfold isn; rw [rd_eq, if_neg hk9_, z72_])) (n := 3039) (by omega)).symm; have z9_ := hcn_.1; omega) | (have y7_ := m9_; refine ⟨?_, fun u_ => by omega⟩; rw [rd_ne_ (by decide)]; have z9_ := hcn_.1; omega) | (refine ⟨Or.inr ?_, fun u_ => by omega⟩; have z9_ := hcn_.2; omega)
            · exact hC_
            · omega
set_option maxHeartbeats 3000000 in
theorem vc_110n {sc_ : Nat × (Nat → Int)} (a1_ : Int) (dd_ : Nat) (ll_ : Nat) (cc_ : Nat) (gs_ : List (Int × List Int)) (S0_ : sm_S) (hI_ : gi S0_) (hgl_ : cgz cc_ S0_ gs_) (hd_ : S0_.2.1 6 0 0 = some dd_) (hc_ : S0_.2.1 6 0 1 = some ll_) (hw_ : wal (1 + S0_.1 3 dd_ 1 + S0_.1 3 dd_ 2) (S0_.1 3 dd_ 4) ll_ S0_) (hgt_ : gtk (1 + S0_.1 3 dd_ 1 + S0_.1 3 dd_ 2) (S0_.1 3 dd_ 4) (S0_.1 5 ll_ 2) (S0_.2.2.1 59 0) (S0_.2.2.1 62 0) a1_) (hs2_ : S0_.1 2 cc_ 1 + S0_.1 2 cc_ 2 ≤ 12) (hin_ : ∀ x_ : Int, 1 ≤ x_ → x_ < (1 + S0_.1 3 dd_ 1 + S0_.1 3 dd_ 2) → S0_.2.2.1 72 0 (3 * x_).toNat ≠ -1) : sm_T (mt_P sc_) 4 110 (0, [some (.inr (.inr (some (6, 0)))), some (.inl a1_), some (.inr (.inr (some (2, cc_)))), none, none, none, none], [], S0_) (fun ro9_ => ∃ u_ S1_, ro9_ = (.inl u_, S1_, 0) ∧ vq_110n a1_ dd_ ll_ cc_ gs_ S0_ u_ S1_) := by
  have hF_ : ai_fr (sx_W vw_110n) S0_ S0_ := ai_fr_rf
  have hC_ : cdf cc_ S0_ S0_ := cdf_rf
  have cI_ : 0 ≤ S0_.1 3 dd_ 1 ∧ S0_.1 3 dd_ 1 ≤ 320 := hI_.1 3 dd_ 1 rfl
  have cR_ : 0 ≤ S0_.1 3 dd_ 2 ∧ S0_.1 3 dd_ 2 ≤ 100000 := hI_.1 3 dd_ 2 rfl
  have cN_ : 0 ≤ S0_.1 3 dd_ 4 ∧ S0_.1 3 dd_ 4 ≤ 1013 := hI_.1 3 dd_ 4 rfl
  have hf_ : 1 ≤ (1 + S0_.1 3 dd_ 1 + S0_.1 3 dd_ 2) := by omega
  have t1_ := hgt_.1
  have t2_ := hgt_.2.1
  have rk0_ := grk_b (S0_.2.2.1 62 0) a1_
  refine sm_T_go 4 (c1 := (6, [some (.inr (.inr (some (6, 0)))), some (.inl a1_), some (.inr (.inr (some (2, cc_)))), none, none, none, none], [.inl a1_, .inl 0, .inr (.inr (some (73, 0)))], S0_)) rfl ?_
  refine sm_T_iast (n := 3039) rfl rfl (by omega) (by omega) ?_
  have hIx1_ : gi (sm_aI S0_ 73 0 (0 : Int).toNat a1_) := gi_aI hI_ (show 0 ≤ a1_ ∧ a1_ ≤ 3039 from ⟨by omega, by omega⟩)
  have hFx2_ : ai_fr (sx_W vw_110n) S0_ (sm_aI S0_ 73 0 (0 : Int).toNat a1_) := ai_fr_tr hF_ (ai_fr_aI rfl)
  have hCx3_ : cdf cc_ S0_ (sm_aI S0_ 73 0 (0 : Int).toNat a1_) := cdf_aI hC_ (Or.inl rfl)
  refine sm_T_go 4 (c1 := (12, [some (.inr (.inr (some (6, 0)))), some (.inl a1_), some (.inr (.inr (some (2, cc_)))), some (.inl 1), some (.inl 0), none, none], [], sm_aI S0_ 73 0 (0 : Int).toNat a1_)) rfl ?_
  refine (vl_110n a1_ dd_ ll_ cc_ gs_ S0_ hgl_ hd_ hc_ hw_ hgt_ hs2_ hin_ _) 1 0 (sm_aI S0_ 73 0 (0 : Int).toNat a1_) hIx1_ hFx2_ ⟨?_, ?_, ?_, ?_, ?_, ?_, ?_, ?_, trivial⟩ (Nat.lt_succ_self _)
  · omega
  · intro i_ hi_
    have ei_ : i_ = 0 := by omega
    rw [rd_eq, if_pos (by omega)]
    exact ⟨hgt_, by omega⟩
  · (intro x_ u_ w_; rw [rd_ne (by decide)]; exact hin_ x_ u_ w_)
  · refine ⟨gs_, cgz_fr (w_ := ([], [73], [])) hgl_ (ai_fr_aI rfl), ?_⟩
    rw [rd_ne_ (t'_ := 72) (by decide)]
    show gsr _ _ _ _ _ [_] _ = _
    rw [rd_eq, if_pos (by decide)]
    rfl
  · (intro i_ u_; exfalso; omega)
  · (intro i_ u_; exact Or.inr rfl)
  · (have z9_ := cn1_le (isn ((sm_aI S0_ 73 0 (0 : Int).toNat a1_).2.2.1 72 0)) 3039; omega)
  · exact hCx3_
end
