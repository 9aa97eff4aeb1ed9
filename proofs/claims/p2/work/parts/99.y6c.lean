/-! M_.settle -/
def vw_315 : sx_Wl := ([(13, 10), (13, 11), (13, 32), (13, 34)], [138, 139], [])
def vq_315 (ls_ : Int) (b_ : Nat → Int) (n_ : Nat) (T_ : Nat) (mo_ : Int) (p_ : Nat) (y_ : pE pO) (S0_ : sm_S) (u_ : Option sm_V) (S1_ : sm_S) : Prop := u_ = none ∧ gi S1_ ∧ ai_fr (sx_W vw_315) S0_ S1_ ∧ (ry b_ n_ T_ mo_ p_ (pb y_ (p_se2 mo_ ls_)) S1_ ∧ (S1_.1 13 0 32) ≤ (S0_.1 13 0 32))
set_option maxHeartbeats 400000 in
theorem vl_315 {sc_ : Nat × (Nat → Int)} (ls_ : Int) (b_ : Nat → Int) (n_ : Nat) (T_ : Nat) (mo_ : Int) (p_ : Nat) (y_ : pE pO) (S0_ : sm_S) (ht_ : rtab b_ n_ T_ S0_) (hy_ : ry b_ n_ T_ mo_ p_ y_ S0_) (hls_ : 1 ≤ ls_) (hmo_ : mo_ = 0 ∨ mo_ = 2) : ∀ nn_ : Nat, (∀  (S_ : sm_S), gi S_ → ai_fr (sx_W vw_315) S0_ S_ → (((∃ y1_, ry b_ n_ T_ mo_ p_ y1_ S_ ∧ pb y_ (p_se2 mo_ ls_) = pb y1_ (p_se2 mo_ ls_)) ∧ (S_.1 13 0 32) ≤ (S0_.1 13 0 32)) ∧ True) → (((S_.1 13 0 32)).toNat) < nn_ → sm_T (mt_P sc_) 2 315 (0, [some (.inr (.inr (some (13, 0)))), some (.inl ls_)], [], S_) (fun r_ => ∃ u_ S1_, r_ = (.inl u_, S1_, 0) ∧ vq_315 ls_ b_ n_ T_ mo_ p_ y_ S0_ u_ S1_)) := by
  intro nn_
  induction nn_ with
  | zero => exact fun  _ _ _ _ h_ => absurd h_ (Nat.not_lt_zero _)
  | succ nn_ ih_ =>
    rintro  S_ hI_ hF_ ⟨h1_, -⟩ hm_
    obtain ⟨⟨y1_, z1_, z2_⟩, z9_⟩ := h1_
    have ht1_ := rtab_fr ht_ hF_ rfl rfl rfl rfl rfl
    refine sm_T_go 1 (c1 := (1, [some (.inr (.inr (some (13, 0)))), some (.inl ls_)], [.inr (.inr (some (13, 0)))], S_)) rfl ?_
    refine sm_T_cal (d1 := 0) (Q1 := vq_292  S_) rfl rfl (by decide) (vc_292  S_ hI_ ) (fun u_ Sx1_ px4_ => ?_)
    obtain ⟨rfl, vx6_, rfl, px4_⟩ := px4_
    have e1x := px4_
    refine sm_T_b0 (a := 0) (z := 31) rfl (fun cx7_ => ?_) (fun cx7_ => ?_)
    · have cx7_ : vx6_ = 0 := of_decide_eq_true cx7_
      refine sm_T_rv rfl ⟨_, _, rfl, rfl, hI_, hF_, ?_⟩
      refine ⟨?_, z9_⟩
      rw [z2_]
      first | (exfalso; have h9_ := e11_.trans e22_.symm; omega) | (rw [pb_r rfl, show p_se2 mo_ ls_ s_ = .inr s_ from p_se_st (lt_if e11_ (by omega) hls_)]; exact z1_) | (obtain ⟨e_, rfl⟩ := ry_w z1_ (fun z_ => by rw [if_pos z_] at e1x; omega); exact z1_)
    · have cx7_ : ¬ (vx6_ = 0) := of_decide_eq_false cx7_
      have hf0_ : S_.1 13 0 10 = 0 := by by_cases z_ : S_.1 13 0 10 = 0; exact z_; (rw [if_neg z_] at e1x; omega)
      obtain ⟨s_, rfl⟩ := ry_r z1_ hf0_
      obtain ⟨⟨hg_, ⟨w0_, hw_, hwl_⟩, hop_, hv_, hmo1_⟩, hs_⟩ := id z1_
      have hwl_ : wl b_ n_ T_ s_.1 w0_ := by rcases hwl_ with z_ | z_; (exact absurd z_.1 (by decide)); (exact z_.2)
      have wtp_ := (wl_tp hwl_ hs_.1).2.1
      have hwx_ := hw_.1
      have tp5_ := o_tp5 hs_.1
      refine sm_T_go 1 (c1 := (8, [some (.inr (.inr (some (13, 0)))), some (.inl ls_)], [.inr (.inr (some (13, 0)))], S_)) rfl ?_
      refine sm_T_cal (d1 := 0) (Q1 := vq_312 w0_ S_) rfl rfl (by decide) (vc_312 w0_ S_ hI_ (by exact hw_)) (fun u_ Sx8_ px11_ => ?_)
      obtain ⟨rfl, vx13_, rfl, px11_⟩ := px11_
      have e8_ := px11_
      refine sm_T_cal (d1 := 0) (Q1 := vq_309 vx13_ S_) rfl rfl (by decide) (vc_309 vx13_ S_ hI_ ) (fun u_ Sx14_ px17_ => ?_)
      obtain ⟨rfl, vx19_, rfl, px17_⟩ := px17_
      have e11_ := px17_
      rw [e8_, wtp_] at e11_
      refine sm_T_go 1 (c1 := (15, [some (.inr (.inr (some (13, 0)))), some (.inl ls_)], [.inl ls_, .inl vx19_], S_)) rfl ?_
      refine sm_T_br (a := 2) (z := 20) rfl (fun cx20_ => ?_) (fun cx20_ => ?_)
      · have cx20_ : vx19_ < ls_ := of_decide_eq_true cx20_
        refine sm_T_rv rfl ⟨_, _, rfl, rfl, hI_, hF_, ?_⟩
        refine ⟨?_, z9_⟩
        rw [z2_]
        first | (exfalso; have h9_ := e11_.trans e22_.symm; omega) | (rw [pb_r rfl, show p_se2 mo_ ls_ s_ = .inr s_ from p_se_st (lt_if e11_ (by omega) hls_)]; exact z1_) | (obtain ⟨e_, rfl⟩ := ry_w z1_ (fun z_ => by rw [if_pos z_] at e1x; omega); exact z1_)
      · have cx20_ : ¬ (vx19_ < ls_) := of_decide_eq_false cx20_
        refine sm_T_go 1 (c1 := (19, [some (.inr (.inr (some (13, 0)))), some (.inl ls_)], [.inr (.inr (some (13, 0)))], S_)) rfl ?_
        refine sm_T_cal (d1 := 0) (Q1 := vq_312 w0_ S_) rfl rfl (by decide) (vc_312 w0_ S_ hI_ (by exact hw_)) (fun u_ Sx21_ px24_ => ?_)
        obtain ⟨rfl, vx26_, rfl, px24_⟩ := px24_
        have e19_ := px24_
        refine sm_T_cal (d1 := 0) (Q1 := vq_309 vx26_ S_) rfl rfl (by decide) (vc_309 vx26_ S_ hI_ ) (fun u_ Sx27_ px30_ => ?_)
        obtain ⟨rfl, vx32_, rfl, px30_⟩ := px30_
        have e22_ := px30_
        rw [e19_, wtp_] at e22_
        refine sm_T_b0 (a := 5) (z := 10) rfl (fun cx33_ => ?_) (fun cx33_ => ?_)
        · have cx33_ : vx32_ ≤ 0 := of_decide_eq_true cx33_
          refine sm_T_rv rfl ⟨_, _, rfl, rfl, hI_, hF_, ?_⟩
          refine ⟨?_, z9_⟩
          rw [z2_]
          first | (exfalso; have h9_ := e11_.trans e22_.symm; omega) | (rw [pb_r rfl, show p_se2 mo_ ls_ s_ = .inr s_ from p_se_st (lt_if e11_ (by omega) hls_)]; exact z1_) | (obtain ⟨e_, rfl⟩ := ry_w z1_ (fun z_ => by rw [if_pos z_] at e1x; omega); exact z1_)
        · have cx33_ : ¬ (vx32_ ≤ 0) := of_decide_eq_false cx33_
          have otp_ : 1 ≤ o_tp s_.1 ∧ ls_ ≤ o_tp s_.1 := by by_cases z_ : 1 ≤ o_tp s_.1; (rw [if_pos z_] at e11_ e22_; omega); (rw [if_neg z_] at e11_ e22_; omega)
          clear e11_ e22_
          obtain ⟨so_, sg_, sc_⟩ := s_
          obtain ⟨k1_, q1_, o2_, ho2_, hk2_⟩ := o_tp_c (o_ := so_) (by have := otp_.1; show o_tp so_ ≠ 0; intro z_; have z2_ : 1 ≤ o_tp so_ := this; omega)
          subst ho2_
          have hk3_ : ls_ ≤ k1_ := otp_.2
          obtain ⟨b1_, a1_, g2_, hg2_⟩ := s_ok_2 (show 1 ≤ k1_ by omega) hs_
          subst hg2_
          have wlen : 1 ≤ S_.1 13 0 32 := by have := (wl_len hwl_).2; simp only [List.length_cons] at this; omega
          refine sm_T_go 1 (c1 := (29, [some (.inr (.inr (some (13, 0)))), some (.inl ls_)], [.inr (.inr (some (13, 0)))], S_)) rfl ?_
          refine sm_T_cal (d1 := 1) (Q1 := vq_313 b_ n_ T_ mo_ p_ k1_ q1_ o2_ a1_ b1_ g2_ sc_ S_) rfl rfl (by decide) (vc_313 b_ n_ T_ mo_ p_ k1_ q1_ o2_ a1_ b1_ g2_ sc_ S_ hI_ (by exact ht1_) (by exact z1_) (by omega) (by exact hmo_)) (fun u_ Sx34_ px37_ => ?_)
          obtain ⟨rfl, hIx35_, hFx36_, px37_⟩ := px37_
          have hFx38_ : ai_fr (sx_W vw_315) S0_ Sx34_ := ai_fr_tr hF_ (fr_le hFx36_ rfl)
          have e29_ := px37_
          refine sm_T_go 1 (c1 := (0, [some (.inr (.inr (some (13, 0)))), some (.inl ls_)], [], Sx34_)) rfl ?_
          refine ih_  Sx34_ hIx35_ hFx38_ ⟨?_, trivial⟩ ?_
          · have := e29_.2
            exact ⟨⟨_, e29_.1, by rw [z2_, pb_r rfl, se2_ap hk3_]⟩, by omega⟩
          · (have := e29_.2); omega
set_option maxHeartbeats 400000 in
theorem vc_315 {sc_ : Nat × (Nat → Int)} (ls_ : Int) (b_ : Nat → Int) (n_ : Nat) (T_ : Nat) (mo_ : Int) (p_ : Nat) (y_ : pE pO) (S0_ : sm_S) (hI_ : gi S0_) (ht_ : rtab b_ n_ T_ S0_) (hy_ : ry b_ n_ T_ mo_ p_ y_ S0_) (hls_ : 1 ≤ ls_) (hmo_ : mo_ = 0 ∨ mo_ = 2) : sm_T (mt_P sc_) 2 315 (0, [some (.inr (.inr (some (13, 0)))), some (.inl ls_)], [], S0_) (fun r_ => ∃ u_ S1_, r_ = (.inl u_, S1_, 0) ∧ vq_315 ls_ b_ n_ T_ mo_ p_ y_ S0_ u_ S1_) := by
  have hF_ : ai_fr (sx_W vw_315) S0_ S0_ := ai_fr_rf
  refine (vl_315 ls_ b_ n_ T_ mo_ p_ y_ S0_ ht_ hy_ hls_ hmo_ _)  S0_ hI_ hF_ ⟨?_, trivial⟩ (Nat.lt_succ_self _)
  · exact ⟨⟨y_, hy_, rfl⟩, Int.le_refl _⟩
