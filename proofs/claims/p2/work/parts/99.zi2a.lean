/-! the reference: the sweep; written by wip/p55/gen/vg -/

/-! the_ reference's sweep -/
/-- how_ far_ two_ rows are_ the_ same -/
def alk (R_ : Nat → Int) (a_ b_ : Nat) (t_ f_ w_ : Int) : Prop := (f_ = 0 ∨ f_ = 1) ∧ imq (f_ = 1) (∀ j_, j_ < w_.toNat → R_ (64 * a_ + j_) = l_5 (R_ (64 * b_ + j_)) t_) ∧ imq (f_ = 0) (∃ j_, j_ < 64 ∧ R_ (64 * a_ + j_) ≠ l_5 (R_ (64 * b_ + j_)) t_)
theorem alk_0 {R_ : Nat → Int} {a_ b_ : Nat} {t_ : Int} : alk R_ a_ b_ t_ 1 0 := ⟨Or.inr rfl, fun _ j_ hj_ => absurd hj_ (Nat.not_lt_zero _), fun h_ => absurd h_ (by decide)⟩
theorem alk_y {R_ : Nat → Int} {a_ b_ : Nat} {t_ w_ : Int} (h_ : alk R_ a_ b_ t_ 1 w_) (hw_ : 0 ≤ w_) (e_ : R_ (64 * a_ + w_.toNat) = l_5 (R_ (64 * b_ + w_.toNat)) t_) : alk R_ a_ b_ t_ 1 (w_ + 1) := by
  refine ⟨Or.inr rfl, fun _ j_ hj_ => ?_, fun h_ => absurd h_ (by decide)⟩
  by_cases z_ : j_ < w_.toNat
  · exact h_.2.1 rfl j_ z_
  · rw [show j_ = w_.toNat by omega]; exact e_
theorem alk_n {R_ : Nat → Int} {a_ b_ : Nat} {t_ w_ w'_ : Int} (hw_ : 0 ≤ w_ ∧ w_ < 64) (e_ : R_ (64 * a_ + w_.toNat) ≠ l_5 (R_ (64 * b_ + w_.toNat)) t_) : alk R_ a_ b_ t_ 0 w'_ := ⟨Or.inl rfl, fun h_ => absurd h_ (by decide), fun _ => ⟨w_.toNat, by omega, e_⟩⟩
theorem alk_z {R_ : Nat → Int} {a_ b_ : Nat} {t_ w_ w'_ : Int} (h_ : alk R_ a_ b_ t_ 0 w_) : alk R_ a_ b_ t_ 0 w'_ := ⟨Or.inl rfl, fun h_ => absurd h_ (by decide), h_.2.2⟩
theorem alk_l {R_ : Nat → Int} {a_ b_ : Nat} {t_ w_ : Int} (h_ : alk R_ a_ b_ t_ 1 w_) (hw_ : 64 ≤ w_) : lik 64 R_ a_ b_ t_ := fun j_ hj_ => h_.2.1 rfl j_ (by omega)
theorem alk_x {R_ : Nat → Int} {a_ b_ : Nat} {t_ w_ : Int} (h_ : alk R_ a_ b_ t_ 0 w_) : ¬ lik 64 R_ a_ b_ t_ := fun q_ => by
  obtain ⟨j_, h1_, h2_⟩ := h_.2.2 rfl
  exact h2_ (q_ j_ h1_)
theorem lik_sy {W_ a_ b_ : Nat} {t_ : Int} {R_ : Nat → Int} (hb_ : ∀ w_, w_ < W_ → lcn (R_ (64 * b_ + w_))) (h_ : lik W_ R_ a_ b_ t_) : lik W_ R_ b_ a_ t_ := fun w_ hw_ => by
  rw [h_ w_ hw_, l5_5 (hb_ w_ hw_)]
theorem sw1_sf {F_ W_ n_ N_ : Nat} {mk_ : Int} {lo_ hi_ sf_ sg_ R_ : Nat → Int} (hg_ : glo F_ N_ lo_ hi_) (hN_ : n_ ≤ N_) (h_ : sw1 F_ W_ n_ mk_ lo_ hi_ sf_ R_) (e_ : ∀ k_, k_ < n_ → sg_ k_ = sf_ k_) : sw1 F_ W_ n_ mk_ lo_ hi_ sg_ R_ := fun m_ hm_ => by
  obtain ⟨q1_, q2_, t_, q3_, q4_⟩ := h_ m_ hm_
  refine ⟨sfo_cg (fun a_ => hg_ m_ a_ (by omega)) hm_ q1_ e_, q2_, t_, q3_, ?_⟩
  rw [e_ m_ hm_]
  exact q4_
theorem sPn_sf {sf_ sg_ : Nat → Int} {n_ m_ : Nat} (e_ : ∀ k_, k_ < n_ → sg_ k_ = sf_ k_) : sPn sg_ n_ m_ ↔ sPn sf_ n_ m_ := by
  unfold sPn
  constructor
  · rintro ⟨h1_, h2_⟩; exact ⟨h1_, by rw [← e_ m_ h1_]; exact h2_⟩
  · rintro ⟨h1_, h2_⟩; exact ⟨h1_, by rw [e_ m_ h1_]; exact h2_⟩
/-- the_ search for_ a_ row_ that is_ like the_ row_ of_ n_: how_ far_ it_ is_, what it_ found -/
def rfn (n_ m_ : Nat) (sf_ R_ : Nat → Int) (f_ : Int) : Prop := (f_ = 0 ∧ sf_ n_ = 2 * (n_ : Int) ∧ ∀ p_, p_ < m_ → sPn sf_ n_ p_ → ∀ t_, tmk (-1) t_ → ¬ lik 64 R_ n_ p_ t_) ∨ (f_ = 1 ∧ ∃ p_ t_, sPn sf_ n_ p_ ∧ tmk (-1) t_ ∧ lik 64 R_ n_ p_ t_ ∧ sf_ n_ = 2 * (p_ : Int) + (if t_ = 0 then 0 else 1))
theorem rfn_b {n_ m_ : Nat} {sf_ R_ : Nat → Int} {f_ : Int} (h_ : rfn n_ m_ sf_ R_ f_) : 0 ≤ sf_ n_ ∧ sf_ n_ ≤ 2 * (n_ : Int) + 1 := by
  rcases h_ with ⟨-, h_, -⟩ | ⟨-, p_, t_, h1_, -, -, h4_⟩
  · omega
  · have := h1_.1
    rw [h4_]
    split <;> omega
theorem sw_rf {F_ n_ N_ : Nat} {lo_ hi_ sf_ R_ : Nat → Int} (hg_ : glo F_ N_ lo_ hi_) (hF_ : 1 ≤ F_) (hN_ : n_ < N_) (h_ : sw1 F_ 64 n_ (-1) lo_ hi_ sf_ R_) (hz_ : 0 < n_ → sf_ 0 = 0) (hr_ : ∀ m_, m_ ≤ n_ → srw F_ m_ 64 (-1) lo_ hi_ R_) {f_ : Int} (hf_ : rfn n_ n_ sf_ R_ f_) : sw1 F_ 64 (n_ + 1) (-1) lo_ hi_ sf_ R_ := by
  have rk_ : rok 64 (-1) R_ n_ := fun w_ hw_ => (hr_ n_ (Nat.le_refl _) w_ hw_).1
  rcases hf_ with ⟨-, h1_, h2_⟩ | ⟨-, p_, t_, h1_, h2_, h3_, h4_⟩
  · exact sw_nw (N_ := N_) hg_ hF_ hN_ (by decide) lcn_c.2.1 h_ (fun z_ w_ hw_ => by
      have q_ := (hr_ 0 (by omega) w_ hw_).2.2 rfl
      rw [Nat.mul_zero, Nat.zero_add] at q_
      exact q_) rk_ (fun a_ w_ hw_ => (hr_ n_ (Nat.le_refl _) w_ hw_).2.1 a_) (fun p_ hp_ => h2_ p_ hp_.1 hp_) (fun k_ => by
      by_cases z_ : k_ = n_
      · rw [if_pos z_, z_]; exact h1_
      · rw [if_neg z_]) hz_
  · exact sw_fd (N_ := N_) hg_ hN_ h_ rk_ h1_ h2_ h3_ h4_ (fun k_ => by
      by_cases z_ : k_ = n_
      · rw [if_pos z_, z_]
      · rw [if_neg z_])
/-! M_.alike -/
def vw_353 : sx_Wl := ([], [], [])
def vq_353 (a_ : Int) (b_ : Int) (aa_ : Nat) (bb_ : Nat) (S0_ : sm_S) (u_ : Option sm_V) (S1_ : sm_S) : Prop := S0_ = S1_ ∧ ∃ v_ : Int, u_ = some (.inl v_) ∧ ((v_ = 0 ∧ lik 64 (S0_.2.2.2 171 0) aa_ bb_ 0) ∨ (v_ = 1 ∧ lik 64 (S0_.2.2.2 171 0) aa_ bb_ (-1)) ∨ (v_ = 2 ∧ ¬ lik 64 (S0_.2.2.2 171 0) aa_ bb_ 0 ∧ ¬ lik 64 (S0_.2.2.2 171 0) aa_ bb_ (-1)))
set_option maxHeartbeats 3000000 in
theorem vl_353 {sc_ : Nat × (Nat → Int)} (a_ : Int) (b_ : Int) (aa_ : Nat) (bb_ : Nat) (S0_ : sm_S) (ha_ : a_ = (aa_ : Int) ∧ aa_ ≤ 1012) (hb_ : b_ = (bb_ : Int) ∧ bb_ ≤ 1012) (hrb_ : rok 64 (-1) (S0_.2.2.2 171 0) bb_) : ∀ nn_ : Nat, (∀ (sa_ : Int) (tu_ : Int) (w_ : Int) (S_ : sm_S), gi S_ → ai_fr (sx_W vw_353) S0_ S_ → ((0 ≤ w_ ∧ w_ ≤ 64) ∧ (alk (S0_.2.2.2 171 0) aa_ bb_ 0 sa_ w_) ∧ (alk (S0_.2.2.2 171 0) aa_ bb_ (-1) tu_ w_) ∧ (S_ = S0_) ∧ True) → ((65 - w_).toNat) < nn_ → sm_T (mt_P sc_) 0 353 (8, [some (.inr (.inr (some (13, 0)))), some (.inl a_), some (.inl b_), some (.inl sa_), some (.inl tu_), some (.inl w_)], [], S_) (fun ro9_ => ∃ u_ S1_, ro9_ = (.inl u_, S1_, 0) ∧ vq_353 a_ b_ aa_ bb_ S0_ u_ S1_)) := by
  intro nn_
  induction nn_ with
  | zero => exact fun _ _ _ _ _ _ _ h_ => absurd h_ (Nat.not_lt_zero _)
  | succ nn_ ih_ =>
    rintro sa_ tu_ w_ S_ hI_ hF_ ⟨h0_, h1_, h2_, hS_, -⟩ hm_
    have s01_ := h1_.1
    have t01_ := h2_.1
    refine sm_T_go 2 (c1 := (12, [some (.inr (.inr (some (13, 0)))), some (.inl a_), some (.inl b_), some (.inl sa_), some (.inl tu_), some (.inl w_)], [.inl 64, .inl w_], S_)) rfl ?_
    refine sm_T_br (a := 3) (z := 100) rfl (fun cx1_ => ?_) (fun cx1_ => ?_)
    · have cx1_ : 64 ≤ w_ := of_decide_eq_true cx1_
      refine sm_T_go 1 (c1 := (113, [some (.inr (.inr (some (13, 0)))), some (.inl a_), some (.inl b_), some (.inl sa_), some (.inl tu_), some (.inl w_)], [.inl sa_], S_)) rfl ?_
      refine sm_T_b0 (a := 0) (z := 7) rfl (fun cx2_ => ?_) (fun cx2_ => ?_)
      · have cx2_ : sa_ = 0 := of_decide_eq_true cx2_
        refine sm_T_go 1 (c1 := (122, [some (.inr (.inr (some (13, 0)))), some (.inl a_), some (.inl b_), some (.inl sa_), some (.inl tu_), some (.inl w_)], [.inl tu_], S_)) rfl ?_
        refine sm_T_b0 (a := 0) (z := 7) rfl (fun cx3_ => ?_) (fun cx3_ => ?_)
        · have cx3_ : tu_ = 0 := of_decide_eq_true cx3_
          refine sm_T_go 1 (c1 := (130, [some (.inr (.inr (some (13, 0)))), some (.inl a_), some (.inl b_), some (.inl sa_), some (.inl tu_), some (.inl w_)], [.inl 2], S_)) rfl ?_
          refine sm_T_ri rfl ⟨_, _, rfl, (by first | rfl | exact hS_.symm), _, rfl, ?_⟩
          first | (have s1_ : sa_ = 1 := (by omega); rw [s1_] at h1_; exact Or.inl ⟨rfl, alk_l h1_ (by omega)⟩) | (have t1_ : tu_ = 1 := (by omega); rw [t1_] at h2_; exact Or.inr (Or.inl ⟨rfl, alk_l h2_ (by omega)⟩)) | (have s0_ : sa_ = 0 := (by omega); have t0_ : tu_ = 0 := (by omega); rw [s0_] at h1_; rw [t0_] at h2_; exact Or.inr (Or.inr ⟨rfl, alk_x h1_, alk_x h2_⟩))
        · have cx3_ : ¬ (tu_ = 0) := of_decide_eq_false cx3_
          refine sm_T_go 2 (c1 := (130, [some (.inr (.inr (some (13, 0)))), some (.inl a_), some (.inl b_), some (.inl sa_), some (.inl tu_), some (.inl w_)], [.inl 1], S_)) rfl ?_
          refine sm_T_ri rfl ⟨_, _, rfl, (by first | rfl | exact hS_.symm), _, rfl, ?_⟩
          first | (have s1_ : sa_ = 1 := (by omega); rw [s1_] at h1_; exact Or.inl ⟨rfl, alk_l h1_ (by omega)⟩) | (have t1_ : tu_ = 1 := (by omega); rw [t1_] at h2_; exact Or.inr (Or.inl ⟨rfl, alk_l h2_ (by omega)⟩)) | (have s0_ : sa_ = 0 := (by omega); have t0_ : tu_ = 0 := (by omega); rw [s0_] at h1_; rw [t0_] at h2_; exact Or.inr (Or.inr ⟨rfl, alk_x h1_, alk_x h2_⟩))
      · have cx2_ : ¬ (sa_ = 0) := of_decide_eq_false cx2_
        refine sm_T_go 2 (c1 := (130, [some (.inr (.inr (some (13, 0)))), some (.inl a_), some (.inl b_), some (.inl sa_), some (.inl tu_), some (.inl w_)], [.inl 0], S_)) rfl ?_
        refine sm_T_ri rfl ⟨_, _, rfl, (by first | rfl | exact hS_.symm), _, rfl, ?_⟩
        first | (have s1_ : sa_ = 1 := (by omega); rw [s1_] at h1_; exact Or.inl ⟨rfl, alk_l h1_ (by omega)⟩) | (have t1_ : tu_ = 1 := (by omega); rw [t1_] at h2_; exact Or.inr (Or.inl ⟨rfl, alk_l h2_ (by omega)⟩)) | (have s0_ : sa_ = 0 := (by omega); have t0_ : tu_ = 0 := (by omega); rw [s0_] at h1_; rw [t0_] at h2_; exact Or.inr (Or.inr ⟨rfl, alk_x h1_, alk_x h2_⟩))
    · have cx1_ : ¬ (64 ≤ w_) := of_decide_eq_false cx1_
      refine sm_T_go 1 (c1 := (16, [some (.inr (.inr (some (13, 0)))), some (.inl a_), some (.inl b_), some (.inl sa_), some (.inl tu_), some (.inl w_)], [.inl sa_], S_)) rfl ?_
      refine sm_T_b0 (a := 1) (z := 8) rfl (fun cx4_ => ?_) (fun cx4_ => ?_)
      · have cx4_ : sa_ ≠ 0 := of_decide_eq_true cx4_
        refine sm_T_go 1 (c1 := (25, [some (.inr (.inr (some (13, 0)))), some (.inl a_), some (.inl b_), some (.inl sa_), some (.inl tu_), some (.inl w_)], [.inl sa_], S_)) rfl ?_
        refine sm_T_b0 (a := 0) (z := 35) rfl (fun cx5_ => ?_) (fun cx5_ => ?_)
        · have cx5_ : sa_ = 0 := of_decide_eq_true cx5_
          refine sm_T_go 3 (c1 := (64, [some (.inr (.inr (some (13, 0)))), some (.inl a_), some (.inl b_), some (.inl 0), some (.inl tu_), some (.inl w_)], [.inl tu_], S_)) rfl ?_
          refine sm_T_b0 (a := 0) (z := 39) rfl (fun cx6_ => ?_) (fun cx6_ => ?_)
          · have cx6_ : tu_ = 0 := of_decide_eq_true cx6_
            refine sm_T_go 2 (c1 := (106, [some (.inr (.inr (some (13, 0)))), some (.inl a_), some (.inl b_), some (.inl 0), some (.inl 0), some (.inl w_)], [], S_)) rfl ?_
            refine sm_T_inc (a := 5) (z := 1) (v := w_) (w := w_ + 1) rfl rfl (by omega) (by omega) (by omega) ?_
            refine sm_T_go 1 (c1 := (8, [some (.inr (.inr (some (13, 0)))), some (.inl a_), some (.inl b_), some (.inl 0), some (.inl 0), some (.inl (w_ + 1))], [], S_)) rfl ?_
            refine ih_ 0 0 (w_ + 1) S_ hI_ hF_ ⟨?_, ?_, ?_, ?_, trivial⟩ ?_
            · omega
            · have i1_ : (64 * a_ + w_).toNat = 64 * aa_ + w_.toNat := by omega
              have i2_ : (64 * b_ + w_).toNat = 64 * bb_ + w_.toNat := by omega
              have cb_ := rok_c hrb_ w_.toNat (by omega)
              by_cases E9_ : S0_.2.2.2 171 0 (64 * aa_ + w_.toNat) = S0_.2.2.2 171 0 (64 * bb_ + w_.toNat)
              · have E8_ : sm_lcmp (S_.2.2.2 171 0 (64 * a_ + w_).toNat) (S_.2.2.2 171 0 (64 * b_ + w_).toNat) = 0 := by rw [hS_, i1_, i2_]; exact lc_0.mpr E9_
                first | (have s1_ : sa_ = 1 := (by omega); rw [s1_] at h1_; exact alk_y h1_ (by omega) (by rw [l5_0 cb_]; exact E9_)) | (have s0_ : sa_ = 0 := (by omega); rw [s0_] at h1_; exact alk_z h1_) | (exfalso; omega)
              · have E8_ : sm_lcmp (S_.2.2.2 171 0 (64 * a_ + w_).toNat) (S_.2.2.2 171 0 (64 * b_ + w_).toNat) ≠ 0 := by rw [hS_, i1_, i2_]; exact fun q9_ => E9_ (lc_0.mp q9_)
                first | exact alk_n (w_ := w_) (by omega) (by rw [l5_0 cb_]; exact E9_) | (exfalso; omega)
            · have i1_ : (64 * a_ + w_).toNat = 64 * aa_ + w_.toNat := by omega
              have i2_ : (64 * b_ + w_).toNat = 64 * bb_ + w_.toNat := by omega
              by_cases E9_ : S0_.2.2.2 171 0 (64 * aa_ + w_.toNat) = l_5 (S0_.2.2.2 171 0 (64 * bb_ + w_.toNat)) (-1)
              · have E8_ : sm_lcmp (S_.2.2.2 171 0 (64 * a_ + w_).toNat) (l_5 (S_.2.2.2 171 0 (64 * b_ + w_).toNat) (-1)) = 0 := by rw [hS_, i1_, i2_]; exact lc_0.mpr E9_
                first | (have s1_ : tu_ = 1 := (by omega); rw [s1_] at h2_; exact alk_y h2_ (by omega) E9_) | (have s0_ : tu_ = 0 := (by omega); rw [s0_] at h2_; exact alk_z h2_) | (exfalso; omega)
              · have E8_ : sm_lcmp (S_.2.2.2 171 0 (64 * a_ + w_).toNat) (l_5 (S_.2.2.2 171 0 (64 * b_ + w_).toNat) (-1)) ≠ 0 := by rw [hS_, i1_, i2_]; exact fun q9_ => E9_ (lc_0.mp q9_)
                first | exact alk_n (w_ := w_) (by omega) E9_ | (exfalso; omega)
            · first | rfl | exact hS_
            · omega
          · have cx6_ : ¬ (tu_ = 0) := of_decide_eq_false cx6_
            refine sm_T_go 4 (c1 := (74, [some (.inr (.inr (some (13, 0)))), some (.inl a_), some (.inl b_), some (.inl 0), some (.inl tu_), some (.inl w_)], [.inl a_, .inl 64, .inr (.inr (some (171, 0)))], S_)) rfl ?_
            refine sm_T_bin (w := 64 * a_) rfl (bi_mul (by omega) (by omega) (by omega)) ?_
            refine sm_T_go 1 (c1 := (77, [some (.inr (.inr (some (13, 0)))), some (.inl a_), some (.inl b_), some (.inl 0), some (.inl tu_), some (.inl w_)], [.inl w_, .inl (64 * a_), .inr (.inr (some (171, 0)))], S_)) rfl ?_
            refine sm_T_bin (w := 64 * a_ + w_) rfl (bi_add (by omega) (by omega) (by omega)) ?_
            refine sm_T_lald (n := 131072) rfl rfl (by omega) (by omega) ?_
            refine sm_T_go 4 (c1 := (86, [some (.inr (.inr (some (13, 0)))), some (.inl a_), some (.inl b_), some (.inl 0), some (.inl tu_), some (.inl w_)], [.inl b_, .inl 64, .inr (.inr (some (171, 0))), .inr (.inl (S_.2.2.2 171 0 (64 * a_ + w_).toNat))], S_)) rfl ?_
            refine sm_T_bin (w := 64 * b_) rfl (bi_mul (by omega) (by omega) (by omega)) ?_
            refine sm_T_go 1 (c1 := (89, [some (.inr (.inr (some (13, 0)))), some (.inl a_), some (.inl b_), some (.inl 0), some (.inl tu_), some (.inl w_)], [.inl w_, .inl (64 * b_), .inr (.inr (some (171, 0))), .inr (.inl (S_.2.2.2 171 0 (64 * a_ + w_).toNat))], S_)) rfl ?_
            refine sm_T_bin (w := 64 * b_ + w_) rfl (bi_add (by omega) (by omega) (by omega)) ?_
            refine sm_T_lald (n := 131072) rfl rfl (by omega) (by omega) ?_
            refine sm_T_nt (u := some (.inr (.inl (-1)))) (S1 := S_) rfl rfl rfl ?_
            refine sm_T_go 2 (c1 := (96, [some (.inr (.inr (some (13, 0)))), some (.inl a_), some (.inl b_), some (.inl 0), some (.inl tu_), some (.inl w_)], [.inl (sm_lcmp ((S_.2.2.2 171 0 (64 * a_ + w_).toNat)) ((l_5 ((S_.2.2.2 171 0 (64 * b_ + w_).toNat)) (-1))))], S_)) rfl ?_
            refine sm_T_b0 (a := 1) (z := 7) rfl (fun cx7_ => ?_) (fun cx7_ => ?_)
            · have cx7_ : (sm_lcmp ((S_.2.2.2 171 0 (64 * a_ + w_).toNat)) ((l_5 ((S_.2.2.2 171 0 (64 * b_ + w_).toNat)) (-1)))) ≠ 0 := of_decide_eq_true cx7_
              refine sm_T_go 2 (c1 := (106, [some (.inr (.inr (some (13, 0)))), some (.inl a_), some (.inl b_), some (.inl 0), some (.inl 0), some (.inl w_)], [], S_)) rfl ?_
              refine sm_T_inc (a := 5) (z := 1) (v := w_) (w := w_ + 1) rfl rfl (by omega) (by omega) (by omega) ?_
              refine sm_T_go 1 (c1 := (8, [some (.inr (.inr (some (13, 0)))), some (.inl a_), some (.inl b_), some (.inl 0), some (.inl 0), some (.inl (w_ + 1))], [], S_)) rfl ?_
              refine ih_ 0 0 (w_ + 1) S_ hI_ hF_ ⟨?_, ?_, ?_, ?_, trivial⟩ ?_
              · omega
              · have i1_ : (64 * a_ + w_).toNat = 64 * aa_ + w_.toNat := by omega
                have i2_ : (64 * b_ + w_).toNat = 64 * bb_ + w_.toNat := by omega
                have cb_ := rok_c hrb_ w_.toNat (by omega)
                by_cases E9_ : S0_.2.2.2 171 0 (64 * aa_ + w_.toNat) = S0_.2.2.2 171 0 (64 * bb_ + w_.toNat)
                · have E8_ : sm_lcmp (S_.2.2.2 171 0 (64 * a_ + w_).toNat) (S_.2.2.2 171 0 (64 * b_ + w_).toNat) = 0 := by rw [hS_, i1_, i2_]; exact lc_0.mpr E9_
                  first | (have s1_ : sa_ = 1 := (by omega); rw [s1_] at h1_; exact alk_y h1_ (by omega) (by rw [l5_0 cb_]; exact E9_)) | (have s0_ : sa_ = 0 := (by omega); rw [s0_] at h1_; exact alk_z h1_) | (exfalso; omega)
                · have E8_ : sm_lcmp (S_.2.2.2 171 0 (64 * a_ + w_).toNat) (S_.2.2.2 171 0 (64 * b_ + w_).toNat) ≠ 0 := by rw [hS_, i1_, i2_]; exact fun q9_ => E9_ (lc_0.mp q9_)
                  first | exact alk_n (w_ := w_) (by omega) (by rw [l5_0 cb_]; exact E9_) | (exfalso; omega)
              · have i1_ : (64 * a_ + w_).toNat = 64 * aa_ + w_.toNat := by omega
                have i2_ : (64 * b_ + w_).toNat = 64 * bb_ + w_.toNat := by omega
                by_cases E9_ : S0_.2.2.2 171 0 (64 * aa_ + w_.toNat) = l_5 (S0_.2.2.2 171 0 (64 * bb_ + w_.toNat)) (-1)
                · have E8_ : sm_lcmp (S_.2.2.2 171 0 (64 * a_ + w_).toNat) (l_5 (S_.2.2.2 171 0 (64 * b_ + w_).toNat) (-1)) = 0 := by rw [hS_, i1_, i2_]; exact lc_0.mpr E9_
                  first | (have s1_ : tu_ = 1 := (by omega); rw [s1_] at h2_; exact alk_y h2_ (by omega) E9_) | (have s0_ : tu_ = 0 := (by omega); rw [s0_] at h2_; exact alk_z h2_) | (exfalso; omega)
                · have E8_ : sm_lcmp (S_.2.2.2 171 0 (64 * a_ + w_).toNat) (l_5 (S_.2.2.2 171 0 (64 * b_ + w_).toNat) (-1)) ≠ 0 := by rw [hS_, i1_, i2_]; exact fun q9_ => E9_ (lc_0.mp q9_)
                  first | exact alk_n (w_ := w_) (by omega) E9_ | (exfalso; omega)
              · first | rfl | exact hS_
              · omega
            · have cx7_ : ¬ ((sm_lcmp ((S_.2.2.2 171 0 (64 * a_ + w_).toNat)) ((l_5 ((S_.2.2.2 171 0 (64 * b_ + w_).toNat)) (-1)))) ≠ 0) := of_decide_eq_false cx7_
              refine sm_T_go 3 (c1 := (106, [some (.inr (.inr (some (13, 0)))), some (.inl a_), some (.inl b_), some (.inl 0), some (.inl 1), some (.inl w_)], [], S_)) rfl ?_
              refine sm_T_inc (a := 5) (z := 1) (v := w_) (w := w_ + 1) rfl rfl (by omega) (by omega) (by omega) ?_
              refine sm_T_go 1 (c1 := (8, [some (.inr (.inr (some (13, 0)))), some (.inl a_), some (.inl b_), some (.inl 0), some (.inl 1), some (.inl (w_ + 1))], [], S_)) rfl ?_
              refine ih_ 0 1 (w_ + 1) S_ hI_ hF_ ⟨?_, ?_, ?_, ?_, trivial⟩ ?_
              · omega
              · have i1_ : (64 * a_ + w_).toNat = 64 * aa_ + w_.toNat := by omega
                have i2_ : (64 * b_ + w_).toNat = 64 * bb_ + w_.toNat := by omega
                have cb_ := rok_c hrb_ w_.toNat (by omega)
                by_cases E9_ : S0_.2.2.2 171 0 (64 * aa_ + w_.toNat) = S0_.2.2.2 171 0 (64 * bb_ + w_.toNat)
                · have E8_ : sm_lcmp (S_.2.2.2 171 0 (64 * a_ + w_).toNat) (S_.2.2.2 171 0 (64 * b_ + w_).toNat) = 0 := by rw [hS_, i1_, i2_]; exact lc_0.mpr E9_
                  first | (have s1_ : sa_ = 1 := (by omega); rw [s1_] at h1_; exact alk_y h1_ (by omega) (by rw [l5_0 cb_]; exact E9_)) | (have s0_ : sa_ = 0 := (by omega); rw [s0_] at h1_; exact alk_z h1_) | (exfalso; omega)
                · have E8_ : sm_lcmp (S_.2.2.2 171 0 (64 * a_ + w_).toNat) (S_.2.2.2 171 0 (64 * b_ + w_).toNat) ≠ 0 := by rw [hS_, i1_, i2_]; exact fun q9_ => E9_ (lc_0.mp q9_)
                  first | exact alk_n (w_ := w_) (by omega) (by rw [l5_0 cb_]; exact E9_) | (exfalso; omega)
              · have i1_ : (64 * a_ + w_).toNat = 64 * aa_ + w_.toNat := by omega
                have i2_ : (64 * b_ + w_).toNat = 64 * bb_ + w_.toNat := by omega
                by_cases E9_ : S0_.2.2.2 171 0 (64 * aa_ + w_.toNat) = l_5 (S0_.2.2.2 171 0 (64 * bb_ + w_.toNat)) (-1)
                · have E8_ : sm_lcmp (S_.2.2.2 171 0 (64 * a_ + w_).toNat) (l_5 (S_.2.2.2 171 0 (64 * b_ + w_).toNat) (-1)) = 0 := by rw [hS_, i1_, i2_]; exact lc_0.mpr E9_
                  first | (have s1_ : tu_ = 1 := (by omega); rw [s1_] at h2_; exact alk_y h2_ (by omega) E9_) | (have s0_ : tu_ = 0 := (by omega); rw [s0_] at h2_; exact alk_z h2_) | (exfalso; omega)
                · have E8_ : sm_lcmp (S_.2.2.2 171 0 (64 * a_ + w_).toNat) (l_5 (S_.2.2.2 171 0 (64 * b_ + w_).toNat) (-1)) ≠ 0 := by rw [hS_, i1_, i2_]; exact fun q9_ => E9_ (lc_0.mp q9_)
                  first | exact alk_n (w_ := w_) (by omega) E9_ | (exfalso; omega)
              · first | rfl | exact hS_
              · omega
        · have cx5_ : ¬ (sa_ = 0) := of_decide_eq_false cx5_
          refine sm_T_go 4 (c1 := (35, [some (.inr (.inr (some (13, 0)))), some (.inl a_), some (.inl b_), some (.inl sa_), some (.inl tu_), some (.inl w_)], [.inl a_, .inl 64, .inr (.inr (some (171, 0)))], S_)) rfl ?_
          refine sm_T_bin (w := 64 * a_) rfl (bi_mul (by omega) (by omega) (by omega)) ?_
          refine sm_T_go 1 (c1 := (38, [some (.inr (.inr (some (13, 0)))), some (.inl a_), some (.inl b_), some (.inl sa_), some (.inl tu_), some (.inl w_)], [.inl w_, .inl (64 * a_), .inr (.inr (some (171, 0)))], S_)) rfl ?_
          refine sm_T_bin (w := 64 * a_ + w_) rfl (bi_add (by omega) (by omega) (by omega)) ?_
          refine sm_T_lald (n := 131072) rfl rfl (by omega) (by omega) ?_
          refine sm_T_go 4 (c1 := (47, [some (.inr (.inr (some (13, 0)))), some (.inl a_), some (.inl b_), some (.inl sa_), some (.inl tu_), some (.inl w_)], [.inl b_, .inl 64, .inr (.inr (some (171, 0))), .inr (.inl (S_.2.2.2 171 0 (64 * a_ + w_).toNat))], S_)) rfl ?_
          refine sm_T_bin (w := 64 * b_) rfl (bi_mul (by omega) (by omega) (by omega)) ?_
          refine sm_T_go 1 (c1 := (50, [some (.inr (.inr (some (13, 0)))), some (.inl a_), some (.inl b_), some (.inl sa_), some (.inl tu_), some (.inl w_)], [.inl w_, .inl (64 * b_), .inr (.inr (some (171, 0))), .inr (.inl (S_.2.2.2 171 0 (64 * a_ + w_).toNat))], S_)) rfl ?_
          refine sm_T_bin (w := 64 * b_ + w_) rfl (bi_add (by omega) (by omega) (by omega)) ?_
          refine sm_T_lald (n := 131072) rfl rfl (by omega) (by omega) ?_
          refine sm_T_go 1 (c1 := (53, [some (.inr (.inr (some (13, 0)))), some (.inl a_), some (.inl b_), some (.inl sa_), some (.inl tu_), some (.inl w_)], [.inl (sm_lcmp ((S_.2.2.2 171 0 (64 * a_ + w_).toNat)) ((S_.2.2.2 171 0 (64 * b_ + w_).toNat)))], S_)) rfl ?_
          refine sm_T_b0 (a := 1) (z := 7) rfl (fun cx8_ => ?_) (fun cx8_ => ?_)
          · have cx8_ : (sm_lcmp ((S_.2.2.2 171 0 (64 * a_ + w_).toNat)) ((S_.2.2.2 171 0 (64 * b_ + w_).toNat))) ≠ 0 := of_decide_eq_true cx8_
            refine sm_T_go 3 (c1 := (64, [some (.inr (.inr (some (13, 0)))), some (.inl a_), some (.inl b_), some (.inl 0), some (.inl tu_), some (.inl w_)], [.inl tu_], S_)) rfl ?_
            refine sm_T_b0 (a := 0) (z := 39) rfl (fun cx9_ => ?_) (fun cx9_ => ?_)
            · have cx9_ : tu_ = 0 := of_decide_eq_true cx9_
              refine sm_T_go 2 (c1 := (106, [some (.inr (.inr (some (13, 0)))), some (.inl a_), some (.inl b_), some (.inl 0), some (.inl 0), some (.inl w_)], [], S_)) rfl ?_
              refine sm_T_inc (a := 5) (z := 1) (v := w_) (w := w_ + 1) rfl rfl (by omega) (by omega) (by omega) ?_
              refine sm_T_go 1 (c1 := (8, [some (.inr (.inr (some (13, 0)))), some (.inl a_), some (.inl b_), some (.inl 0), some (.inl 0), some (.inl (w_ + 1))], [], S_)) rfl ?_
              refine ih_ 0 0 (w_ + 1) S_ hI_ hF_ ⟨?_, ?_, ?_, ?_, trivial⟩ ?_
              · omega
              · have i1_ : (64 * a_ + w_).toNat = 64 * aa_ + w_.toNat := by omega
                have i2_ : (64 * b_ + w_).toNat = 64 * bb_ + w_.toNat := by omega
                have cb_ := rok_c hrb_ w_.toNat (by omega)
                by_cases E9_ : S0_.2.2.2 171 0 (64 * aa_ + w_.toNat) = S0_.2.2.2 171 0 (64 * bb_ + w_.toNat)
                · have E8_ : sm_lcmp (S_.2.2.2 171 0 (64 * a_ + w_).toNat) (S_.2.2.2 171 0 (64 * b_ + w_).toNat) = 0 := by rw [hS_, i1_, i2_]; exact lc_0.mpr E9_
                  first | (have s1_ : sa_ = 1 := (by omega); rw [s1_] at h1_; exact alk_y h1_ (by omega) (by rw [l5_0 cb_]; exact E9_)) | (have s0_ : sa_ = 0 := (by omega); rw [s0_] at h1_; exact alk_z h1_) | (exfalso; omega)
                · have E8_ : sm_lcmp (S_.2.2.2 171 0 (64 * a_ + w_).toNat) (S_.2.2.2 171 0 (64 * b_ + w_).toNat) ≠ 0 := by rw [hS_, i1_, i2_]; exact fun q9_ => E9_ (lc_0.mp q9_)
                  first | exact alk_n (w_ := w_) (by omega) (by rw [l5_0 cb_]; exact E9_) | (exfalso; omega)
              · have i1_ : (64 * a_ + w_).toNat = 64 * aa_ + w_.toNat := by omega
                have i2_ : (64 * b_ + w_).toNat = 64 * bb_ + w_.toNat := by omega
                by_cases E9_ : S0_.2.2.2 171 0 (64 * aa_ + w_.toNat) = l_5 (S0_.2.2.2 171 0 (64 * bb_ + w_.toNat)) (-1)
                · have E8_ : sm_lcmp (S_.2.2.2 171 0 (64 * a_ + w_).toNat) (l_5 (S_.2.2.2 171 0 (64 * b_ + w_).toNat) (-1)) = 0 := by rw [hS_, i1_, i2_]; exact lc_0.mpr E9_
                  first | (have s1_ : tu_ = 1 := (by omega); rw [s1_] at h2_; exact alk_y h2_ (by omega) E9_) | (have s0_ : tu_ = 0 := (by omega); rw [s0_] at h2_; exact alk_z h2_) | (exfalso; omega)
                · have E8_ : sm_lcmp (S_.2.2.2 171 0 (64 * a_ + w_).toNat) (l_5 (S_.2.2.2 171 0 (64 * b_ + w_).toNat) (-1)) ≠ 0 := by rw [hS_, i1_, i2_]; exact fun q9_ => E9_ (lc_0.mp q9_)
                  first | exact alk_n (w_ := w_) (by omega) E9_ | (exfalso; omega)
              · first | rfl | exact hS_
              · omega
            · have cx9_ : ¬ (tu_ = 0) := of_decide_eq_false cx9_
              refine sm_T_go 4 (c1 := (74, [some (.inr (.inr (some (13, 0)))), some (.inl a_), some (.inl b_), some (.inl 0), some (.inl tu_), some (.inl w_)], [.inl a_, .inl 64, .inr (.inr (some (171, 0)))], S_)) rfl ?_
              refine sm_T_bin (w := 64 * a_) rfl (bi_mul (by omega) (by omega) (by omega)) ?_
              refine sm_T_go 1 (c1 := (77, [some (.inr (.inr (some (13, 0)))), some (.inl a_), some (.inl b_), some (.inl 0), some (.inl tu_), some (.inl w_)], [.inl w_, .inl (64 * a_), .inr (.inr (some (171, 0)))], S_)) rfl ?_
              refine sm_T_bin (w := 64 * a_ + w_) rfl (bi_add (by omega) (by omega) (by omega)) ?_
              refine sm_T_lald (n := 131072) rfl rfl (by omega) (by omega) ?_
              refine sm_T_go 4 (c1 := (86, [some (.inr (.inr (some (13, 0)))), some (.inl a_), some (.inl b_), some (.inl 0), some (.inl tu_), some (.inl w_)], [.inl b_, .inl 64, .inr (.inr (some (171, 0))), .inr (.inl (S_.2.2.2 171 0 (64 * a_ + w_).toNat))], S_)) rfl ?_
              refine sm_T_bin (w := 64 * b_) rfl (bi_mul (by omega) (by omega) (by omega)) ?_
              refine sm_T_go 1 (c1 := (89, [some (.inr (.inr (some (13, 0)))), some (.inl a_), some (.inl b_), some (.inl 0), some (.inl tu_), some (.inl w_)], [.inl w_, .inl (64 * b_), .inr (.inr (some (171, 0))), .inr (.inl (S_.2.2.2 171 0 (64 * a_ + w_).toNat))], S_)) rfl ?_
              refine sm_T_bin (w := 64 * b_ + w_) rfl (bi_add (by omega) (by omega) (by omega)) ?_
              refine sm_T_lald (n := 131072) rfl rfl (by omega) (by omega) ?_
              refine sm_T_nt (u := some (.inr (.inl (-1)))) (S1 := S_) rfl rfl rfl ?_
              refine sm_T_go 2 (c1 := (96, [some (.inr (.inr (some (13, 0)))), some (.inl a_), some (.inl b_), some (.inl 0), some (.inl tu_), some (.inl w_)], [.inl (sm_lcmp ((S_.2.2.2 171 0 (64 * a_ + w_).toNat)) ((l_5 ((S_.2.2.2 171 0 (64 * b_ + w_).toNat)) (-1))))], S_)) rfl ?_
              refine sm_T_b0 (a := 1) (z := 7) rfl (fun cx10_ => ?_) (fun cx10_ => ?_)
              · have cx10_ : (sm_lcmp ((S_.2.2.2 171 0 (64 * a_ + w_).toNat)) ((l_5 ((S_.2.2.2 171 0 (64 * b_ + w_).toNat)) (-1)))) ≠ 0 := of_decide_eq_true cx10_
                refine sm_T_go 2 (c1 := (106, [some (.inr (.inr (some (13, 0)))), some (.inl a_), some (.inl b_), some (.inl 0), some (.inl 0), some (.inl w_)], [], S_)) rfl ?_
                refine sm_T_inc (a := 5) (z := 1) (v := w_) (w := w_ + 1) rfl rfl (by omega) (by omega) (by omega) ?_
                refine sm_T_go 1 (c1 := (8, [some (.inr (.inr (some (13, 0)))), some (.inl a_), some (.inl b_), some (.inl 0), some (.inl 0), some (.inl (w_ + 1))], [], S_)) rfl ?_
                refine ih_ 0 0 (w_ + 1) S_ hI_ hF_ ⟨?_, ?_, ?_, ?_, trivial⟩ ?_
                · omega
                · have i1_ : (64 * a_ + w_).toNat = 64 * aa_ + w_.toNat := by omega
                  have i2_ : (64 * b_ + w_).toNat = 64 * bb_ + w_.toNat := by omega
                  have cb_ := rok_c hrb_ w_.toNat (by omega)
                  by_cases E9_ : S0_.2.2.2 171 0 (64 * aa_ + w_.toNat) = S0_.2.2.2 171 0 (64 * bb_ + w_.toNat)
                  · have E8_ : sm_lcmp (S_.2.2.2 171 0 (64 * a_ + w_).toNat) (S_.2.2.2 171 0 (64 * b_ + w_).toNat) = 0 := by rw [hS_, i1_, i2_]; exact lc_0.mpr E9_
                    first | (have s1_ : sa_ = 1 := (by omega); rw [s1_] at h1_; exact alk_y h1_ (by omega) (by rw [l5_0 cb_]; exact E9_)) | (have s0_ : sa_ = 0 := (by omega); rw [s0_] at h1_; exact alk_z h1_) | (exfalso; omega)
                  · have E8_ : sm_lcmp (S_.2.2.2 171 0 (64 * a_ + w_).toNat) (S_.2.2.2 171 0 (64 * b_ + w_).toNat) ≠ 0 := by rw [hS_, i1_, i2_]; exact fun q9_ => E9_ (lc_0.mp q9_)
                    first | exact alk_n (w_ := w_) (by omega) (by rw [l5_0 cb_]; exact E9_) | (exfalso; omega)
                · have i1_ : (64 * a_ + w_).toNat = 64 * aa_ + w_.toNat := by omega
                  have i2_ : (64 * b_ + w_).toNat = 64 * bb_ + w_.toNat := by omega
                  by_cases E9_ : S0_.2.2.2 171 0 (64 * aa_ + w_.toNat) = l_5 (S0_.2.2.2 171 0 (64 * bb_ + w_.toNat)) (-1)
                  · have E8_ : sm_lcmp (S_.2.2.2 171 0 (64 * a_ + w_).toNat) (l_5 (S_.2.2.2 171 0 (64 * b_ + w_).toNat) (-1)) = 0 := by rw [hS_, i1_, i2_]; exact lc_0.mpr E9_
                    first | (have s1_ : tu_ = 1 := (by omega); rw [s1_] at h2_; exact alk_y h2_ (by omega) E9_) | (have s0_ : tu_ = 0 := (by omega); rw [s0_] at h2_; exact alk_z h2_) | (exfalso; omega)
                  · have E8_ : sm_lcmp (S_.2.2.2 171 0 (64 * a_ + w_).toNat) (l_5 (S_.2.2.2 171 0 (64 * b_ + w_).toNat) (-1)) ≠ 0 := by rw [hS_, i1_, i2_]; exact fun q9_ => E9_ (lc_0.mp q9_)
                    first | exact alk_n (w_ := w_) (by omega) E9_ | (exfalso; omega)
                · first | rfl | exact hS_
                · omega
              · have cx10_ : ¬ ((sm_lcmp ((S_.2.2.2 171 0 (64 * a_ + w_).toNat)) ((l_5 ((S_.2.2.2 171 0 (64 * b_ + w_).toNat)) (-1)))) ≠ 0) := of_decide_eq_false cx10_
                refine sm_T_go 3 (c1 := (106, [some (.inr (.inr (some (13, 0)))), some (.inl a_), some (.inl b_), some (.inl 0), some (.inl 1), some (.inl w_)], [], S_)) rfl ?_
                refine sm_T_inc (a := 5) (z := 1) (v := w_) (w := w_ + 1) rfl rfl (by omega) (by omega) (by omega) ?_
                refine sm_T_go 1 (c1 := (8, [some (.inr (.inr (some (13, 0)))), some (.inl a_), some (.inl b_), some (.inl 0), some (.inl 1), some (.inl (w_ + 1))], [], S_)) rfl ?_
                refine ih_ 0 1 (w_ + 1) S_ hI_ hF_ ⟨?_, ?_, ?_, ?_, trivial⟩ ?_
                · omega
                · have i1_ : (64 * a_ + w_).toNat = 64 * aa_ + w_.toNat := by omega
                  have i2_ : (64 * b_ + w_).toNat = 64 * bb_ + w_.toNat := by omega
                  have cb_ := rok_c hrb_ w_.toNat (by omega)
                  by_cases E9_ : S0_.2.2.2 171 0 (64 * aa_ + w_.toNat) = S0_.2.2.2 171 0 (64 * bb_ + w_.toNat)
                  · have E8_ : sm_lcmp (S_.2.2.2 171 0 (64 * a_ + w_).toNat) (S_.2.2.2 171 0 (64 * b_ + w_).toNat) = 0 := by rw [hS_, i1_, i2_]; exact lc_0.mpr E9_
                    first | (have s1_ : sa_ = 1 := (by omega); rw [s1_] at h1_; exact alk_y h1_ (by omega) (by rw [l5_0 cb_]; exact E9_)) | (have s0_ : sa_ = 0 := (by omega); rw [s0_] at h1_; exact alk_z h1_) | (exfalso; omega)
                  · have E8_ : sm_lcmp (S_.2.2.2 171 0 (64 * a_ + w_).toNat) (S_.2.2.2 171 0 (64 * b_ + w_).toNat) ≠ 0 := by rw [hS_, i1_, i2_]; exact fun q9_ => E9_ (lc_0.mp q9_)
                    first | exact alk_n (w_ := w_) (by omega) (by rw [l5_0 cb_]; exact E9_) | (exfalso; omega)
                · have i1_ : (64 * a_ + w_).toNat = 64 * aa_ + w_.toNat := by omega
                  have i2_ : (64 * b_ + w_).toNat = 64 * bb_ + w_.toNat := by omega
                  by_cases E9_ : S0_.2.2.2 171 0 (64 * aa_ + w_.toNat) = l_5 (S0_.2.2.2 171 0 (64 * bb_ + w_.toNat)) (-1)
                  · have E8_ : sm_lcmp (S_.2.2.2 171 0 (64 * a_ + w_).toNat) (l_5 (S_.2.2.2 171 0 (64 * b_ + w_).toNat) (-1)) = 0 := by rw [hS_, i1_, i2_]; exact lc_0.mpr E9_
                    first | (have s1_ : tu_ = 1 := (by omega); rw [s1_] at h2_; exact alk_y h2_ (by omega) E9_) | (have s0_ : tu_ = 0 := (by omega); rw [s0_] at h2_; exact alk_z h2_) | (exfalso; omega)
                  · have E8_ : sm_lcmp (S_.2.2.2 171 0 (64 * a_ + w_).toNat) (l_5 (S_.2.2.2 171 0 (64 * b_ + w_).toNat) (-1)) ≠ 0 := by rw [hS_, i1_, i2_]; exact fun q9_ => E9_ (lc_0.mp q9_)
                    first | exact alk_n (w_ := w_) (by omega) E9_ | (exfalso; omega)
                · first | rfl | exact hS_
                · omega
          · have cx8_ : ¬ ((sm_lcmp ((S_.2.2.2 171 0 (64 * a_ + w_).toNat)) ((S_.2.2.2 171 0 (64 * b_ + w_).toNat))) ≠ 0) := of_decide_eq_false cx8_
            refine sm_T_go 4 (c1 := (64, [some (.inr (.inr (some (13, 0)))), some (.inl a_), some (.inl b_), some (.inl 1), some (.inl tu_), some (.inl w_)], [.inl tu_], S_)) rfl ?_
            refine sm_T_b0 (a := 0) (z := 39) rfl (fun cx11_ => ?_) (fun cx11_ => ?_)
            · have cx11_ : tu_ = 0 := of_decide_eq_true cx11_
              refine sm_T_go 2 (c1 := (106, [some (.inr (.inr (some (13, 0)))), some (.inl a_), some (.inl b_), some (.inl 1), some (.inl 0), some (.inl w_)], [], S_)) rfl ?_
              refine sm_T_inc (a := 5) (z := 1) (v := w_) (w := w_ + 1) rfl rfl (by omega) (by omega) (by omega) ?_
              refine sm_T_go 1 (c1 := (8, [some (.inr (.inr (some (13, 0)))), some (.inl a_), some (.inl b_), some (.inl 1), some (.inl 0), some (.inl (w_ + 1))], [], S_)) rfl ?_
              refine ih_ 1 0 (w_ + 1) S_ hI_ hF_ ⟨?_, ?_, ?_, ?_, trivial⟩ ?_
              · omega
              · have i1_ : (64 * a_ + w_).toNat = 64 * aa_ + w_.toNat := by omega
                have i2_ : (64 * b_ + w_).toNat = 64 * bb_ + w_.toNat := by omega
                have cb_ := rok_c hrb_ w_.toNat (by omega)
                by_cases E9_ : S0_.2.2.2 171 0 (64 * aa_ + w_.toNat) = S0_.2.2.2 171 0 (64 * bb_ + w_.toNat)
                · have E8_ : sm_lcmp (S_.2.2.2 171 0 (64 * a_ + w_).toNat) (S_.2.2.2 171 0 (64 * b_ + w_).toNat) = 0 := by rw [hS_, i1_, i2_]; exact lc_0.mpr E9_
                  first | (have s1_ : sa_ = 1 := (by omega); rw [s1_] at h1_; exact alk_y h1_ (by omega) (by rw [l5_0 cb_]; exact E9_)) | (have s0_ : sa_ = 0 := (by omega); rw [s0_] at h1_; exact alk_z h1_) | (exfalso; omega)
                · have E8_ : sm_lcmp (S_.2.2.2 171 0 (64 * a_ + w_).toNat) (S_.2.2.2 171 0 (64 * b_ + w_).toNat) ≠ 0 := by rw [hS_, i1_, i2_]; exact fun q9_ => E9_ (lc_0.mp q9_)
                  first | exact alk_n (w_ := w_) (by omega) (by rw [l5_0 cb_]; exact E9_) | (exfalso; omega)
              · have i1_ : (64 * a_ + w_).toNat = 64 * aa_ + w_.toNat := by omega
                have i2_ : (64 * b_ + w_).toNat = 64 * bb_ + w_.toNat := by omega
                by_cases E9_ : S0_.2.2.2 171 0 (64 * aa_ + w_.toNat) = l_5 (S0_.2.2.2 171 0 (64 * bb_ + w_.toNat)) (-1)
                · have E8_ : sm_lcmp (S_.2.2.2 171 0 (64 * a_ + w_).toNat) (l_5 (S_.2.2.2 171 0 (64 * b_ + w_).toNat) (-1)) = 0 := by rw [hS_, i1_, i2_]; exact lc_0.mpr E9_
                  first | (have s1_ : tu_ = 1 := (by omega); rw [s1_] at h2_; exact alk_y h2_ (by omega) E9_) | (have s0_ : tu_ = 0 := (by omega); rw [s0_] at h2_; exact alk_z h2_) | (exfalso; omega)
                · have E8_ : sm_lcmp (S_.2.2.2 171 0 (64 * a_ + w_).toNat) (l_5 (S_.2.2.2 171 0 (64 * b_ + w_).toNat) (-1)) ≠ 0 := by rw [hS_, i1_, i2_]; exact fun q9_ => E9_ (lc_0.mp q9_)
                  first | exact alk_n (w_ := w_) (by omega) E9_ | (exfalso; omega)
              · first | rfl | exact hS_
              · omega
            · have cx11_ : ¬ (tu_ = 0) := of_decide_eq_false cx11_
              refine sm_T_go 4 (c1 := (74, [some (.inr (.inr (some (13, 0)))), some (.inl a_), some (.inl b_), some (.inl 1), some (.inl tu_), some (.inl w_)], [.inl a_, .inl 64, .inr (.inr (some (171, 0)))], S_)) rfl ?_
              refine sm_T_bin (w := 64 * a_) rfl (bi_mul (by omega) (by omega) (by omega)) ?_
              refine sm_T_go 1 (c1 := (77, [some (.inr (.inr (some (13, 0)))), some (.inl a_), some (.inl b_), some (.inl 1), some (.inl tu_), some (.inl w_)], [.inl w_, .inl (64 * a_), .inr (.inr (some (171, 0)))], S_)) rfl ?_
              refine sm_T_bin (w := 64 * a_ + w_) rfl (bi_add (by omega) (by omega) (by omega)) ?_
              refine sm_T_lald (n := 131072) rfl rfl (by omega) (by omega) ?_
              refine sm_T_go 4 (c1 := (86, [some (.inr (.inr (some (13, 0)))), some (.inl a_), some (.inl b_), some (.inl 1), some (.inl tu_), some (.inl w_)], [.inl b_, .inl 64, .inr (.inr (some (171, 0))), .inr (.inl (S_.2.2.2 171 0 (64 * a_ + w_).toNat))], S_)) rfl ?_
              refine sm_T_bin (w := 64 * b_) rfl (bi_mul (by omega) (by omega) (by omega)) ?_
              refine sm_T_go 1 (c1 := (89, [some (.inr (.inr (some (13, 0)))), some (.inl a_), some (.inl b_), some (.inl 1), some (.inl tu_), some (.inl w_)], [.inl w_, .inl (64 * b_), .inr (.inr (some (171, 0))), .inr (.inl (S_.2.2.2 171 0 (64 * a_ + w_).toNat))], S_)) rfl ?_
              refine sm_T_bin (w := 64 * b_ + w_) rfl (bi_add (by omega) (by omega) (by omega)) ?_
              refine sm_T_lald (n := 131072) rfl rfl (by omega) (by omega) ?_
              refine sm_T_nt (u := some (.inr (.inl (-1)))) (S1 := S_) rfl rfl rfl ?_
              refine sm_T_go 2 (c1 := (96, [some (.inr (.inr (some (13, 0)))), some (.inl a_), some (.inl b_), some (.inl 1), some (.inl tu_), some (.inl w_)], [.inl (sm_lcmp ((S_.2.2.2 171 0 (64 * a_ + w_).toNat)) ((l_5 ((S_.2.2.2 171 0 (64 * b_ + w_).toNat)) (-1))))], S_)) rfl ?_
              refine sm_T_b0 (a := 1) (z := 7) rfl (fun cx12_ => ?_) (fun cx12_ => ?_)
              · have cx12_ : (sm_lcmp ((S_.2.2.2 171 0 (64 * a_ + w_).toNat)) ((l_5 ((S_.2.2.2 171 0 (64 * b_ + w_).toNat)) (-1)))) ≠ 0 := of_decide_eq_true cx12_
                refine sm_T_go 2 (c1 := (106, [some (.inr (.inr (some (13, 0)))), some (.inl a_), some (.inl b_), some (.inl 1), some (.inl 0), some (.inl w_)], [], S_)) rfl ?_
                refine sm_T_inc (a := 5) (z := 1) (v := w_) (w := w_ + 1) rfl rfl (by omega) (by omega) (by omega) ?_
                refine sm_T_go 1 (c1 := (8, [some (.inr (.inr (some (13, 0)))), some (.inl a_), some (.inl b_), some (.inl 1), some (.inl 0), some (.inl (w_ + 1))], [], S_)) rfl ?_
                refine ih_ 1 0 (w_ + 1) S_ hI_ hF_ ⟨?_, ?_, ?_, ?_, trivial⟩ ?_
                · omega
                · have i1_ : (64 * a_ + w_).toNat = 64 * aa_ + w_.toNat := by omega
                  have i2_ : (64 * b_ + w_).toNat = 64 * bb_ + w_.toNat := by omega
                  have cb_ := rok_c hrb_ w_.toNat (by omega)
                  by_cases E9_ : S0_.2.2.2 171 0 (64 * aa_ + w_.toNat) = S0_.2.2.2 171 0 (64 * bb_ + w_.toNat)
                  · have E8_ : sm_lcmp (S_.2.2.2 171 0 (64 * a_ + w_).toNat) (S_.2.2.2 171 0 (64 * b_ + w_).toNat) = 0 := by rw [hS_, i1_, i2_]; exact lc_0.mpr E9_
                    first | (have s1_ : sa_ = 1 := (by omega); rw [s1_] at h1_; exact alk_y h1_ (by omega) (by rw [l5_0 cb_]; exact E9_)) | (have s0_ : sa_ = 0 := (by omega); rw [s0_] at h1_; exact alk_z h1_) | (exfalso; omega)
                  · have E8_ : sm_lcmp (S_.2.2.2 171 0 (64 * a_ + w_).toNat) (S_.2.2.2 171 0 (64 * b_ + w_).toNat) ≠ 0 := by rw [hS_, i1_, i2_]; exact fun q9_ => E9_ (lc_0.mp q9_)
                    first | exact alk_n (w_ := w_) (by omega) (by rw [l5_0 cb_]; exact E9_) | (exfalso; omega)
                · have i1_ : (64 * a_ + w_).toNat = 64 * aa_ + w_.toNat := by omega
                  have i2_ : (64 * b_ + w_).toNat = 64 * bb_ + w_.toNat := by omega
                  by_cases E9_ : S0_.2.2.2 171 0 (64 * aa_ + w_.toNat) = l_5 (S0_.2.2.2 171 0 (64 * bb_ + w_.toNat)) (-1)
                  · have E8_ : sm_lcmp (S_.2.2.2 171 0 (64 * a_ + w_).toNat) (l_5 (S_.2.2.2 171 0 (64 * b_ + w_).toNat) (-1)) = 0 := by rw [hS_, i1_, i2_]; exact lc_0.mpr E9_
                    first | (have s1_ : tu_ = 1 := (by omega); rw [s1_] at h2_; exact alk_y h2_ (by omega) E9_) | (have s0_ : tu_ = 0 := (by omega); rw [s0_] at h2_; exact alk_z h2_) | (exfalso; omega)
                  · have E8_ : sm_lcmp (S_.2.2.2 171 0 (64 * a_ + w_).toNat) (l_5 (S_.2.2.2 171 0 (64 * b_ + w_).toNat) (-1)) ≠ 0 := by rw [hS_, i1_, i2_]; exact fun q9_ => E9_ (lc_0.mp q9_)
                    first | exact alk_n (w_ := w_) (by omega) E9_ | (exfalso; omega)
                · first | rfl | exact hS_
                · omega
              · have cx12_ : ¬ ((sm_lcmp ((S_.2.2.2 171 0 (64 * a_ + w_).toNat)) ((l_5 ((S_.2.2.2 171 0 (64 * b_ + w_).toNat)) (-1)))) ≠ 0) := of_decide_eq_false cx12_
                refine sm_T_go 3 (c1 := (106, [some (.inr (.inr (some (13, 0)))), some (.inl a_), some (.inl b_), some (.inl 1), some (.inl 1), some (.inl w_)], [], S_)) rfl ?_
                refine sm_T_inc (a := 5) (z := 1) (v := w_) (w := w_ + 1) rfl rfl (by omega) (by omega) (by omega) ?_
                refine sm_T_go 1 (c1 := (8, [some (.inr (.inr (some (13, 0)))), some (.inl a_), some (.inl b_), some (.inl 1), some (.inl 1), some (.inl (w_ + 1))], [], S_)) rfl ?_
                refine ih_ 1 1 (w_ + 1) S_ hI_ hF_ ⟨?_, ?_, ?_, ?_, trivial⟩ ?_
                · omega
                · have i1_ : (64 * a_ + w_).toNat = 64 * aa_ + w_.toNat := by omega
                  have i2_ : (64 * b_ + w_).toNat = 64 * bb_ + w_.toNat := by omega
                  have cb_ := rok_c hrb_ w_.toNat (by omega)
                  by_cases E9_ : S0_.2.2.2 171 0 (64 * aa_ + w_.toNat) = S0_.2.2.2 171 0 (64 * bb_ + w_.toNat)
                  · have E8_ : sm_lcmp (S_.2.2.2 171 0 (64 * a_ + w_).toNat) (S_.2.2.2 171 0 (64 * b_ + w_).toNat) = 0 := by rw [hS_, i1_, i2_]; exact lc_0.mpr E9_
                    first | (have s1_ : sa_ = 1 := (by omega); rw [s1_] at h1_; exact alk_y h1_ (by omega) (by rw [l5_0 cb_]; exact E9_)) | (have s0_ : sa_ = 0 := (by omega); rw [s0_] at h1_; exact alk_z h1_) | (exfalso; omega)
                  · have E8_ : sm_lcmp (S_.2.2.2 171 0 (64 * a_ + w_).toNat) (S_.2.2.2 171 0 (64 * b_ + w_).toNat) ≠ 0 := by rw [hS_, i1_, i2_]; exact fun q9_ => E9_ (lc_0.mp q9_)
                    first | exact alk_n (w_ := w_) (by omega) (by rw [l5_0 cb_]; exact E9_) | (exfalso; omega)
                · have i1_ : (64 * a_ + w_).toNat = 64 * aa_ + w_.toNat := by omega
                  have i2_ : (64 * b_ + w_).toNat = 64 * bb_ + w_.toNat := by omega
                  by_cases E9_ : S0_.2.2.2 171 0 (64 * aa_ + w_.toNat) = l_5 (S0_.2.2.2 171 0 (64 * bb_ + w_.toNat)) (-1)
                  · have E8_ : sm_lcmp (S_.2.2.2 171 0 (64 * a_ + w_).toNat) (l_5 (S_.2.2.2 171 0 (64 * b_ + w_).toNat) (-1)) = 0 := by rw [hS_, i1_, i2_]; exact lc_0.mpr E9_
                    first | (have s1_ : tu_ = 1 := (by omega); rw [s1_] at h2_; exact alk_y h2_ (by omega) E9_) | (have s0_ : tu_ = 0 := (by omega); rw [s0_] at h2_; exact alk_z h2_) | (exfalso; omega)
                  · have E8_ : sm_lcmp (S_.2.2.2 171 0 (64 * a_ + w_).toNat) (l_5 (S_.2.2.2 171 0 (64 * b_ + w_).toNat) (-1)) ≠ 0 := by rw [hS_, i1_, i2_]; exact fun q9_ => E9_ (lc_0.mp q9_)
                    first | exact alk_n (w_ := w_) (by omega) E9_ | (exfalso; omega)
                · first | rfl | exact hS_
                · omega
      · have cx4_ : ¬ (sa_ ≠ 0) := of_decide_eq_false cx4_
        refine sm_T_go 1 (c1 := (21, [some (.inr (.inr (some (13, 0)))), some (.inl a_), some (.inl b_), some (.inl sa_), some (.inl tu_), some (.inl w_)], [.inl tu_], S_)) rfl ?_
        refine sm_T_b0 (a := 0) (z := 91) rfl (fun cx13_ => ?_) (fun cx13_ => ?_)
        · have cx13_ : tu_ = 0 := of_decide_eq_true cx13_
          refine sm_T_go 1 (c1 := (113, [some (.inr (.inr (some (13, 0)))), some (.inl a_), some (.inl b_), some (.inl sa_), some (.inl tu_), some (.inl w_)], [.inl sa_], S_)) rfl ?_
          refine sm_T_b0 (a := 0) (z := 7) rfl (fun cx14_ => ?_) (fun cx14_ => ?_)
          · have cx14_ : sa_ = 0 := of_decide_eq_true cx14_
            refine sm_T_go 1 (c1 := (122, [some (.inr (.inr (some (13, 0)))), some (.inl a_), some (.inl b_), some (.inl sa_), some (.inl tu_), some (.inl w_)], [.inl tu_], S_)) rfl ?_
            refine sm_T_b0 (a := 0) (z := 7) rfl (fun cx15_ => ?_) (fun cx15_ => ?_)
            · have cx15_ : tu_ = 0 := of_decide_eq_true cx15_
              refine sm_T_go 1 (c1 := (130, [some (.inr (.inr (some (13, 0)))), some (.inl a_), some (.inl b_), some (.inl sa_), some (.inl tu_), some (.inl w_)], [.inl 2], S_)) rfl ?_
              refine sm_T_ri rfl ⟨_, _, rfl, (by first | rfl | exact hS_.symm), _, rfl, ?_⟩
              first | (have s1_ : sa_ = 1 := (by omega); rw [s1_] at h1_; exact Or.inl ⟨rfl, alk_l h1_ (by omega)⟩) | (have t1_ : tu_ = 1 := (by omega); rw [t1_] at h2_; exact Or.inr (Or.inl ⟨rfl, alk_l h2_ (by omega)⟩)) | (have s0_ : sa_ = 0 := (by omega); have t0_ : tu_ = 0 := (by omega); rw [s0_] at h1_; rw [t0_] at h2_; exact Or.inr (Or.inr ⟨rfl, alk_x h1_, alk_x h2_⟩))
            · have cx15_ : ¬ (tu_ = 0) := of_decide_eq_false cx15_
              exfalso; omega
          · have cx14_ : ¬ (sa_ = 0) := of_decide_eq_false cx14_
            exfalso; omega
        · have cx13_ : ¬ (tu_ = 0) := of_decide_eq_false cx13_
          refine sm_T_go 1 (c1 := (25, [some (.inr (.inr (some (13, 0)))), some (.inl a_), some (.inl b_), some (.inl sa_), some (.inl tu_), some (.inl w_)], [.inl sa_], S_)) rfl ?_
          refine sm_T_b0 (a := 0) (z := 35) rfl (fun cx16_ => ?_) (fun cx16_ => ?_)
          · have cx16_ : sa_ = 0 := of_decide_eq_true cx16_
            refine sm_T_go 3 (c1 := (64, [some (.inr (.inr (some (13, 0)))), some (.inl a_), some (.inl b_), some (.inl 0), some (.inl tu_), some (.inl w_)], [.inl tu_], S_)) rfl ?_
            refine sm_T_b0 (a := 0) (z := 39) rfl (fun cx17_ => ?_) (fun cx17_ => ?_)
            · have cx17_ : tu_ = 0 := of_decide_eq_true cx17_
              refine sm_T_go 2 (c1 := (106, [some (.inr (.inr (some (13, 0)))), some (.inl a_), some (.inl b_), some (.inl 0), some (.inl 0), some (.inl w_)], [], S_)) rfl ?_
              refine sm_T_inc (a := 5) (z := 1) (v := w_) (w := w_ + 1) rfl rfl (by omega) (by omega) (by omega) ?_
              refine sm_T_go 1 (c1 := (8, [some (.inr (.inr (some (13, 0)))), some (.inl a_), some (.inl b_), some (.inl 0), some (.inl 0), some (.inl (w_ + 1))], [], S_)) rfl ?_
              refine ih_ 0 0 (w_ + 1) S_ hI_ hF_ ⟨?_, ?_, ?_, ?_, trivial⟩ ?_
              · omega
              · have i1_ : (64 * a_ + w_).toNat = 64 * aa_ + w_.toNat := by omega
                have i2_ : (64 * b_ + w_).toNat = 64 * bb_ + w_.toNat := by omega
                have cb_ := rok_c hrb_ w_.toNat (by omega)
                by_cases E9_ : S0_.2.2.2 171 0 (64 * aa_ + w_.toNat) = S0_.2.2.2 171 0 (64 * bb_ + w_.toNat)
                · have E8_ : sm_lcmp (S_.2.2.2 171 0 (64 * a_ + w_).toNat) (S_.2.2.2 171 0 (64 * b_ + w_).toNat) = 0 := by rw [hS_, i1_, i2_]; exact lc_0.mpr E9_
                  first | (have s1_ : sa_ = 1 := (by omega); rw [s1_] at h1_; exact alk_y h1_ (by omega) (by rw [l5_0 cb_]; exact E9_)) | (have s0_ : sa_ = 0 := (by omega); rw [s0_] at h1_; exact alk_z h1_) | (exfalso; omega)
                · have E8_ : sm_lcmp (S_.2.2.2 171 0 (64 * a_ + w_).toNat) (S_.2.2.2 171 0 (64 * b_ + w_).toNat) ≠ 0 := by rw [hS_, i1_, i2_]; exact fun q9_ => E9_ (lc_0.mp q9_)
                  first | exact alk_n (w_ := w_) (by omega) (by rw [l5_0 cb_]; exact E9_) | (exfalso; omega)
              · have i1_ : (64 * a_ + w_).toNat = 64 * aa_ + w_.toNat := by omega
                have i2_ : (64 * b_ + w_).toNat = 64 * bb_ + w_.toNat := by omega
                by_cases E9_ : S0_.2.2.2 171 0 (64 * aa_ + w_.toNat) = l_5 (S0_.2.2.2 171 0 (64 * bb_ + w_.toNat)) (-1)
                · have E8_ : sm_lcmp (S_.2.2.2 171 0 (64 * a_ + w_).toNat) (l_5 (S_.2.2.2 171 0 (64 * b_ + w_).toNat) (-1)) = 0 := by rw [hS_, i1_, i2_]; exact lc_0.mpr E9_
                  first | (have s1_ : tu_ = 1 := (by omega); rw [s1_] at h2_; exact alk_y h2_ (by omega) E9_) | (have s0_ : tu_ = 0 := (by omega); rw [s0_] at h2_; exact alk_z h2_) | (exfalso; omega)
                · have E8_ : sm_lcmp (S_.2.2.2 171 0 (64 * a_ + w_).toNat) (l_5 (S_.2.2.2 171 0 (64 * b_ + w_).toNat) (-1)) ≠ 0 := by rw [hS_, i1_, i2_]; exact fun q9_ => E9_ (lc_0.mp q9_)
                  first | exact alk_n (w_ := w_) (by omega) E9_ | (exfalso; omega)
              · first | rfl | exact hS_
              · omega
            · have cx17_ : ¬ (tu_ = 0) := of_decide_eq_false cx17_
              refine sm_T_go 4 (c1 := (74, [some (.inr (.inr (some (13, 0)))), some (.inl a_), some (.inl b_), some (.inl 0), some (.inl tu_), some (.inl w_)], [.inl a_, .inl 64, .inr (.inr (some (171, 0)))], S_)) rfl ?_
              refine sm_T_bin (w := 64 * a_) rfl (bi_mul (by omega) (by omega) (by omega)) ?_
              refine sm_T_go 1 (c1 := (77, [some (.inr (.inr (some (13, 0)))), some (.inl a_), some (.inl b_), some (.inl 0), some (.inl tu_), some (.inl w_)], [.inl w_, .inl (64 * a_), .inr (.inr (some (171, 0)))], S_)) rfl ?_
              refine sm_T_bin (w := 64 * a_ + w_) rfl (bi_add (by omega) (by omega) (by omega)) ?_
              refine sm_T_lald (n := 131072) rfl rfl (by omega) (by omega) ?_
              refine sm_T_go 4 (c1 := (86, [some (.inr (.inr (some (13, 0)))), some (.inl a_), some (.inl b_), some (.inl 0), some (.inl tu_), some (.inl w_)], [.inl b_, .inl 64, .inr (.inr (some (171, 0))), .inr (.inl (S_.2.2.2 171 0 (64 * a_ + w_).toNat))], S_)) rfl ?_
              refine sm_T_bin (w := 64 * b_) rfl (bi_mul (by omega) (by omega) (by omega)) ?_
              refine sm_T_go 1 (c1 := (89, [some (.inr (.inr (some (13, 0)))), some (.inl a_), some (.inl b_), some (.inl 0), some (.inl tu_), some (.inl w_)], [.inl w_, .inl (64 * b_), .inr (.inr (some (171, 0))), .inr (.inl (S_.2.2.2 171 0 (64 * a_ + w_).toNat))], S_)) rfl ?_
              refine sm_T_bin (w := 64 * b_ + w_) rfl (bi_add (by omega) (by omega) (by omega)) ?_
              refine sm_T_lald (n := 131072) rfl rfl (by omega) (by omega) ?_
              refine sm_T_nt (u := some (.inr (.inl (-1)))) (S1 := S_) rfl rfl rfl ?_
              refine sm_T_go 2 (c1 := (96, [some (.inr (.inr (some (13, 0)))), some (.inl a_), some (.inl b_), some (.inl 0), some (.inl tu_), some (.inl w_)], [.inl (sm_lcmp ((S_.2.2.2 171 0 (64 * a_ + w_).toNat)) ((l_5 ((S_.2.2.2 171 0 (64 * b_ + w_).toNat)) (-1))))], S_)) rfl ?_
              refine sm_T_b0 (a := 1) (z := 7) rfl (fun cx18_ => ?_) (fun cx18_ => ?_)
              · have cx18_ : (sm_lcmp ((S_.2.2.2 171 0 (64 * a_ + w_).toNat)) ((l_5 ((S_.2.2.2 171 0 (64 * b_ + w_).toNat)) (-1)))) ≠ 0 := of_decide_eq_true cx18_
                refine sm_T_go 2 (c1 := (106, [some (.inr (.inr (some (13, 0)))), some (.inl a_), some (.inl b_), some (.inl 0), some (.inl 0), some (.inl w_)], [], S_)) rfl ?_
                refine sm_T_inc (a := 5) (z := 1) (v := w_) (w := w_ + 1) rfl rfl (by omega) (by omega) (by omega) ?_
                refine sm_T_go 1 (c1 := (8, [some (.inr (.inr (some (13, 0)))), some (.inl a_), some (.inl b_), some (.inl 0), some (.inl 0), some (.inl (w_ + 1))], [], S_)) rfl ?_
                refine ih_ 0 0 (w_ + 1) S_ hI_ hF_ ⟨?_, ?_, ?_, ?_, trivial⟩ ?_
                · omega
                · have i1_ : (64 * a_ + w_).toNat = 64 * aa_ + w_.toNat := by omega
                  have i2_ : (64 * b_ + w_).toNat = 64 * bb_ + w_.toNat := by omega
                  have cb_ := rok_c hrb_ w_.toNat (by omega)
                  by_cases E9_ : S0_.2.2.2 171 0 (64 * aa_ + w_.toNat) = S0_.2.2.2 171 0 (64 * bb_ + w_.toNat)
                  · have E8_ : sm_lcmp (S_.2.2.2 171 0 (64 * a_ + w_).toNat) (S_.2.2.2 171 0 (64 * b_ + w_).toNat) = 0 := by rw [hS_, i1_, i2_]; exact lc_0.mpr E9_
                    first | (have s1_ : sa_ = 1 := (by omega); rw [s1_] at h1_; exact alk_y h1_ (by omega) (by rw [l5_0 cb_]; exact E9_)) | (have s0_ : sa_ = 0 := (by omega); rw [s0_] at h1_; exact alk_z h1_) | (exfalso; omega)
                  · have E8_ : sm_lcmp (S_.2.2.2 171 0 (64 * a_ + w_).toNat) (S_.2.2.2 171 0 (64 * b_ + w_).toNat) ≠ 0 := by rw [hS_, i1_, i2_]; exact fun q9_ => E9_ (lc_0.mp q9_)
                    first | exact alk_n (w_ := w_) (by omega) (by rw [l5_0 cb_]; exact E9_) | (exfalso; omega)
                · have i1_ : (64 * a_ + w_).toNat = 64 * aa_ + w_.toNat := by omega
                  have i2_ : (64 * b_ + w_).toNat = 64 * bb_ + w_.toNat := by omega
                  by_cases E9_ : S0_.2.2.2 171 0 (64 * aa_ + w_.toNat) = l_5 (S0_.2.2.2 171 0 (64 * bb_ + w_.toNat)) (-1)
                  · have E8_ : sm_lcmp (S_.2.2.2 171 0 (64 * a_ + w_).toNat) (l_5 (S_.2.2.2 171 0 (64 * b_ + w_).toNat) (-1)) = 0 := by rw [hS_, i1_, i2_]; exact lc_0.mpr E9_
                    first | (have s1_ : tu_ = 1 := (by omega); rw [s1_] at h2_; exact alk_y h2_ (by omega) E9_) | (have s0_ : tu_ = 0 := (by omega); rw [s0_] at h2_; exact alk_z h2_) | (exfalso; omega)
                  · have E8_ : sm_lcmp (S_.2.2.2 171 0 (64 * a_ + w_).toNat) (l_5 (S_.2.2.2 171 0 (64 * b_ + w_).toNat) (-1)) ≠ 0 := by rw [hS_, i1_, i2_]; exact fun q9_ => E9_ (lc_0.mp q9_)
                    first | exact alk_n (w_ := w_) (by omega) E9_ | (exfalso; omega)
                · first | rfl | exact hS_
                · omega
              · have cx18_ : ¬ ((sm_lcmp ((S_.2.2.2 171 0 (64 * a_ + w_).toNat)) ((l_5 ((S_.2.2.2 171 0 (64 * b_ + w_).toNat)) (-1)))) ≠ 0) := of_decide_eq_false cx18_
                refine sm_T_go 3 (c1 := (106, [some (.inr (.inr (some (13, 0)))), some (.inl a_), some (.inl b_), some (.inl 0), some (.inl 1), some (.inl w_)], [], S_)) rfl ?_
                refine sm_T_inc (a := 5) (z := 1) (v := w_) (w := w_ + 1) rfl rfl (by omega) (by omega) (by omega) ?_
                refine sm_T_go 1 (c1 := (8, [some (.inr (.inr (some (13, 0)))), some (.inl a_), some (.inl b_), some (.inl 0), some (.inl 1), some (.inl (w_ + 1))], [], S_)) rfl ?_
                refine ih_ 0 1 (w_ + 1) S_ hI_ hF_ ⟨?_, ?_, ?_, ?_, trivial⟩ ?_
                · omega
                · have i1_ : (64 * a_ + w_).toNat = 64 * aa_ + w_.toNat := by omega
                  have i2_ : (64 * b_ + w_).toNat = 64 * bb_ + w_.toNat := by omega
                  have cb_ := rok_c hrb_ w_.toNat (by omega)
                  by_cases E9_ : S0_.2.2.2 171 0 (64 * aa_ + w_.toNat) = S0_.2.2.2 171 0 (64 * bb_ + w_.toNat)
                  · have E8_ : sm_lcmp (S_.2.2.2 171 0 (64 * a_ + w_).toNat) (S_.2.2.2 171 0 (64 * b_ + w_).toNat) = 0 := by rw [hS_, i1_, i2_]; exact lc_0.mpr E9_
                    first | (have s1_ : sa_ = 1 := (by omega); rw [s1_] at h1_; exact alk_y h1_ (by omega) (by rw [l5_0 cb_]; exact E9_)) | (have s0_ : sa_ = 0 := (by omega); rw [s0_] at h1_; exact alk_z h1_) | (exfalso; omega)
                  · have E8_ : sm_lcmp (S_.2.2.2 171 0 (64 * a_ + w_).toNat) (S_.2.2.2 171 0 (64 * b_ + w_).toNat) ≠ 0 := by rw [hS_, i1_, i2_]; exact fun q9_ => E9_ (lc_0.mp q9_)
                    first | exact alk_n (w_ := w_) (by omega) (by rw [l5_0 cb_]; exact E9_) | (exfalso; omega)
                · have i1_ : (64 * a_ + w_).toNat = 64 * aa_ + w_.toNat := by omega
                  have i2_ : (64 * b_ + w_).toNat = 64 * bb_ + w_.toNat := by omega
                  by_cases E9_ : S0_.2.2.2 171 0 (64 * aa_ + w_.toNat) = l_5 (S0_.2.2.2 171 0 (64 * bb_ + w_.toNat)) (-1)
                  · have E8_ : sm_lcmp (S_.2.2.2 171 0 (64 * a_ + w_).toNat) (l_5 (S_.2.2.2 171 0 (64 * b_ + w_).toNat) (-1)) = 0 := by rw [hS_, i1_, i2_]; exact lc_0.mpr E9_
                    first | (have s1_ : tu_ = 1 := (by omega); rw [s1_] at h2_; exact alk_y h2_ (by omega) E9_) | (have s0_ : tu_ = 0 := (by omega); rw [s0_] at h2_; exact alk_z h2_) | (exfalso; omega)
                  · have E8_ : sm_lcmp (S_.2.2.2 171 0 (64 * a_ + w_).toNat) (l_5 (S_.2.2.2 171 0 (64 * b_ + w_).toNat) (-1)) ≠ 0 := by rw [hS_, i1_, i2_]; exact fun q9_ => E9_ (lc_0.mp q9_)
                    first | exact alk_n (w_ := w_) (by omega) E9_ | (exfalso; omega)
                · first | rfl | exact hS_
                · omega
          · have cx16_ : ¬ (sa_ = 0) := of_decide_eq_false cx16_
            exfalso; omega
set_option maxHeartbeats 3000000 in
theorem vc_353 {sc_ : Nat × (Nat → Int)} (a_ : Int) (b_ : Int) (aa_ : Nat) (bb_ : Nat) (S0_ : sm_S) (hI_ : gi S0_) (ha_ : a_ = (aa_ : Int) ∧ aa_ ≤ 1012) (hb_ : b_ = (bb_ : Int) ∧ bb_ ≤ 1012) (hrb_ : rok 64 (-1) (S0_.2.2.2 171 0) bb_) : sm_T (mt_P sc_) 0 353 (0, [some (.inr (.inr (some (13, 0)))), some (.inl a_), some (.inl b_), none, none, none], [], S0_) (fun ro9_ => ∃ u_ S1_, ro9_ = (.inl u_, S1_, 0) ∧ vq_353 a_ b_ aa_ bb_ S0_ u_ S1_) := by
  have hF_ : ai_fr (sx_W vw_353) S0_ S0_ := ai_fr_rf
  refine sm_T_go 6 (c1 := (8, [some (.inr (.inr (some (13, 0)))), some (.inl a_), some (.inl b_), some (.inl 1), some (.inl 1), some (.inl 0)], [], S0_)) rfl ?_
  refine (vl_353 a_ b_ aa_ bb_ S0_ ha_ hb_ hrb_ _) 1 1 0 S0_ hI_ hF_ ⟨?_, ?_, ?_, ?_, trivial⟩ (Nat.lt_succ_self _)
  · omega
  · exact alk_0
  · exact alk_0
  · first | rfl | exact hS_

theorem glo_r {F_ : Nat} {S_ : sm_S} (h_ : rgr F_ S_) : glo F_ (S_.1 13 0 37).toNat (S_.2.2.1 140 0) (S_.2.2.1 141 0) := fun k_ h1_ h2_ => h_.2.2 k_ h1_ (by omega)
/-- whom the_ nodes stand for_, in the_ reference -/
def rsw (F_ : Nat) (S_ : sm_S) : Prop := S_.2.2.1 172 0 0 = 0 ∧ ∀ m_ : Nat, (m_ : Int) < S_.1 13 0 37 → sfo F_ (S_.2.2.1 140 0) (S_.2.2.1 141 0) (S_.2.2.1 172 0) m_
