/-! tasks; written by wip/p55/gen/vg -/

/-! nets to_ be_ made: tasks -/
/-- literal 2 x_ + t_ can_ be_ made -/
def lwy (f_ : Int) (c_ : Nat → Int) (x_ t_ : Int) : Prop := (x_ < f_ ∧ t_ = 0) ∨ (f_ ≤ x_ ∧ c_ (2 * x_ + t_).toNat ≠ -1)
/-- a_ task that can_ be_ done -/
def gtk (f_ N_ iv_ : Int) (u_ c_ : Nat → Int) (t_ : Int) : Prop := 3 ≤ t_ ∧ t_ < 3 * N_ ∧ u_ (t_ / 3).toNat = 1 ∧ ((t_ % 3 = 2 ∧ iv_ ≠ -1 ∧ lwy f_ c_ (t_ / 3) 0) ∨ (t_ % 3 ≤ 1 ∧ lwy f_ c_ (t_ / 3) (t_ % 3)))
/-- tasks below have lower ranks -/
def grk (c_ : Nat → Int) (t_ : Int) : Int := 3 * (t_ / 3) + if t_ % 3 = 2 then 2 else if c_ (2 * (t_ / 3) + t_ % 3).toNat = -2 then 1 else 0
def pno (c_ inp_ : Nat → Int) (t_ : Int) : Int := if t_ % 3 = 2 then 1 else if c_ (2 * (t_ / 3) + t_ % 3).toNat < 0 then 1 else inp_ (c_ (2 * (t_ / 3) + t_ % 3).toNat).toNat
def ptn (nd_ : Nat → Int) (t_ k_ : Int) : Int := nd_ (6 * (t_ / 3) + 3 * (t_ % 3) + k_).toNat
def ptv (f_ : Int) (r_ c_ tu_ nd_ : Nat → Int) (t_ k_ : Int) : Int := if t_ % 3 = 2 then 3 * (t_ / 3) else if c_ (2 * (t_ / 3) + t_ % 3).toNat < 0 then 3 * (t_ / 3) + 1 - t_ % 3 else 3 * ptn nd_ t_ k_ + (if ptn nd_ t_ k_ < f_ ∨ r_ (ptn nd_ t_ k_).toNat ≠ 0 then 2 * (i_shr (tu_ (2 * (t_ / 3) + t_ % 3).toNat) k_ % 2) else i_shr (tu_ (2 * (t_ / 3) + t_ % 3).toNat) k_ % 2)
/-- all_ ways are_ found -/
def wal (f_ N_ : Int) (ll_ : Nat) (S_ : sm_S) : Prop := ∀ n_ : Nat, f_ ≤ (n_ : Int) → (n_ : Int) < N_ → S_.2.2.1 59 0 n_ = 1 → wok f_ n_ ll_ S_ (2 * n_) (2 * n_ + 1) ∧ wok f_ n_ ll_ S_ (2 * n_ + 1) (2 * n_) ∧ imq (S_.2.2.1 60 0 n_ ≠ 0) (S_.2.2.1 61 0 (2 * n_) < 268435456)
theorem grk_b (c_ : Nat → Int) (t_ : Int) : 3 * (t_ / 3) ≤ grk c_ t_ ∧ grk c_ t_ ≤ 3 * (t_ / 3) + 2 := by
  unfold grk
  split
  · omega
  · split <;> omega
theorem wok_c {f_ n_ : Int} {ll_ l_ m_ : Nat} {S_ : sm_S} (h_ : wok f_ n_ ll_ S_ l_ m_) (g_ : S_.2.2.1 61 0 l_ < 268435456) : S_.2.2.1 62 0 l_ ≠ -1 := by
  rcases h_ with (h_ | h_) | h_
  · omega
  · omega
  · omega
theorem wal_c {f_ N_ : Int} {ll_ : Nat} {S_ : sm_S} (h_ : wal f_ N_ ll_ S_) {x_ t_ : Int} (hf_ : 1 ≤ f_) (h1_ : f_ ≤ x_) (h2_ : x_ < N_) (hu_ : S_.2.2.1 59 0 x_.toNat = 1) (ht_ : 0 ≤ t_ ∧ t_ ≤ 1) (hn_ : S_.2.2.1 61 0 (2 * x_ + t_).toNat < 268435456) : S_.2.2.1 62 0 (2 * x_ + t_).toNat ≠ -1 := by
  have w_ := h_ x_.toNat (by omega) (by omega) hu_
  have c_ : t_ = 0 ∨ t_ = 1 := by omega
  rcases c_ with c_ | c_
  · rw [show (2 * x_ + t_).toNat = 2 * x_.toNat by omega] at hn_ ⊢
    exact wok_c w_.1 hn_
  · rw [show (2 * x_ + t_).toNat = 2 * x_.toNat + 1 by omega] at hn_ ⊢
    exact wok_c w_.2.1 hn_
theorem wal_w {f_ N_ : Int} {ll_ : Nat} {S_ : sm_S} (h_ : wal f_ N_ ll_ S_) {x_ t_ : Int} (hf_ : 1 ≤ f_) (h1_ : f_ ≤ x_) (h2_ : x_ < N_) (hu_ : S_.2.2.1 59 0 x_.toNat = 1) (ht_ : 0 ≤ t_ ∧ t_ ≤ 1) : wok f_ x_ ll_ S_ (2 * x_ + t_).toNat (2 * x_ + 1 - t_).toNat := by
  have w_ := h_ x_.toNat (by omega) (by omega) hu_
  rw [show ((x_.toNat : Nat) : Int) = x_ by omega] at w_
  have c_ : t_ = 0 ∨ t_ = 1 := by omega
  rcases c_ with c_ | c_
  · rw [show (2 * x_ + t_).toNat = 2 * x_.toNat by omega, show (2 * x_ + 1 - t_).toNat = 2 * x_.toNat + 1 by omega]; exact w_.1
  · rw [show (2 * x_ + t_).toNat = 2 * x_.toNat + 1 by omega, show (2 * x_ + 1 - t_).toNat = 2 * x_.toNat by omega]; exact w_.2.1
/-- a_ part of_ a_ task can_ be_ done -/
theorem gtk_p {f_ N_ : Int} {ll_ : Nat} {S_ : sm_S} {t_ k_ : Int} (h_ : wal f_ N_ ll_ S_) (hf_ : 1 ≤ f_) (g_ : gtk f_ N_ (S_.1 5 ll_ 2) (S_.2.2.1 59 0) (S_.2.2.1 62 0) t_) (hi_ : ¬ (t_ / 3 < f_ ∧ t_ % 3 = 0)) (hk_ : 0 ≤ k_ ∧ k_ < pno (S_.2.2.1 62 0) (S_.2.2.1 55 (0 + ll_)) t_) :
    gtk f_ N_ (S_.1 5 ll_ 2) (S_.2.2.1 59 0) (S_.2.2.1 62 0) (ptv f_ (S_.2.2.1 60 0) (S_.2.2.1 62 0) (S_.2.2.1 63 0) (S_.2.2.1 64 0) t_ k_) ∧ grk (S_.2.2.1 62 0) (ptv f_ (S_.2.2.1 60 0) (S_.2.2.1 62 0) (S_.2.2.1 63 0) (S_.2.2.1 64 0) t_ k_) < grk (S_.2.2.1 62 0) t_ := by
  obtain ⟨g1_, g2_, g3_, g4_⟩ := g_
  rcases g4_ with ⟨g4_, g5_, g6_⟩ | ⟨g4_, g6_⟩
  · have e_ : ptv f_ (S_.2.2.1 60 0) (S_.2.2.1 62 0) (S_.2.2.1 63 0) (S_.2.2.1 64 0) t_ k_ = 3 * (t_ / 3) := by unfold ptv; rw [if_pos g4_]
    rw [e_]
    refine ⟨⟨by omega, by omega, by rw [show 3 * (t_ / 3) / 3 = t_ / 3 by omega]; exact g3_, Or.inr ⟨by omega, by rw [show 3 * (t_ / 3) / 3 = t_ / 3 by omega, show 3 * (t_ / 3) % 3 = 0 by omega]; exact g6_⟩⟩, ?_⟩
    have r1_ : grk (S_.2.2.1 62 0) t_ = 3 * (t_ / 3) + 2 := by unfold grk; rw [if_pos g4_]
    rw [r1_]
    unfold grk
    rw [if_neg (by omega)]
    split <;> omega
  · have g7_ : f_ ≤ t_ / 3 ∧ S_.2.2.1 62 0 (2 * (t_ / 3) + t_ % 3).toNat ≠ -1 := by
      rcases g6_ with g6_ | g6_
      · exact absurd g6_ hi_
      · exact g6_
    have g8_ := wal_w h_ hf_ g7_.1 (by omega) g3_ (t_ := t_ % 3) (by omega)
    have n2_ : ¬ t_ % 3 = 2 := by omega
    rcases g8_ with (g8_ | g8_) | g8_
    · exact absurd g8_.1 g7_.2
    · have nc : ¬ S_.2.2.1 62 0 (2 * (t_ / 3) + t_ % 3).toNat < 0 := by have := g8_.1; omega
      unfold pno at hk_
      rw [if_neg n2_, if_neg nc] at hk_
      have p_ := g8_.2.2 k_.toNat (by omega)
      rw [show 3 * (2 * (t_ / 3) + t_ % 3).toNat + k_.toNat = (6 * (t_ / 3) + 3 * (t_ % 3) + k_).toNat by omega, show ((k_.toNat : Nat) : Int) = k_ by omega] at p_
      have e_ : ptv f_ (S_.2.2.1 60 0) (S_.2.2.1 62 0) (S_.2.2.1 63 0) (S_.2.2.1 64 0) t_ k_ = 3 * ptn (S_.2.2.1 64 0) t_ k_ + (if ptn (S_.2.2.1 64 0) t_ k_ < f_ ∨ S_.2.2.1 60 0 (ptn (S_.2.2.1 64 0) t_ k_).toNat ≠ 0 then 2 * (i_shr (S_.2.2.1 63 0 (2 * (t_ / 3) + t_ % 3).toNat) k_ % 2) else i_shr (S_.2.2.1 63 0 (2 * (t_ / 3) + t_ % 3).toNat) k_ % 2) := by unfold ptv; rw [if_neg n2_, if_neg nc]
      rw [e_]
      obtain ⟨x_, hx_⟩ : ∃ x_, x_ = ptn (S_.2.2.1 64 0) t_ k_ := ⟨_, rfl⟩
      obtain ⟨b_, hb_⟩ : ∃ b_, b_ = i_shr (S_.2.2.1 63 0 (2 * (t_ / 3) + t_ % 3).toNat) k_ % 2 := ⟨_, rfl⟩
      unfold ptn at hx_
      rw [← hx_, ← hb_] at p_
      unfold ptn
      rw [← hx_, ← hb_]
      have b1_ : b_ = 0 ∨ b_ = 1 := by omega
      obtain ⟨⟨p1_, p2_, p3_⟩, p4_, p5_⟩ := p_
      have rk_ : grk (S_.2.2.1 62 0) t_ ≥ 3 * (t_ / 3) := (grk_b _ _).1
      by_cases lf_ : x_ < f_ ∨ S_.2.2.1 60 0 x_.toNat ≠ 0
      · rw [if_pos lf_]
        have d1_ : (3 * x_ + 2 * b_) / 3 = x_ := by omega
        have lw_ : lwy f_ (S_.2.2.1 62 0) x_ 0 := by
          by_cases xf_ : x_ < f_
          · exact Or.inl ⟨xf_, rfl⟩
          · right
            have rt_ : S_.2.2.1 60 0 x_.toNat ≠ 0 := lf_.resolve_left xf_
            have w_ := (h_ x_.toNat (by omega) (by omega) p3_).2.2 rt_
            refine ⟨by omega, wal_c h_ hf_ (by omega) (by omega) p3_ (by omega) ?_⟩
            rw [show (2 * x_ + 0).toNat = 2 * x_.toNat by omega]; exact w_
        refine ⟨⟨by omega, by omega, by rw [d1_]; exact p3_, ?_⟩, ?_⟩
        · rw [d1_]
          rcases b1_ with b1_ | b1_
          · right
            rw [show (3 * x_ + 2 * b_) % 3 = 0 by omega]
            exact ⟨by decide, lw_⟩
          · left
            exact ⟨by omega, p4_ ⟨lf_, by omega⟩, lw_⟩
        · have q_ := (grk_b (S_.2.2.1 62 0) (3 * x_ + 2 * b_)).2
          rw [d1_] at q_
          omega
      · rw [if_neg lf_]
        have d1_ : (3 * x_ + b_) / 3 = x_ := by omega
        have d2_ : (3 * x_ + b_) % 3 = b_ := by omega
        have xf_ : f_ ≤ x_ ∧ S_.2.2.1 60 0 x_.toNat = 0 := by omega
        have w_ := p5_ xf_
        refine ⟨⟨by omega, by omega, by rw [d1_]; exact p3_, Or.inr ?_⟩, ?_⟩
        · rw [d1_, d2_]
          exact ⟨by omega, Or.inr ⟨xf_.1, wal_c h_ hf_ xf_.1 (by omega) p3_ (by omega) w_⟩⟩
        · have q_ := (grk_b (S_.2.2.1 62 0) (3 * x_ + b_)).2
          rw [d1_] at q_
          omega
    · have nc : S_.2.2.1 62 0 (2 * (t_ / 3) + t_ % 3).toNat < 0 := by have := g8_.1; omega
      have e_ : ptv f_ (S_.2.2.1 60 0) (S_.2.2.1 62 0) (S_.2.2.1 63 0) (S_.2.2.1 64 0) t_ k_ = 3 * (t_ / 3) + 1 - t_ % 3 := by unfold ptv; rw [if_neg n2_, if_pos nc]
      rw [e_]
      have d1_ : (3 * (t_ / 3) + 1 - t_ % 3) / 3 = t_ / 3 := by omega
      have d2_ : (3 * (t_ / 3) + 1 - t_ % 3) % 3 = 1 - t_ % 3 := by omega
      have w_ := g8_.2.2.2
      have iw_ : 2 * (t_ / 3) + (1 - t_ % 3) = 2 * (t_ / 3) + 1 - t_ % 3 := by omega
      refine ⟨⟨by omega, by omega, by rw [d1_]; exact g3_, Or.inr ⟨by omega, by rw [d1_, d2_]; exact Or.inr ⟨g7_.1, by rw [iw_]; omega⟩⟩⟩, ?_⟩
      have r1_ : grk (S_.2.2.1 62 0) t_ = 3 * (t_ / 3) + 1 := by unfold grk; rw [if_neg n2_, if_pos g8_.1]
      rw [r1_]
      unfold grk
      rw [d1_, d2_, iw_, if_neg (by omega), if_neg (by omega)]
      omega
theorem wok_fr {w_ : sx_Wl} {F_ n_ : Int} {ll_ l_ m_ : Nat} {S_ S'_ : sm_S} (h_ : wok F_ n_ ll_ S_ l_ m_) (g_ : ai_fr (sx_W w_) S_ S'_) (a1_ : (sx_W w_).2.1 61 = false := by rfl) (a2_ : (sx_W w_).2.1 62 = false := by rfl) (a3_ : (sx_W w_).2.1 63 = false := by rfl) (a4_ : (sx_W w_).2.1 64 = false := by rfl) (a5_ : (sx_W w_).2.1 55 = false := by rfl) (a6_ : (sx_W w_).2.1 59 = false := by rfl) (a7_ : (sx_W w_).2.1 60 = false := by rfl) (f5_ : (sx_W w_).1 5 2 = false := by rfl) : wok F_ n_ ll_ S'_ l_ m_ := by
  rcases h_ with h_ | h_
  · exact Or.inl (wo3_fr h_ g_ a1_ a2_ a3_ a4_ a5_ a6_ a7_ f5_)
  · right
    rw [fr_arr g_ a1_, fr_arr g_ a2_, g_.1 5 ll_ 2 f5_]
    exact h_
theorem wal_fr {w_ : sx_Wl} {f_ N_ : Int} {ll_ : Nat} {S_ S'_ : sm_S} (h_ : wal f_ N_ ll_ S_) (g_ : ai_fr (sx_W w_) S_ S'_) (a1_ : (sx_W w_).2.1 61 = false := by rfl) (a2_ : (sx_W w_).2.1 62 = false := by rfl) (a3_ : (sx_W w_).2.1 63 = false := by rfl) (a4_ : (sx_W w_).2.1 64 = false := by rfl) (a5_ : (sx_W w_).2.1 55 = false := by rfl) (a6_ : (sx_W w_).2.1 59 = false := by rfl) (a7_ : (sx_W w_).2.1 60 = false := by rfl) (f5_ : (sx_W w_).1 5 2 = false := by rfl) : wal f_ N_ ll_ S'_ := fun n_ h1_ h2_ h3_ => by
  rw [fr_arr g_ a6_] at h3_
  have q_ := h_ n_ h1_ h2_ h3_
  rw [fr_arr g_ a7_, fr_arr g_ a1_]
  exact ⟨wok_fr q_.1 g_ a1_ a2_ a3_ a4_ a5_ a6_ a7_ f5_, wok_fr q_.2.1 g_ a1_ a2_ a3_ a4_ a5_ a6_ a7_ f5_, q_.2.2⟩
/-! Mapper.partsOf -/
def vw_111 : sx_Wl := ([], [], [])
def vq_111 (a1_ : Int) (ll_ : Nat) (S0_ : sm_S) (u_ : Option sm_V) (S1_ : sm_S) : Prop := S0_ = S1_ ∧ ∃ v_ : Int, u_ = some (.inl v_) ∧ (v_ = pno (S0_.2.2.1 62 0) (S0_.2.2.1 55 (0 + ll_)) a1_ ∧ 0 ≤ v_ ∧ v_ ≤ 3)
set_option maxHeartbeats 400000 in
theorem vc_111 {sc_ : Nat × (Nat → Int)} (a1_ : Int) (ll_ : Nat) (S0_ : sm_S) (hI_ : gi S0_) (hc_ : S0_.2.1 6 0 1 = some ll_) (h1_ : 0 ≤ a1_ ∧ a1_ ≤ 3038) : sm_T (mt_P sc_) 0 111 (0, [some (.inr (.inr (some (6, 0)))), some (.inl a1_), none], [], S0_) (fun ro9_ => ∃ u_ S1_, ro9_ = (.inl u_, S1_, 0) ∧ vq_111 a1_ ll_ S0_ u_ S1_) := by
  have hF_ : ai_fr (sx_W vw_111) S0_ S0_ := ai_fr_rf
  refine sm_T_go 2 (c1 := (2, [some (.inr (.inr (some (6, 0)))), some (.inl a1_), none], [.inl 3, .inl a1_], S0_)) rfl ?_
  refine sm_T_bin (w := (a1_ % 3)) rfl (bi_rem (by omega) (by omega) (by omega) (by omega)) ?_ -- pc_ 2
  refine sm_T_go 1 (c1 := (4, [some (.inr (.inr (some (6, 0)))), some (.inl a1_), none], [.inl 2, .inl (a1_ % 3)], S0_)) rfl ?_
  refine sm_T_br (a := 1) (z := 8) rfl (fun cx1_ => ?_) (fun cx1_ => ?_)
  · have cx1_ : (a1_ % 3) ≠ 2 := of_decide_eq_true cx1_
    refine sm_T_go 5 (c1 := (19, [some (.inr (.inr (some (6, 0)))), some (.inl a1_), none], [.inl 3, .inl a1_, .inl 2, .inr (.inr (some (62, 0)))], S0_)) rfl ?_
    refine sm_T_bin (w := (a1_ / 3)) rfl (bi_div (by omega) (by omega) (by omega) (by omega)) ?_ -- pc_ 19
    refine sm_T_bin (w := 2 * (a1_ / 3)) rfl (bi_mul (by omega) (by omega) (by omega)) ?_ -- pc_ 20
    refine sm_T_go 2 (c1 := (23, [some (.inr (.inr (some (6, 0)))), some (.inl a1_), none], [.inl 3, .inl a1_, .inl (2 * (a1_ / 3)), .inr (.inr (some (62, 0)))], S0_)) rfl ?_
    refine sm_T_bin (w := (a1_ % 3)) rfl (bi_rem (by omega) (by omega) (by omega) (by omega)) ?_ -- pc_ 23
    refine sm_T_bin (w := 2 * (a1_ / 3) + (a1_ % 3)) rfl (bi_add (by omega) (by omega) (by omega)) ?_ -- pc_ 24
    refine sm_T_iald (n := 2026) rfl rfl (by omega) (by omega) ?_
    have bx2_ : (-2) ≤ S0_.2.2.1 62 0 (2 * (a1_ / 3) + (a1_ % 3)).toNat ∧ S0_.2.2.1 62 0 (2 * (a1_ / 3) + (a1_ % 3)).toNat ≤ 11 := hI_.2 62 0 _
    refine sm_T_go 2 (c1 := (28, [some (.inr (.inr (some (6, 0)))), some (.inl a1_), some (.inl (S0_.2.2.1 62 0 (2 * (a1_ / 3) + (a1_ % 3)).toNat))], [.inl (S0_.2.2.1 62 0 (2 * (a1_ / 3) + (a1_ % 3)).toNat)], S0_)) rfl ?_
    refine sm_T_b0 (a := 3) (z := 7) rfl (fun cx3_ => ?_) (fun cx3_ => ?_)
    · have cx3_ : 0 ≤ (S0_.2.2.1 62 0 (2 * (a1_ / 3) + (a1_ % 3)).toNat) := of_decide_eq_true cx3_
      refine sm_T_go 1 (c1 := (36, [some (.inr (.inr (some (6, 0)))), some (.inl a1_), some (.inl (S0_.2.2.1 62 0 (2 * (a1_ / 3) + (a1_ % 3)).toNat))], [.inr (.inr (some (6, 0)))], S0_)) rfl ?_
      refine sm_T_gr rfl rfl ((hF_.2.1 6 0 1 rfl).trans hc_) ?_
      refine sm_T_go 2 (c1 := (43, [some (.inr (.inr (some (6, 0)))), some (.inl a1_), some (.inl (S0_.2.2.1 62 0 (2 * (a1_ / 3) + (a1_ % 3)).toNat))], [.inl (S0_.2.2.1 62 0 (2 * (a1_ / 3) + (a1_ % 3)).toNat), .inr (.inr (some (55, (0 + ll_))))], S0_)) rfl ?_
      refine sm_T_iald (n := 12) rfl rfl (by omega) (by omega) ?_
      have bx4_ : 0 ≤ S0_.2.2.1 55 (0 + ll_) (S0_.2.2.1 62 0 (2 * (a1_ / 3) + (a1_ % 3)).toNat).toNat ∧ S0_.2.2.1 55 (0 + ll_) (S0_.2.2.1 62 0 (2 * (a1_ / 3) + (a1_ % 3)).toNat).toNat ≤ 3 := hI_.2 55 (0 + ll_) _
      refine sm_T_ri rfl ⟨_, _, rfl, rfl, _, rfl, ?_⟩
      refine ⟨?_, by omega⟩
      unfold pno
      first | (rw [if_pos (by omega)]) | (rw [if_neg (by omega), if_pos (by omega)]) | (rw [if_neg (by omega), if_neg (by omega)])
    · have cx3_ : ¬ (0 ≤ (S0_.2.2.1 62 0 (2 * (a1_ / 3) + (a1_ % 3)).toNat)) := of_decide_eq_false cx3_
      refine sm_T_go 2 (c1 := (44, [some (.inr (.inr (some (6, 0)))), some (.inl a1_), some (.inl (S0_.2.2.1 62 0 (2 * (a1_ / 3) + (a1_ % 3)).toNat))], [.inl 1], S0_)) rfl ?_
      refine sm_T_ri rfl ⟨_, _, rfl, rfl, _, rfl, ?_⟩
      refine ⟨?_, by omega⟩
      unfold pno
      first | (rw [if_pos (by omega)]) | (rw [if_neg (by omega), if_pos (by omega)]) | (rw [if_neg (by omega), if_neg (by omega)])
  · have cx1_ : ¬ ((a1_ % 3) ≠ 2) := of_decide_eq_false cx1_
    refine sm_T_go 7 (c1 := (44, [some (.inr (.inr (some (6, 0)))), some (.inl a1_), some (.inl (-2))], [.inl 1], S0_)) rfl ?_
    refine sm_T_ri rfl ⟨_, _, rfl, rfl, _, rfl, ?_⟩
    refine ⟨?_, by omega⟩
    unfold pno
    first | (rw [if_pos (by omega)]) | (rw [if_neg (by omega), if_pos (by omega)]) | (rw [if_neg (by omega), if_neg (by omega)])
