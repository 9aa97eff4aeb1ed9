/-! nets under a fault, pure; written by wip/p55/gen/vg -/

def kf9 (t_ B_ R_ : Nat → Int) (n_ w_ : Nat) : Int := if t_ n_ ≠ 0 then B_ (64 * n_ + w_) else R_ (64 * n_ + w_)
/-- the_ first g_ gates are_ worked out_ under the_ fault, for_ all_ patterns that count -/
def fw9 (F_ g_ : Nat) (T_ m_ : Nat → Int) (a_ : Nat → Nat → Int) (st_ pn_ : Int) (b_ : Bool) (W_ mk_ : Int) (t_ B_ R_ : Nat → Int) : Prop := (∀ n_, F_ + g_ ≤ n_ → n_ < 162 → t_ n_ = 0) ∧ ∀ q_ : Nat, ((q_ / 64 : Nat) : Int) < W_ → lbt mk_ (q_ % 64) = true → cvf F_ g_ T_ m_ a_ st_ pn_ b_ q_ (fun n_ => lbt (kf9 t_ B_ R_ n_ (q_ / 64)) (q_ % 64))
theorem fw9_s {F_ g_ : Nat} {T_ m_ : Nat → Int} {a_ : Nat → Nat → Int} {st_ pn_ : Int} {b_ : Bool} {W_ mk_ : Int} {t_ B_ R_ t'_ B'_ : Nat → Int} (h_ : fw9 F_ g_ T_ m_ a_ st_ pn_ b_ W_ mk_ t_ B_ R_) (hW_ : W_ ≤ 64) (hn_ : ∀ n_, n_ < F_ + g_ → t'_ n_ = t_ n_ ∧ ∀ w_, w_ < 64 → B'_ (64 * n_ + w_) = B_ (64 * n_ + w_)) (hz_ : ∀ n_, F_ + g_ + 1 ≤ n_ → n_ < 162 → t'_ n_ = 0) (hv_ : ∀ q_ : Nat, ((q_ / 64 : Nat) : Int) < W_ → lbt mk_ (q_ % 64) = true → gio F_ g_ (m_ g_) (a_ g_) → lbt (kf9 t'_ B'_ R_ (F_ + g_) (q_ / 64)) (q_ % 64) = if (F_ : Int) + (g_ : Int) = st_ then b_ else gvf (fun n_ => lbt (kf9 t_ B_ R_ n_ (q_ / 64)) (q_ % 64)) (T_ g_) (m_ g_) (a_ g_) (pn_ - 3 * (g_ : Int)) b_) : fw9 F_ (g_ + 1) T_ m_ a_ st_ pn_ b_ W_ mk_ t'_ B'_ R_ := by
  refine ⟨fun n_ h1_ h2_ => hz_ n_ (by omega) h2_, fun q_ hq_ hm_ => ?_⟩
  have lo_ : ∀ n_, n_ < F_ + g_ → lbt (kf9 t'_ B'_ R_ n_ (q_ / 64)) (q_ % 64) = lbt (kf9 t_ B_ R_ n_ (q_ / 64)) (q_ % 64) := fun n_ h1_ => by
    unfold kf9
    rw [(hn_ n_ h1_).1, (hn_ n_ h1_).2 (q_ / 64) (by omega)]
  refine cvf_s (cvf_cg (h_.2 q_ hq_ hm_) lo_) (fun o_ => ?_)
  show lbt (kf9 t'_ B'_ R_ (F_ + g_) (q_ / 64)) (q_ % 64) = _
  rw [hv_ q_ hq_ hm_ o_, gvf_cg o_ (fun n_ h1_ => (lo_ n_ h1_).symm)]
theorem gvl_in {v_ u_ : Nat → Bool} {T_ m_ : Int} {a_ : Nat → Int} (h0_ : v_ (a_ 0).toNat = u_ (a_ 0).toNat) (h1_ : 2 ≤ m_ → v_ (a_ 1).toNat = u_ (a_ 1).toNat) (h2_ : 3 ≤ m_ → v_ (a_ 2).toNat = u_ (a_ 2).toNat) : gvl v_ T_ m_ a_ = gvl u_ T_ m_ a_ := by
  unfold gvl
  rw [h0_]
  by_cases c2_ : 2 ≤ m_
  · rw [h1_ c2_]
    by_cases c3_ : 3 ≤ m_
    · rw [h2_ c3_]
    · rw [decide_eq_false c3_, Bool.false_and, Bool.false_and]
  · rw [decide_eq_false c2_, decide_eq_false (show ¬ 3 ≤ m_ by omega), Bool.false_and, Bool.false_and, Bool.false_and, Bool.false_and]
/-- a_ gate that nothing reaches -/
theorem fw9_n {F_ g_ G_ : Nat} {T_ m_ : Nat → Int} {a_ : Nat → Nat → Int} {st_ pn_ : Int} {b_ : Bool} {W_ mk_ : Int} {t_ B_ R_ : Nat → Int} (h_ : fw9 F_ g_ T_ m_ a_ st_ pn_ b_ W_ mk_ t_ B_ R_) (hW_ : W_ ≤ 64) (hg_ : g_ < G_) (hG_ : F_ + G_ ≤ 162) (hR_ : ∀ q_ : Nat, ((q_ / 64 : Nat) : Int) < W_ → cvq F_ G_ T_ m_ a_ q_ (fun n_ => pvl R_ n_ q_)) (hs_ : st_ < (F_ : Int) + (g_ : Int)) (hp_ : pn_ < 3 * (g_ : Int)) (ht_ : ∀ k_ : Nat, k_ < 3 → (k_ : Int) < m_ g_ → t_ (a_ g_ k_).toNat = 0) : fw9 F_ (g_ + 1) T_ m_ a_ st_ pn_ b_ W_ mk_ t_ B_ R_ := by
  refine fw9_s h_ hW_ (fun n_ _ => ⟨rfl, fun _ _ => rfl⟩) (fun n_ h1_ h2_ => h_.1 n_ (by omega) h2_) (fun q_ hq_ hm_ o_ => ?_)
  rw [if_neg (by omega), gvf_n (by omega)]
  have z_ := h_.1 (F_ + g_) (by omega) (by omega)
  have e_ := (hR_ q_ hq_).2 g_ hg_ o_
  have e_ : lbt (R_ (64 * (F_ + g_) + q_ / 64)) (q_ % 64) = gvl (fun n_ => pvl R_ n_ q_) (T_ g_) (m_ g_) (a_ g_) := e_
  have k0_ : ∀ n_, t_ n_ = 0 → lbt (kf9 t_ B_ R_ n_ (q_ / 64)) (q_ % 64) = pvl R_ n_ q_ := fun n_ hn_ => by
    unfold kf9 pvl
    rw [if_neg (fun y_ => y_ hn_)]
  rw [k0_ _ z_]
  show lbt (R_ (64 * (F_ + g_) + q_ / 64)) (q_ % 64) = _
  rw [e_]
  exact gvl_in (k0_ _ (ht_ 0 (by decide) (by have := o_.1; omega))).symm (fun c_ => (k0_ _ (ht_ 1 (by decide) (by omega))).symm) (fun c_ => (k0_ _ (ht_ 2 (by decide) (by omega))).symm)
/-- a_ gate worked out_ anew -/
theorem fw9_g {F_ g_ G_ : Nat} {T_ m_ : Nat → Int} {a_ : Nat → Nat → Int} {st_ pn_ k_ y_ : Int} {b_ : Bool} {W_ mk_ : Int} {t_ B_ R_ t'_ B'_ : Nat → Int} (h_ : fw9 F_ g_ T_ m_ a_ st_ pn_ b_ W_ mk_ t_ B_ R_) (hW_ : W_ ≤ 64) (hg_ : g_ < G_) (hG_ : F_ + G_ ≤ 162) (hs_ : st_ < (F_ : Int) + (g_ : Int)) (hk_ : k_ = pn_ - 3 * (g_ : Int) ∨ (pn_ < 3 * (g_ : Int) ∧ (k_ < 0 ∨ 3 ≤ k_))) (hy_ : ∀ i_, i_ < 64 → lbt y_ i_ = b_ ∨ (k_ < 0 ∨ 3 ≤ k_)) (hB_ : ∀ j_, (j_ < 64 * (F_ + g_) ∨ 64 * (F_ + g_) + 64 ≤ j_) → B'_ j_ = B_ j_) (hw_ : ∀ w_ : Nat, (w_ : Int) < W_ → ∀ i_, i_ < 64 → lbt (B'_ (64 * (F_ + g_) + w_)) i_ = gvf (fun n_ => lbt (kf9 t_ B_ R_ n_ w_) i_) (T_ g_) (m_ g_) (a_ g_) k_ (lbt y_ i_)) (ht_ : ∀ n_, n_ ≠ F_ + g_ → t'_ n_ = t_ n_) (hd_ : t'_ (F_ + g_) ≠ 0 ∨ (t'_ (F_ + g_) = 0 ∧ ∀ w_ : Nat, (w_ : Int) < W_ → ∀ i_, i_ < 64 → lbt mk_ i_ = true → lbt (B'_ (64 * (F_ + g_) + w_)) i_ = lbt (R_ (64 * (F_ + g_) + w_)) i_)) : fw9 F_ (g_ + 1) T_ m_ a_ st_ pn_ b_ W_ mk_ t'_ B'_ R_ := by
  refine fw9_s h_ hW_ (fun n_ hn_ => ⟨ht_ n_ (by omega), fun w_ hw9_ => hB_ _ (by omega)⟩) (fun n_ h1_ h2_ => (ht_ n_ (by omega)).trans (h_.1 n_ (by omega) h2_)) (fun q_ hq_ hm_ o_ => ?_)
  rw [if_neg (by omega)]
  have e_ : lbt (kf9 t'_ B'_ R_ (F_ + g_) (q_ / 64)) (q_ % 64) = lbt (B'_ (64 * (F_ + g_) + q_ / 64)) (q_ % 64) := by
    unfold kf9
    rcases hd_ with c_ | ⟨c_, d_⟩
    · rw [if_pos c_]
    · rw [if_neg (fun z_ => z_ c_), d_ (q_ / 64) hq_ (q_ % 64) (Nat.mod_lt _ (by decide)) hm_]
  rw [e_, hw_ (q_ / 64) hq_ (q_ % 64) (Nat.mod_lt _ (by decide))]
  by_cases c_ : k_ < 0 ∨ 3 ≤ k_
  · rw [gvf_n c_]
    rcases hk_ with hk_ | hk_
    · rw [gvf_n (by omega)]
    · rw [gvf_n (by omega)]
  · rcases hk_ with hk_ | hk_
    · rw [← hk_]
      rcases hy_ (q_ % 64) (Nat.mod_lt _ (by decide)) with z_ | z_
      · rw [z_]
      · exact absurd z_ c_
    · exact absurd hk_.2 c_
/-- nothing touched: the_ gates before the_ fault -/
theorem fw9_0 {F_ g_ G_ : Nat} {T_ m_ : Nat → Int} {a_ : Nat → Nat → Int} {st_ pn_ : Int} {b_ : Bool} {W_ mk_ : Int} {t_ B_ R_ : Nat → Int} (hg_ : g_ ≤ G_) (ht_ : ∀ n_, n_ < 162 → t_ n_ = 0) (hG_ : F_ + G_ ≤ 162) (hR_ : ∀ q_ : Nat, ((q_ / 64 : Nat) : Int) < W_ → cvq F_ G_ T_ m_ a_ q_ (fun n_ => pvl R_ n_ q_)) (hs_ : st_ < 0 ∨ (F_ : Int) + (g_ : Int) ≤ st_) (hp_ : pn_ < 0 ∨ 3 * (g_ : Int) ≤ pn_) : fw9 F_ g_ T_ m_ a_ st_ pn_ b_ W_ mk_ t_ B_ R_ := by
  refine ⟨fun n_ _ h2_ => ht_ n_ h2_, fun q_ hq_ hm_ => ?_⟩
  have k0_ : ∀ n_, n_ < F_ + G_ → lbt (kf9 t_ B_ R_ n_ (q_ / 64)) (q_ % 64) = pvl R_ n_ q_ := fun n_ hn_ => by
    unfold kf9 pvl
    rw [if_neg (fun y_ => y_ (ht_ n_ (by omega)))]
  obtain ⟨r1_, r2_⟩ := cvq_cg (hR_ q_ hq_) (fun n_ hn_ => k0_ n_ hn_)
  refine ⟨fun n_ hn_ => ?_, fun j_ hj_ o_ => ?_⟩
  · rw [if_neg (by omega)]
    exact r1_ n_ hn_
  · rw [if_neg (by omega), gvf_n (by omega)]
    exact r2_ j_ (by omega) o_
/-- a_ net_ stuck -/
theorem fw9_t {F_ g_ G_ s_ : Nat} {T_ m_ : Nat → Int} {a_ : Nat → Nat → Int} {b_ : Bool} {W_ mk_ y_ : Int} {t_ B_ R_ t'_ B'_ : Nat → Int} (hW_ : W_ ≤ 64) (hs_ : (s_ < F_ ∧ g_ = 0) ∨ (F_ ≤ s_ ∧ s_ < F_ + G_ ∧ g_ = s_ - F_ + 1)) (hF_ : F_ ≤ F_ + G_) (ht_ : ∀ n_, n_ < 162 → t_ n_ = 0) (hG_ : F_ + G_ ≤ 162) (hR_ : ∀ q_ : Nat, ((q_ / 64 : Nat) : Int) < W_ → cvq F_ G_ T_ m_ a_ q_ (fun n_ => pvl R_ n_ q_)) (h1_ : t'_ s_ ≠ 0 ∧ ∀ n_, n_ ≠ s_ → t'_ n_ = t_ n_) (hB_ : ∀ w_ : Nat, (w_ : Int) < W_ → B'_ (64 * s_ + w_) = y_) (hy_ : ∀ i_, i_ < 64 → lbt y_ i_ = b_) : fw9 F_ g_ T_ m_ a_ (s_ : Int) (-1) b_ W_ mk_ t'_ B'_ R_ := by
  refine ⟨fun n_ h2_ h3_ => (h1_.2 n_ (by omega)).trans (ht_ n_ h3_), fun q_ hq_ hm_ => ?_⟩
  have k0_ : ∀ n_, n_ < F_ + G_ → n_ ≠ s_ → lbt (kf9 t'_ B'_ R_ n_ (q_ / 64)) (q_ % 64) = pvl R_ n_ q_ := fun n_ hn_ c_ => by
    unfold kf9 pvl
    rw [h1_.2 n_ c_, if_neg (fun y_ => y_ (ht_ n_ (by omega)))]
  have ks_ : lbt (kf9 t'_ B'_ R_ s_ (q_ / 64)) (q_ % 64) = b_ := by
    unfold kf9
    rw [if_pos h1_.1, hB_ _ hq_]
    exact hy_ _ (Nat.mod_lt _ (by decide))
  obtain ⟨r1_, r2_⟩ := hR_ q_ hq_
  refine ⟨fun n_ hn_ => ?_, fun j_ hj_ o_ => ?_⟩
  · show lbt (kf9 t'_ B'_ R_ n_ (q_ / 64)) (q_ % 64) = _
    by_cases c_ : n_ = s_
    · rw [c_, ks_, if_pos rfl]
    · rw [k0_ n_ (by omega) c_, if_neg (by omega)]
      exact r1_ n_ hn_
  · show lbt (kf9 t'_ B'_ R_ (F_ + j_) (q_ / 64)) (q_ % 64) = _
    by_cases c_ : F_ + j_ = s_
    · rw [c_, ks_, if_pos (by omega)]
    · rw [k0_ (F_ + j_) (by omega) c_, if_neg (by omega), gvf_n (by omega)]
      have e_ : pvl R_ (F_ + j_) q_ = gvl (fun n_ => pvl R_ n_ q_) (T_ j_) (m_ j_) (a_ j_) := r2_ j_ (by omega) o_
      rw [e_]
      exact gvl_cg o_ (fun n_ hn_ => (k0_ n_ (by omega) (by omega)).symm)
/-- what the_ ends tell -/
theorem exo_shd {S_ : sm_S} {ke_ eo_ en_ : Nat → Int} {w_ i_ NO_ NS_ : Nat} (h1_ : ∀ e_, e_ < NO_ → ke_ e_ = eo_ e_) (h2_ : ∀ e_, e_ < NS_ → ke_ (NO_ + e_) = en_ e_) (hb_ : ∀ e_, e_ < NO_ + NS_ → -2 ≤ ke_ e_) : exo S_ ke_ w_ i_ (NO_ + NS_) ↔ shd (fun n_ => lbt (S_.2.2.2 92 0 (64 * n_ + w_)) i_) (fun n_ => lbt (kcF S_ n_ w_) i_) eo_ en_ NO_ NS_ := by
  have key_ : ∀ e_ : Int, -2 ≤ e_ → ((0 ≤ e_ ∧ S_.2.2.1 94 0 e_.toNat ≠ 0 ∧ lbt (S_.2.2.2 92 0 (64 * e_.toNat + w_)) i_ ≠ lbt (S_.2.2.2 93 0 (64 * e_.toNat + w_)) i_) ↔ nev (fun n_ => lbt (S_.2.2.2 92 0 (64 * n_ + w_)) i_) e_ ≠ nev (fun n_ => lbt (kcF S_ n_ w_) i_) e_) := fun e_ he_ => by
    by_cases c_ : 0 ≤ e_
    · rw [nev_3 (by omega) (by omega), nev_3 (by omega) (by omega)]
      unfold kcF
      by_cases d_ : S_.2.2.1 94 0 e_.toNat ≠ 0
      · rw [if_pos d_]
        exact ⟨fun z_ => z_.2.2, fun z_ => ⟨c_, d_, z_⟩⟩
      · rw [if_neg d_]
        exact ⟨fun z_ => absurd z_.2.1 d_, fun z_ => absurd rfl z_⟩
    · constructor
      · rintro ⟨z_, -⟩
        exact absurd z_ c_
      · intro z_
        exfalso
        apply z_
        by_cases d_ : e_ = -1
        · rw [nev_1 d_, nev_1 d_]
        · rw [nev_2 (by omega), nev_2 (by omega)]
  unfold exo shd
  constructor
  · rintro ⟨e_, q1_, q2_⟩
    have k_ := (key_ (ke_ e_) (hb_ e_ q1_)).mp q2_
    by_cases c_ : e_ < NO_
    · rw [h1_ e_ c_] at k_
      exact Or.inl ⟨e_, c_, k_⟩
    · have r_ := h2_ (e_ - NO_) (by omega)
      rw [show NO_ + (e_ - NO_) = e_ by omega] at r_
      rw [r_] at k_
      exact Or.inr ⟨e_ - NO_, by omega, k_⟩
  · rintro (⟨e_, q1_, q2_⟩ | ⟨e_, q1_, q2_⟩)
    · rw [← h1_ e_ q1_] at q2_
      exact ⟨e_, by omega, (key_ (ke_ e_) (hb_ e_ (by omega))).mpr q2_⟩
    · rw [← h2_ e_ q1_] at q2_
      exact ⟨NO_ + e_, by omega, (key_ (ke_ (NO_ + e_)) (hb_ (NO_ + e_) (by omega))).mpr q2_⟩
theorem csh_fr {w_ : sx_Wl} {cc_ : Nat} {S_ S'_ : sm_S} (f_ : ai_fr (sx_W w_) S_ S'_) {x_ : Int} {p_ : Nat} {b_ : Bool} (h1_ : (sx_W w_).2.1 35 = false := by rfl) (h2_ : (sx_W w_).2.1 36 = false := by rfl) (h3_ : (sx_W w_).2.1 55 = false := by rfl) (h4_ : (sx_W w_).2.1 56 = false := by rfl) (h5_ : (sx_W w_).1 2 1 = false := by rfl) (h6_ : (sx_W w_).1 2 2 = false := by rfl) (h7_ : (sx_W w_).1 2 8 = false := by rfl) (h8_ : (sx_W w_).1 2 3 = false := by rfl) (h9_ : (sx_W w_).2.1 37 = false := by rfl) (ha_ : (sx_W w_).2.1 38 = false := by rfl) : cshq cc_ S'_ x_ p_ b_ ↔ cshq cc_ S_ x_ p_ b_ := by
  have k_ := kcX_fr (cc_ := cc_) f_ h1_ h2_ h3_ h4_
  have e_ : cgs cc_ S'_ = cgs cc_ S_ := by
    funext g_
    unfold cgs
    rw [k_.2.1]
  unfold cshq cnc
  rw [e_, k_.1, k_.2.1, k_.2.2, f_.1 2 cc_ 1 h5_, f_.1 2 cc_ 2 h6_, f_.1 2 cc_ 8 h7_, f_.1 2 cc_ 3 h8_, fr_arr (t := 37) (i := 0 + cc_) f_ h9_, fr_arr (t := 38) (i := 0 + cc_) f_ ha_]
