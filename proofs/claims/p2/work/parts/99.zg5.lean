/-! rows of values; written by wip/p55/gen/vg -/

/-! rows of_ 64 values -/
def lcn (x_ : Int) : Prop := (Int64.ofInt x_).toInt = x_
theorem lcn_3 {x_ y_ : Int} : lcn (l_3 x_ y_) := by
  unfold lcn l_3
  rw [Int64.ofInt_toInt]
theorem lcn_5 {x_ y_ : Int} : lcn (l_5 x_ y_) := by
  unfold lcn l_5
  rw [Int64.ofInt_toInt]
theorem l3_dm {x_ y_ m_ : Int} : l_3 (l_3 x_ y_) m_ = l_3 (l_3 x_ m_) (l_3 y_ m_) := by
  unfold l_3
  simp only [Int64.ofInt_toInt]
  congr 1
  rw [Int64.and_assoc, Int64.and_assoc, Int64.and_comm (Int64.ofInt m_) (Int64.ofInt y_ &&& Int64.ofInt m_), Int64.and_assoc, Int64.and_self]
theorem l3_id {x_ m_ : Int} : l_3 (l_3 x_ m_) m_ = l_3 x_ m_ := by
  unfold l_3
  simp only [Int64.ofInt_toInt]
  rw [Int64.and_assoc, Int64.and_self]
theorem l5_0 {x_ : Int} (h_ : lcn x_) : l_5 x_ 0 = x_ := by
  unfold l_5
  rw [show Int64.ofInt 0 = 0 from rfl, Int64.xor_zero]
  exact h_
theorem l5_z {x_ : Int} (h_ : lcn x_) : l_5 0 x_ = x_ := by
  unfold l_5
  rw [show Int64.ofInt 0 = 0 from rfl, Int64.zero_xor]
  exact h_
theorem l5_5 {x_ m_ : Int} (h_ : lcn x_) : l_5 (l_5 x_ m_) m_ = x_ := by
  unfold l_5
  simp only [Int64.ofInt_toInt]
  rw [Int64.xor_assoc, Int64.xor_self, Int64.xor_zero]
  exact h_
theorem l5_self {x_ : Int} : l_5 x_ x_ = 0 := by
  unfold l_5
  rw [Int64.xor_self]
  rfl
theorem l5_c {x_ y_ : Int} : l_5 x_ y_ = l_5 y_ x_ := by
  unfold l_5
  rw [Int64.xor_comm]
theorem l3_0 {x_ : Int} : l_3 0 x_ = 0 := by
  unfold l_3
  rw [show Int64.ofInt 0 = 0 from rfl, Int64.zero_and]
  rfl
theorem l3_c {x_ y_ : Int} : l_3 x_ y_ = l_3 y_ x_ := by
  unfold l_3
  rw [Int64.and_comm]
theorem l3_self {x_ : Int} (h_ : lcn x_) : l_3 x_ x_ = x_ := by
  unfold l_3
  rw [Int64.and_self]
  exact h_
theorem i64_ax (x_ y_ z_ : Int64) : (x_ ^^^ y_) &&& z_ = (x_ &&& z_) ^^^ (y_ &&& z_) := by
  apply Int64.toBitVec_inj.mp
  simp only [Int64.toBitVec_and, Int64.toBitVec_xor]
  apply BitVec.eq_of_getElem_eq
  intro i9_ hi9_
  simp only [BitVec.getElem_and, BitVec.getElem_xor]
  cases x_.toBitVec[i9_] <;> cases y_.toBitVec[i9_] <;> cases z_.toBitVec[i9_] <;> rfl
/-- turned and cut_ off_: what is_ cut_ off_ before doesn't matter -/
theorem l3_tm {x_ m_ : Int} (hm_ : lcn m_) (hx_ : l_3 x_ m_ = x_) : l_3 (l_5 x_ (-1)) m_ = l_5 x_ m_ := by
  unfold l_3 l_5 at *
  simp only [Int64.ofInt_toInt]
  rw [i64_ax, show Int64.ofInt (-1) = -1 from rfl, Int64.and_comm (-1) _, Int64.and_neg_one]
  congr 2
  rw [← hx_, Int64.ofInt_toInt, Int64.and_assoc, Int64.and_self]
theorem l3_tn {x_ m_ : Int} (hm_ : lcn m_) : l_3 (l_5 x_ (-1)) m_ = l_5 (l_3 x_ m_) m_ := by
  unfold l_3 l_5 at *
  simp only [Int64.ofInt_toInt]
  rw [i64_ax, show Int64.ofInt (-1) = -1 from rfl, Int64.and_comm (-1) _, Int64.and_neg_one]
/-- a_ row_ and its_ opposite have nothing in common -/
theorem l3_op {x_ m_ : Int} (hx_ : l_3 x_ m_ = x_) : l_3 x_ (l_5 x_ m_) = 0 := by
  unfold l_3 l_5 at *
  simp only [Int64.ofInt_toInt]
  rw [Int64.and_comm, i64_ax, Int64.and_self, Int64.and_comm (Int64.ofInt m_) _]
  have e_ : Int64.ofInt x_ &&& Int64.ofInt m_ = Int64.ofInt x_ := by
    have q_ := congrArg Int64.ofInt hx_
    rw [Int64.ofInt_toInt] at q_
    exact q_
  rw [e_, Int64.xor_self]
  rfl
theorem l3_5m {x_ m_ : Int} (hx_ : l_3 x_ m_ = x_) (hm_ : lcn m_) : l_3 (l_5 x_ m_) m_ = l_5 x_ m_ := by
  unfold l_3 l_5 at *
  simp only [Int64.ofInt_toInt]
  rw [i64_ax, Int64.and_self]
  congr 2
  have q_ := congrArg Int64.ofInt hx_
  rw [Int64.ofInt_toInt] at q_
  exact q_
/-- what a_ row_ of_ values may_ be_ told by -/
def tmk (m_ t_ : Int) : Prop := t_ = 0 ∨ t_ = m_
/-- a_ literal's row_, cut_ off_ -/
def wlt (R_ : Nat → Int) (l_ : Int) (w_ : Nat) : Int := if l_ % 2 = 0 then R_ (64 * (l_ / 2).toNat + w_) else l_5 (R_ (64 * (l_ / 2).toNat + w_)) (-1)
def lik (W_ : Nat) (R_ : Nat → Int) (a_ b_ : Nat) (t_ : Int) : Prop := ∀ w_, w_ < W_ → R_ (64 * a_ + w_) = l_5 (R_ (64 * b_ + w_)) t_
def rok (W_ : Nat) (m_ : Int) (R_ : Nat → Int) (a_ : Nat) : Prop := ∀ w_, w_ < W_ → l_3 (R_ (64 * a_ + w_)) m_ = R_ (64 * a_ + w_)
theorem rok_c {W_ a_ : Nat} {m_ : Int} {R_ : Nat → Int} (h_ : rok W_ m_ R_ a_) : ∀ w_, w_ < W_ → lcn (R_ (64 * a_ + w_)) := fun w_ hw_ => by
  rw [← h_ w_ hw_]
  exact lcn_3
theorem tmk_x {m_ t_ : Int} (hm_ : lcn m_) (ht_ : tmk m_ t_) : tmk m_ (l_5 t_ m_) := by
  rcases ht_ with e_ | e_
  · rw [e_]; exact Or.inr (l5_z hm_)
  · rw [e_]; exact Or.inl l5_self
theorem l5_as {x_ y_ z_ : Int} : l_5 (l_5 x_ y_) z_ = l_5 x_ (l_5 y_ z_) := by
  unfold l_5
  simp only [Int64.ofInt_toInt]
  rw [Int64.xor_assoc]
theorem wlt_l {W_ p_ : Nat} {m_ t_ l_ : Int} {R_ : Nat → Int} (hm_ : lcn m_) (ho_ : rok W_ m_ R_ (l_ / 2).toNat) (ht_ : tmk m_ t_) (h_ : lik W_ R_ (l_ / 2).toNat p_ t_) : ∃ t'_, tmk m_ t'_ ∧ ∀ w_, w_ < W_ → l_3 (wlt R_ l_ w_) m_ = l_5 (R_ (64 * p_ + w_)) t'_ := by
  by_cases q_ : l_ % 2 = 0
  · refine ⟨t_, ht_, fun w_ hw_ => ?_⟩
    unfold wlt
    rw [if_pos q_, ho_ w_ hw_, h_ w_ hw_]
  · refine ⟨l_5 t_ m_, tmk_x hm_ ht_, fun w_ hw_ => ?_⟩
    unfold wlt
    rw [if_neg q_, l3_tm hm_ (ho_ w_ hw_), h_ w_ hw_, l5_as]
/-- an_ AND_ of_ rows that stand for_ one_ row_, or for_ nothing, is_ like one_ that is_ there -/
theorem and_like {W_ n_ p_ q_ z_ : Nat} {m_ t1_ t2_ : Int} {R_ : Nat → Int} {X_ Y_ : Nat → Int} (hm_ : lcn m_) (hp_ : rok W_ m_ R_ p_) (hq_ : rok W_ m_ R_ q_) (hz_ : ∀ w_, w_ < W_ → R_ (64 * z_ + w_) = 0) (h1_ : tmk m_ t1_) (h2_ : tmk m_ t2_) (hX_ : ∀ w_, w_ < W_ → X_ w_ = l_5 (R_ (64 * p_ + w_)) t1_) (hY_ : ∀ w_, w_ < W_ → Y_ w_ = l_5 (R_ (64 * q_ + w_)) t2_) (hR_ : ∀ w_, w_ < W_ → R_ (64 * n_ + w_) = l_3 (X_ w_) (Y_ w_)) (hc_ : p_ = z_ ∨ q_ = z_ ∨ p_ = q_) : (∃ t_, tmk m_ t_ ∧ lik W_ R_ n_ z_ t_) ∨ (∃ t_, tmk m_ t_ ∧ lik W_ R_ n_ p_ t_) ∨ ∃ t_, tmk m_ t_ ∧ lik W_ R_ n_ q_ t_ := by
  have key_ : ∀ {a_ b_ : Nat} {s1_ s2_ : Int} {U_ V_ : Nat → Int}, rok W_ m_ R_ b_ → (∀ w_, w_ < W_ → R_ (64 * a_ + w_) = 0) → tmk m_ s1_ → tmk m_ s2_ → (∀ w_, w_ < W_ → U_ w_ = l_5 (R_ (64 * a_ + w_)) s1_) → (∀ w_, w_ < W_ → V_ w_ = l_5 (R_ (64 * b_ + w_)) s2_) → (∀ w_, w_ < W_ → R_ (64 * n_ + w_) = l_3 (U_ w_) (V_ w_)) → (∃ t_, tmk m_ t_ ∧ lik W_ R_ n_ a_ t_) ∨ ∃ t_, tmk m_ t_ ∧ lik W_ R_ n_ b_ t_ := by
    intro a_ b_ s1_ s2_ U_ V_ hb_ ha_ k1_ k2_ hU_ hV_ hU2_
    rcases k1_ with e_ | e_
    · refine Or.inl ⟨0, Or.inl rfl, fun w_ hw_ => ?_⟩
      rw [hU2_ w_ hw_, hU_ w_ hw_, ha_ w_ hw_, e_, l5_self, l3_0]
    · refine Or.inr ⟨s2_, k2_, fun w_ hw_ => ?_⟩
      rw [hU2_ w_ hw_, hU_ w_ hw_, ha_ w_ hw_, e_, l5_z hm_, hV_ w_ hw_]
      rcases k2_ with f_ | f_
      · rw [f_, l5_0 (rok_c hb_ w_ hw_), l3_c, hb_ w_ hw_]
      · rw [f_, l3_c, l3_5m (hb_ w_ hw_) hm_]
  rcases hc_ with e_ | e_ | e_
  · rcases key_ (a_ := p_) (b_ := q_) hq_ (by rw [e_]; exact hz_) h1_ h2_ hX_ hY_ hR_ with k_ | k_
    · exact Or.inr (Or.inl k_)
    · exact Or.inr (Or.inr k_)
  · rcases key_ (a_ := q_) (b_ := p_) hp_ (by rw [e_]; exact hz_) h2_ h1_ hY_ hX_ (fun w_ hw_ => by rw [hR_ w_ hw_, l3_c]) with k_ | k_
    · exact Or.inr (Or.inr k_)
    · exact Or.inr (Or.inl k_)
  · subst e_
    rcases h1_ with e1_ | e1_
    · rcases h2_ with e2_ | e2_
      · refine Or.inr (Or.inl ⟨0, Or.inl rfl, fun w_ hw_ => ?_⟩)
        rw [hR_ w_ hw_, hX_ w_ hw_, hY_ w_ hw_, e1_, e2_, l5_0 (rok_c hp_ w_ hw_), l3_self (rok_c hp_ w_ hw_)]
      · refine Or.inl ⟨0, Or.inl rfl, fun w_ hw_ => ?_⟩
        rw [hR_ w_ hw_, hX_ w_ hw_, hY_ w_ hw_, e1_, e2_, l5_0 (rok_c hp_ w_ hw_), l3_op (hp_ w_ hw_), hz_ w_ hw_, l5_self]
    · rcases h2_ with e2_ | e2_
      · refine Or.inl ⟨0, Or.inl rfl, fun w_ hw_ => ?_⟩
        rw [hR_ w_ hw_, hX_ w_ hw_, hY_ w_ hw_, e1_, e2_, l5_0 (rok_c hp_ w_ hw_), l3_c, l3_op (hp_ w_ hw_), hz_ w_ hw_, l5_self]
      · refine Or.inr (Or.inl ⟨m_, Or.inr rfl, fun w_ hw_ => ?_⟩)
        rw [hR_ w_ hw_, hX_ w_ hw_, hY_ w_ hw_, e1_, e2_, l3_self lcn_5]
/-! the_ table of_ rows: open addressing -/
def nem (u_ : Nat → Int) : Nat → Int := fun j_ => if u_ j_ = -1 then 0 else 1
def bks (P_ : Nat → Prop) (K_ : Nat) (H_ : Nat → Nat) (u_ : Nat → Int) : Prop := (∀ j_, j_ < 4096 → u_ j_ = -1 ∨ ∃ m_, P_ m_ ∧ u_ j_ = (m_ : Int)) ∧ (∀ m_, P_ m_ → ∃ j_, j_ < 4096 ∧ u_ ((H_ m_ + j_) % 4096) = (m_ : Int) ∧ ∀ i_, i_ < j_ → u_ ((H_ m_ + i_) % 4096) ≠ -1) ∧ cn1 (nem u_) 4096 ≤ K_
theorem md_su (h_ q_ : Nat) (hq_ : q_ < 4096) : ∃ i_, i_ < 4096 ∧ (h_ + i_) % 4096 = q_ := ⟨(q_ + 4096 - h_ % 4096) % 4096, by omega, by omega⟩
theorem bks_end {P_ : Nat → Prop} {K_ h_ : Nat} {H_ : Nat → Nat} {u_ : Nat → Int} (hb_ : bks P_ K_ H_ u_) (hK_ : K_ < 4096) (hn_ : ∀ i_, i_ < 4096 → u_ ((h_ + i_) % 4096) ≠ -1) : False := by
  have e_ : cn1 (nem u_) 4096 = 4096 := cn1_all (fun k_ hk_ => by
    obtain ⟨i_, hi_, e_⟩ := md_su h_ k_ hk_
    have q_ := hn_ i_ hi_
    rw [e_] at q_
    exact if_neg q_)
  have := hb_.2.2
  omega
theorem bks_put {P_ : Nat → Prop} {K_ j_ n_ : Nat} {H_ : Nat → Nat} {u_ w_ : Nat → Int} (hb_ : bks P_ K_ H_ u_) (hj_ : j_ < 4096) (h1_ : ∀ i_, i_ < j_ → u_ ((H_ n_ + i_) % 4096) ≠ -1) (h2_ : u_ ((H_ n_ + j_) % 4096) = -1) (hw_ : ∀ k_, w_ k_ = if k_ = (H_ n_ + j_) % 4096 then (n_ : Int) else u_ k_) : bks (fun m_ => P_ m_ ∨ m_ = n_) (K_ + 1) H_ w_ := by
  have hz_ : ∀ k_, u_ k_ ≠ -1 → w_ k_ = u_ k_ := fun k_ z_ => by
    rw [hw_ k_, if_neg (fun e_ => z_ (by rw [e_]; exact h2_))]
  refine ⟨fun k_ hk_ => ?_, fun m_ hm_ => ?_, ?_⟩
  · rw [hw_ k_]
    by_cases e_ : k_ = (H_ n_ + j_) % 4096
    · rw [if_pos e_]
      exact Or.inr ⟨n_, Or.inr rfl, rfl⟩
    · rw [if_neg e_]
      rcases hb_.1 k_ hk_ with q_ | ⟨m_, q1_, q2_⟩
      · exact Or.inl q_
      · exact Or.inr ⟨m_, Or.inl q1_, q2_⟩
  · rcases hm_ with hm_ | hm_
    · obtain ⟨i_, q1_, q2_, q3_⟩ := hb_.2.1 m_ hm_
      exact ⟨i_, q1_, by rw [hz_ _ (by rw [q2_]; omega)]; exact q2_, fun i9_ h9_ => by rw [hz_ _ (q3_ i9_ h9_)]; exact q3_ i9_ h9_⟩
    · subst hm_
      exact ⟨j_, hj_, by rw [hw_ _, if_pos rfl], fun i9_ h9_ => by rw [hz_ _ (h1_ i9_ h9_)]; exact h1_ i9_ h9_⟩
  · have e_ := cn1_up (f := nem u_) (g := nem w_) (j := (H_ n_ + j_) % 4096) (by unfold nem; rw [if_pos h2_]; decide) (by unfold nem; rw [hw_ _, if_pos rfl, if_neg (by omega)]) (fun k_ hk_ => by unfold nem; rw [hw_ k_, if_neg hk_]) (n := 4096) (by omega)
    have := hb_.2.2
    omega
theorem bks_cg {P_ Q_ : Nat → Prop} {K_ L_ : Nat} {H_ I_ : Nat → Nat} {u_ : Nat → Int} (hb_ : bks P_ K_ H_ u_) (hP_ : ∀ m_, P_ m_ ↔ Q_ m_) (hK_ : K_ ≤ L_) (hH_ : ∀ m_, P_ m_ → H_ m_ = I_ m_) : bks Q_ L_ I_ u_ := by
  refine ⟨fun j_ hj_ => ?_, fun m_ hm_ => ?_, Nat.le_trans hb_.2.2 hK_⟩
  · rcases hb_.1 j_ hj_ with q_ | ⟨m_, q1_, q2_⟩
    · exact Or.inl q_
    · exact Or.inr ⟨m_, (hP_ m_).mp q1_, q2_⟩
  · rw [← hH_ m_ ((hP_ m_).mpr hm_)]
    exact hb_.2.1 m_ ((hP_ m_).mpr hm_)
/-- not found means that there is_ none -/
theorem bks_no {P_ : Nat → Prop} {K_ j_ h_ : Nat} {H_ : Nat → Nat} {u_ : Nat → Int} {L_ : Nat → Prop} (hb_ : bks P_ K_ H_ u_) (h1_ : ∀ i_, i_ < j_ → ∀ m_ : Nat, u_ ((h_ + i_) % 4096) = (m_ : Int) → ¬ L_ m_) (h2_ : u_ ((h_ + j_) % 4096) = -1) (hL_ : ∀ m_, P_ m_ → L_ m_ → H_ m_ = h_) : ∀ m_, P_ m_ → ¬ L_ m_ := by
  intro m_ hm_ hl_
  obtain ⟨i_, q1_, q2_, q3_⟩ := hb_.2.1 m_ hm_
  rw [hL_ m_ hm_ hl_] at q2_ q3_
  by_cases z_ : i_ < j_
  · exact h1_ i_ z_ m_ q2_ hl_
  · by_cases z2_ : i_ = j_
    · rw [z2_, h2_] at q2_
      omega
    · exact q3_ j_ (by omega) h2_
theorem bks_0 {P_ : Nat → Prop} {H_ : Nat → Nat} {u_ : Nat → Int} (h_ : ∀ j_, j_ < 4096 → u_ j_ = -1) (hP_ : ∀ m_, ¬ P_ m_) : bks P_ 0 H_ u_ := by
  refine ⟨fun j_ hj_ => Or.inl (h_ j_ hj_), fun m_ hm_ => absurd hm_ (hP_ m_), ?_⟩
  have e_ : cn1 (nem u_) 4096 = 0 := cn1_0 (fun k_ hk_ => by unfold nem; rw [if_pos (h_ k_ hk_)]; decide)
  omega
/-! the_ hash of_ a_ row_ -/
def nrw (m_ : Int) (R_ : Nat → Int) (a_ w_ : Nat) : Int := if l_3 (R_ (64 * a_)) 1 = 0 then R_ (64 * a_ + w_) else l_5 (R_ (64 * a_ + w_)) m_
def hsw (f_ : Nat → Int) : Nat → Int
  | 0 => 0
  | k_ + 1 => l_0 (l_2 (hsw f_ k_) 31) (l_5 (f_ k_) (l_s2 (f_ k_) 29))
theorem hsw_cg {f_ g_ : Nat → Int} : ∀ {k_ : Nat}, (∀ j_, j_ < k_ → f_ j_ = g_ j_) → hsw f_ k_ = hsw g_ k_
  | 0, _ => rfl
  | k_ + 1, h_ => by
    unfold hsw
    rw [hsw_cg (fun j_ hj_ => h_ j_ (by omega)), h_ k_ (by omega)]
def hps (z_ : Int) : Nat := (l_l2i (l_5 z_ (l_s2 z_ 32)) % 4096).toNat
def hrw (W_ : Nat) (m_ : Int) (R_ : Nat → Int) (a_ : Nat) : Nat := hps (hsw (nrw m_ R_ a_) W_)
theorem i64_1 (y_ : Int64) : y_ &&& 1 = 0 ∨ y_ &&& 1 = 1 := by
  have q_ : y_.toBitVec &&& 1#64 = 0#64 ∨ y_.toBitVec &&& 1#64 = 1#64 := by
    have r_ : (y_.toBitVec &&& 1#64).toNat = y_.toBitVec.toNat % 2 := by
      rw [BitVec.toNat_and]
      exact Nat.and_one_is_mod _
    rcases Nat.mod_two_eq_zero_or_one y_.toBitVec.toNat with z_ | z_
    · left
      apply BitVec.eq_of_toNat_eq
      rw [r_, z_]
      rfl
    · right
      apply BitVec.eq_of_toNat_eq
      rw [r_, z_]
      rfl
  rcases q_ with q_ | q_
  · left
    apply Int64.toBitVec_inj.mp
    rw [Int64.toBitVec_and]
    exact q_
  · right
    apply Int64.toBitVec_inj.mp
    rw [Int64.toBitVec_and]
    exact q_
theorem l3_x1 {x_ m_ : Int} (h1_ : l_3 m_ 1 = 1) : l_3 (l_5 x_ m_) 1 = 0 ↔ ¬ l_3 x_ 1 = 0 := by
  have e1_ : Int64.ofInt m_ &&& 1 = 1 := by
    have q_ := congrArg Int64.ofInt h1_
    unfold l_3 at q_
    rw [Int64.ofInt_toInt] at q_
    exact q_
  have e_ : l_3 (l_5 x_ m_) 1 = ((Int64.ofInt x_ &&& 1) ^^^ 1).toInt := by
    unfold l_3 l_5
    simp only [Int64.ofInt_toInt]
    rw [show Int64.ofInt 1 = 1 from rfl, i64_ax, e1_]
  have e2_ : l_3 x_ 1 = (Int64.ofInt x_ &&& 1).toInt := rfl
  rw [e_, e2_]
  have two_ : Int64.ofInt x_ &&& 1 = 0 ∨ Int64.ofInt x_ &&& 1 = 1 := by
    exact i64_1 _
  rcases two_ with z_ | z_
  · rw [z_]; decide
  · rw [z_]; decide
/-- rows that are_ alike have one_ hash -/
theorem hrw_l {W_ a_ b_ : Nat} {m_ t_ : Int} {R_ : Nat → Int} (hW_ : 0 < W_) (h1_ : l_3 m_ 1 = 1) (hb_ : rok W_ m_ R_ b_) (ht_ : tmk m_ t_) (h_ : lik W_ R_ a_ b_ t_) : hrw W_ m_ R_ b_ = hrw W_ m_ R_ a_ := by
  unfold hrw
  refine congrArg hps (hsw_cg (fun w_ hw_ => ?_))
  unfold nrw
  have e0_ := h_ 0 hW_
  rw [Nat.add_zero, Nat.add_zero] at e0_
  rcases ht_ with q_ | q_
  · rw [q_, l5_0 (by have := rok_c hb_ 0 hW_; rw [Nat.add_zero] at this; exact this)] at e0_
    rw [e0_, h_ w_ hw_, q_, l5_0 (rok_c hb_ w_ hw_)]
  · rw [q_] at e0_
    rw [e0_, h_ w_ hw_, q_]
    have x1_ := l3_x1 (x_ := R_ (64 * b_)) h1_
    by_cases z_ : l_3 (R_ (64 * b_)) 1 = 0
    · rw [if_pos z_, if_neg (fun k_ => x1_.mp k_ z_), l5_5 (rok_c hb_ w_ hw_)]
    · rw [if_neg z_, if_pos (x1_.mpr z_)]
theorem bks_nl {W_ nd_ K_ j_ : Nat} {mk_ : Int} {R_ u_ : Nat → Int} {P_ : Nat → Prop} (hb_ : bks P_ K_ (hrw W_ mk_ R_) u_) (hW_ : 0 < W_) (h1_ : l_3 mk_ 1 = 1) (hr_ : ∀ m_, P_ m_ → rok W_ mk_ R_ m_) (hp_ : ∀ i_, i_ < j_ → ∀ m_ : Nat, u_ ((hrw W_ mk_ R_ nd_ + i_) % 4096) = (m_ : Int) → ∀ t_, tmk mk_ t_ → ¬ lik W_ R_ nd_ m_ t_) (he_ : u_ ((hrw W_ mk_ R_ nd_ + j_) % 4096) = -1) : ∀ m_, P_ m_ → ∀ t_, tmk mk_ t_ → ¬ lik W_ R_ nd_ m_ t_ := by
  intro m_ hm_ t_ ht_ hl_
  exact bks_no (L_ := fun m_ => ∃ t_, tmk mk_ t_ ∧ lik W_ R_ nd_ m_ t_) hb_ (fun i_ hi_ m_ hm_ => fun ⟨t_, q1_, q2_⟩ => hp_ i_ hi_ m_ hm_ t_ q1_ q2_) he_ (fun m_ hm_ => fun ⟨t_, q1_, q2_⟩ => hrw_l hW_ h1_ (hr_ m_ hm_) q1_ q2_) m_ hm_ ⟨t_, ht_, hl_⟩
theorem hrw_cg {W_ a_ : Nat} {m_ : Int} {R_ Q_ : Nat → Int} (h_ : ∀ w_, w_ < W_ → Q_ (64 * a_ + w_) = R_ (64 * a_ + w_)) (hW_ : 0 < W_) : hrw W_ m_ Q_ a_ = hrw W_ m_ R_ a_ := by
  unfold hrw
  refine congrArg hps (hsw_cg (fun w_ hw_ => ?_))
  have e0_ := h_ 0 hW_
  rw [Nat.add_zero] at e0_
  unfold nrw
  rw [e0_, h_ w_ hw_]

/-! the_ sweep, node by node -/
def sPn (sf_ : Nat → Int) (n_ m_ : Nat) : Prop := m_ < n_ ∧ sf_ m_ = 2 * (m_ : Int)
def m3 (lo_ hi_ sf_ : Nat → Int) (m_ : Nat) : Prop := 1 ≤ sf_ (lo_ m_ / 2).toNat / 2 ∧ 1 ≤ sf_ (hi_ m_ / 2).toNat / 2 ∧ sf_ (lo_ m_ / 2).toNat / 2 ≠ sf_ (hi_ m_ / 2).toNat / 2
/-- what is_ told of_ a_ node: whom it_ stands for_ -/
def sfo (F_ : Nat) (lo_ hi_ sf_ : Nat → Int) (m_ : Nat) : Prop := (0 ≤ sf_ m_ ∧ sf_ m_ ≤ 2 * (m_ : Int) + 1) ∧ sf_ (sf_ m_ / 2).toNat = 2 * (sf_ m_ / 2) ∧ (F_ ≤ m_ → sf_ m_ = 2 * (m_ : Int) → m3 lo_ hi_ sf_ m_)
def sw1 (F_ W_ n_ : Nat) (mk_ : Int) (lo_ hi_ sf_ R_ : Nat → Int) : Prop := ∀ m_, m_ < n_ → sfo F_ lo_ hi_ sf_ m_ ∧ rok W_ mk_ R_ m_ ∧ ∃ t_, tmk mk_ t_ ∧ lik W_ R_ m_ (sf_ m_ / 2).toNat t_
def glo (F_ N_ : Nat) (lo_ hi_ : Nat → Int) : Prop := ∀ k_, F_ ≤ k_ → k_ < N_ → 2 ≤ lo_ k_ ∧ lo_ k_ < hi_ k_ ∧ hi_ k_ < 2 * (k_ : Int)
theorem sfo_cg {F_ n_ m_ : Nat} {lo_ hi_ sf_ sg_ : Nat → Int} (hg_ : F_ ≤ m_ → 2 ≤ lo_ m_ ∧ lo_ m_ < hi_ m_ ∧ hi_ m_ < 2 * (m_ : Int)) (hm_ : m_ < n_) (h_ : sfo F_ lo_ hi_ sf_ m_) (e_ : ∀ k_, k_ < n_ → sg_ k_ = sf_ k_) : sfo F_ lo_ hi_ sg_ m_ := by
  unfold sfo at *
  rw [e_ m_ hm_, e_ _ (by omega)]
  refine ⟨h_.1, h_.2.1, fun a_ b_ => ?_⟩
  have g_ := hg_ a_
  have q_ := h_.2.2 a_ b_
  unfold m3 at *
  rw [e_ _ (by omega), e_ _ (by omega)]
  exact q_
theorem sw_fd {F_ W_ n_ N_ p_ : Nat} {mk_ t_ v_ : Int} {lo_ hi_ sf_ sg_ R_ : Nat → Int} (hg_ : glo F_ N_ lo_ hi_) (hN_ : n_ < N_) (h_ : sw1 F_ W_ n_ mk_ lo_ hi_ sf_ R_) (hr_ : rok W_ mk_ R_ n_) (hp_ : sPn sf_ n_ p_) (ht_ : tmk mk_ t_) (hl_ : lik W_ R_ n_ p_ t_) (hv_ : v_ = 2 * (p_ : Int) + (if t_ = 0 then 0 else 1)) (e_ : ∀ k_, sg_ k_ = if k_ = n_ then v_ else sf_ k_) : sw1 F_ W_ (n_ + 1) mk_ lo_ hi_ sg_ R_ := by
  have e1_ : ∀ k_, k_ < n_ → sg_ k_ = sf_ k_ := fun k_ hk_ => by rw [e_ k_, if_neg (by omega)]
  have en_ : sg_ n_ = v_ := by rw [e_ n_, if_pos rfl]
  have v2_ : v_ / 2 = p_ := by rw [hv_]; split <;> omega
  intro m_ hm_
  by_cases z_ : m_ < n_
  · have q_ := h_ m_ z_
    refine ⟨sfo_cg (fun a_ => hg_ m_ a_ (by omega)) z_ q_.1 e1_, q_.2.1, ?_⟩
    rw [e1_ m_ z_]
    exact q_.2.2
  · have zn_ : m_ = n_ := by omega
    subst zn_
    refine ⟨?_, hr_, t_, ht_, ?_⟩
    · unfold sfo
      rw [en_, v2_, Int.toNat_natCast, e1_ p_ hp_.1, hp_.2]
      have := hp_.1
      refine ⟨?_, rfl, fun _ q_ => ?_⟩
      · rw [hv_]; split <;> omega
      · exfalso; rw [hv_] at q_; split at q_ <;> omega
    · rw [en_, v2_, Int.toNat_natCast]
      exact hl_
theorem sw_nw {F_ W_ n_ N_ : Nat} {mk_ : Int} {lo_ hi_ sf_ sg_ R_ : Nat → Int} (hg_ : glo F_ N_ lo_ hi_) (hF_ : 1 ≤ F_) (hN_ : n_ < N_) (hW_ : 0 < W_) (hm1_ : lcn mk_) (h_ : sw1 F_ W_ n_ mk_ lo_ hi_ sf_ R_) (h0_ : 0 < n_ → ∀ w_, w_ < W_ → R_ w_ = 0) (hr_ : rok W_ mk_ R_ n_) (hx_ : F_ ≤ n_ → ∀ w_, w_ < W_ → R_ (64 * n_ + w_) = l_3 (l_3 (wlt R_ (lo_ n_) w_) (wlt R_ (hi_ n_) w_)) mk_) (hno_ : ∀ p_, sPn sf_ n_ p_ → ∀ t_, tmk mk_ t_ → ¬ lik W_ R_ n_ p_ t_) (e_ : ∀ k_, sg_ k_ = if k_ = n_ then 2 * (n_ : Int) else sf_ k_) (hz_ : 0 < n_ → sf_ 0 = 0) : sw1 F_ W_ (n_ + 1) mk_ lo_ hi_ sg_ R_ := by
  have e1_ : ∀ k_, k_ < n_ → sg_ k_ = sf_ k_ := fun k_ hk_ => by rw [e_ k_, if_neg (by omega)]
  have en_ : sg_ n_ = 2 * (n_ : Int) := by rw [e_ n_, if_pos rfl]
  have v2_ : (2 * (n_ : Int)) / 2 = n_ := by omega
  intro m_ hm_
  by_cases z_ : m_ < n_
  · have q_ := h_ m_ z_
    refine ⟨sfo_cg (fun a_ => hg_ m_ a_ (by omega)) z_ q_.1 e1_, q_.2.1, ?_⟩
    rw [e1_ m_ z_]
    exact q_.2.2
  · have zn_ : m_ = n_ := by omega
    subst zn_
    refine ⟨?_, hr_, 0, Or.inl rfl, ?_⟩
    · unfold sfo
      rw [en_, v2_, Int.toNat_natCast, en_]
      refine ⟨by omega, rfl, fun a_ _ => ?_⟩
      have g_ := hg_ m_ a_ hN_
      obtain ⟨ql_, rl_, tl_, ul_, wl⟩ := h_ (lo_ m_ / 2).toNat (by omega)
      obtain ⟨qh_, rh_, th, uh_, wh_⟩ := h_ (hi_ m_ / 2).toNat (by omega)
      have pl_ : sPn sf_ m_ (sf_ (lo_ m_ / 2).toNat / 2).toNat := ⟨by have := ql_.1; omega, by rw [ql_.2.1]; have := ql_.1; omega⟩
      have ph_ : sPn sf_ m_ (sf_ (hi_ m_ / 2).toNat / 2).toNat := ⟨by have := qh_.1; omega, by rw [qh_.2.1]; have := qh_.1; omega⟩
      obtain ⟨t1_, k1_, x1_⟩ := wlt_l hm1_ rl_ ul_ wl
      obtain ⟨t2_, k2_, x2_⟩ := wlt_l hm1_ rh_ uh_ wh_
      have key_ : ¬ ((sf_ (lo_ m_ / 2).toNat / 2).toNat = 0 ∨ (sf_ (hi_ m_ / 2).toNat / 2).toNat = 0 ∨ (sf_ (lo_ m_ / 2).toNat / 2).toNat = (sf_ (hi_ m_ / 2).toNat / 2).toNat) := by
        intro hc_
        have al_ := and_like (n_ := m_) (z_ := 0) (X_ := fun w_ => l_3 (wlt R_ (lo_ m_) w_) mk_) (Y_ := fun w_ => l_3 (wlt R_ (hi_ m_) w_) mk_) hm1_ (h_ _ pl_.1).2.1 (h_ _ ph_.1).2.1 (fun w_ hw_ => by rw [Nat.mul_zero, Nat.zero_add]; exact h0_ (by omega) w_ hw_) k1_ k2_ x1_ x2_ (fun w_ hw_ => by rw [hx_ a_ w_ hw_, l3_dm]) hc_
        rcases al_ with ⟨t_, c1_, c2_⟩ | ⟨t_, c1_, c2_⟩ | ⟨t_, c1_, c2_⟩
        · exact hno_ 0 ⟨by omega, by rw [hz_ (by omega)]; rfl⟩ t_ c1_ c2_
        · exact hno_ _ pl_ t_ c1_ c2_
        · exact hno_ _ ph_ t_ c1_ c2_
      have b1_ := ql_.1
      have b2_ := qh_.1
      have e9_ : sg_ (lo_ m_ / 2).toNat = sf_ (lo_ m_ / 2).toNat := e1_ _ (by omega)
      have e8_ : sg_ (hi_ m_ / 2).toNat = sf_ (hi_ m_ / 2).toNat := e1_ _ (by omega)
      unfold m3
      rw [e9_, e8_]
      omega
    · rw [en_, v2_, Int.toNat_natCast]
      intro w_ hw_
      exact (l5_0 (rok_c hr_ w_ hw_)).symm
theorem lik_cg {W_ a_ b_ : Nat} {t_ : Int} {R_ Q_ : Nat → Int} (h_ : lik W_ R_ a_ b_ t_) (h1_ : ∀ w_, w_ < W_ → Q_ (64 * a_ + w_) = R_ (64 * a_ + w_)) (h2_ : ∀ w_, w_ < W_ → Q_ (64 * b_ + w_) = R_ (64 * b_ + w_)) : lik W_ Q_ a_ b_ t_ := fun w_ hw_ => by
  rw [h1_ w_ hw_, h2_ w_ hw_]
  exact h_ w_ hw_
theorem rok_cg {W_ a_ : Nat} {m_ : Int} {R_ Q_ : Nat → Int} (h_ : rok W_ m_ R_ a_) (h1_ : ∀ w_, w_ < W_ → Q_ (64 * a_ + w_) = R_ (64 * a_ + w_)) : rok W_ m_ Q_ a_ := fun w_ hw_ => by
  rw [h1_ w_ hw_]
  exact h_ w_ hw_
theorem sw1_cg {F_ W_ n_ : Nat} {mk_ : Int} {lo_ hi_ sf_ R_ Q_ : Nat → Int} (h_ : sw1 F_ W_ n_ mk_ lo_ hi_ sf_ R_) (hW_ : W_ ≤ 64) (hQ_ : ∀ j_, j_ < 64 * n_ → Q_ j_ = R_ j_) : sw1 F_ W_ n_ mk_ lo_ hi_ sf_ Q_ := fun m_ hm_ => by
  obtain ⟨q1_, q2_, t_, q3_, q4_⟩ := h_ m_ hm_
  refine ⟨q1_, rok_cg q2_ (fun w_ hw_ => hQ_ _ (by omega)), t_, q3_, lik_cg q4_ (fun w_ hw_ => hQ_ _ (by omega)) (fun w_ hw_ => hQ_ _ (by have := q1_.1; omega))⟩
/-- which of_ both it_ must be_, if rows are_ alike -/
theorem trn {W_ a_ b_ : Nat} {mk_ t_ tn_ : Int} {R_ : Nat → Int} (hW_ : 0 < W_) (h1_ : l_3 mk_ 1 = 1) (hm_ : lcn mk_) (hb_ : rok W_ mk_ R_ b_) (ht_ : tmk mk_ t_) (h_ : lik W_ R_ a_ b_ t_) (hn_ : (tn_ = 0 ∧ l_3 (l_5 (R_ (64 * a_)) (R_ (64 * b_))) 1 = 0) ∨ (tn_ = mk_ ∧ l_3 (l_5 (R_ (64 * a_)) (R_ (64 * b_))) 1 ≠ 0)) : t_ = tn_ := by
  have e0_ := h_ 0 hW_
  rw [Nat.add_zero, Nat.add_zero] at e0_
  have c0_ : lcn (R_ (64 * b_)) := by have := rok_c hb_ 0 hW_; rw [Nat.add_zero] at this; exact this
  have ct : lcn t_ := by
    rcases ht_ with q_ | q_
    · rw [q_]; show (Int64.ofInt 0).toInt = 0; decide
    · rw [q_]; exact hm_
  have e_ : l_5 (R_ (64 * a_)) (R_ (64 * b_)) = t_ := by
    rw [e0_, l5_c, ← l5_as, l5_self, l5_z ct]
  rw [e_] at hn_
  rcases ht_ with q_ | q_
  · rcases hn_ with ⟨n1_, n2_⟩ | ⟨n1_, n2_⟩
    · rw [q_, n1_]
    · exfalso; rw [q_] at n2_; exact n2_ (by decide)
  · rcases hn_ with ⟨n1_, n2_⟩ | ⟨n1_, n2_⟩
    · exfalso; rw [q_, h1_] at n2_; exact absurd n2_ (by decide)
    · rw [q_, n1_]
theorem lc_0 {x_ y_ : Int} : sm_lcmp x_ y_ = 0 ↔ x_ = y_ := by
  unfold sm_lcmp
  constructor
  · intro h_
    split at h_
    · omega
    · split at h_
      · assumption
      · omega
  · intro h_
    rw [if_neg (by omega), if_pos h_]
