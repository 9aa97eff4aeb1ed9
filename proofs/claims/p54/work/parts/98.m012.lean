/-! 99.zg5 -/
section
/-! rows of values; written by wip/p55/gen/vg -/

/-! rows of_ 64 values -/
def lcn (x_ : Int) : Prop := (Int64.ofInt x_).toInt = x_
theorem lcn_3 {x_ y_ : Int} : lcn (l_3 x_ y_) := by
  unfold lcn l_3
  rw [Int64.ofInt_toInt]
theorem lcn_5 {x_ y_ : Int} : lcn (l_5 x_ y_) := by
  unfold lcn l_5
  rw [Int64.ofInt_toInt]
theorem l3_dm {x_ y_ m_ : Int} : l_3 (l_3 x_ y_) m_ = l_3 (l_3 x_ m_) (l_3 y_ m_) := by
  unfold l_3
  simp only [Int64.ofInt_toInt]
  congr 1
  rw [Int64.and_assoc, Int64.and_assoc, Int64.and_comm (Int64.ofInt m_) (Int64.ofInt y_ &&& Int64.ofInt m_), Int64.and_assoc, Int64.and_self]
theorem l3_id {x_ m_ : Int} : l_3 (l_3 x_ m_) m_ = l_3 x_ m_ := by
  unfold l_3
  simp only [Int64.ofInt_toInt]
  rw [Int64.and_assoc, Int64.and_self]
theorem l5_0 {x_ : Int} (h_ : lcn x_) : l_5 x_ 0 = x_ := by
  unfold l_5
  rw [show Int64.ofInt 0 = 0 from rfl, Int64.xor_zero]
  exact h_
theorem l5_z {x_ : Int} (h_ : lcn x_) : l_5 0 x_ = x_ := by
  unfold l_5
  rw [show Int64.ofInt 0 = 0 from rfl, Int64.zero_xor]
  exact h_
theorem l5_5 {x_ m_ : Int} (h_ : lcn x_) : l_5 (l_5 x_ m_) m_ = x_ := by
  unfold l_5
  simp only [Int64.ofInt_toInt]
  rw [Int64.xor_assoc, Int64.xor_self, Int64.xor_zero]
  exact h_
theorem l5_self {x_ : Int} : l_5 x_ x_ = 0 := by
  unfold l_5
  rw [Int64.xor_self]
  rfl
theorem l5_c {x_ y_ : Int} : l_5 x_ y_ = l_5 y_ x_ := by
  unfold l_5
  rw [Int64.xor_comm]
theorem l3_0 {x_ : Int} : l_3 0 x_ = 0 := by
  unfold l_3
  rw [show Int64.ofInt 0 = 0 from rfl, Int64.zero_and]
  rfl
theorem l3_c {x_ y_ : Int} : l_3 x_ y_ = l_3 y_ x_ := by
  unfold l_3
  rw [Int64.and_comm]
theorem l3_self {x_ : Int} (h_ : lcn x_) : l_3 x_ x_ = x_ := by
  unfold l_3
  rw [Int64.and_self]
  exact h_
theorem i64_ax (x_ y_ z_ : Int64) : (x_ ^^^ y_) &&& z_ = (x_ &&& z_) ^^^ (y_ &&& z_) := by
  apply Int64.toBitVec_inj.mp
  simp only [Int64.toBitVec_and, Int64.toBitVec_xor]
  apply BitVec.eq_of_getElem_eq
  intro i9_ hi9_
  simp only [BitVec.getElem_and, BitVec.getElem_xor]
  cases x_.toBitVec[i9_] <;> cases y_.toBitVec[i9_] <;> cases z_.toBitVec[i9_] <;> rfl
/-- turned and cut_ off_: what is_ cut_ off_ before doesn't matter -/
theorem l3_tm {x_ m_ : Int} (hm_ : lcn m_) (hx_ : l_3 x_ m_ = x_) : l_3 (l_5 x_ (-1)) m_ = l_5 x_ m_ := by
  unfold l_3 l_5 at *
  simp only [Int64.ofInt_toInt]
  rw [i64_ax, show Int64.ofInt (-1) = -1 from rfl, Int64.and_comm (-1) _, Int64.and_neg_one]
  congr 2
  rw [← hx_, Int64.ofInt_toInt, Int64.and_assoc, Int64.and_self]
theorem l3_tn {x_ m_ : Int} (hm_ : lcn m_) : l_3 (l_5 x_ (-1)) m_ = l_5 (l_3 x_ m_) m_ := by
  unfold l_3 l_5 at *
  simp only [Int64.ofInt_toInt]
  rw [i64_ax, show Int64.ofInt (-1) = -1 from rfl, Int64.and_comm (-1) _, Int64.and_neg_one]
/-- a_ row_ and its_ opposite have nothing in common -/
theorem l3_op {x_ m_ : Int} (hx_ : l_3 x_ m_ = x_) : l_3 x_ (l_5 x_ m_) = 0 := by
  unfold l_3 l_5 at *
  simp only [Int64.ofInt_toInt]
  rw [Int64.and_comm, i64_ax, Int64.and_self, Int64.and_comm (Int64.ofInt m_) _]
  have e_ : Int64.ofInt x_ &&& Int64.ofInt m_ = Int64.ofInt x_ := by
    have q_ := congrArg Int64.ofInt hx_
    rw [Int64.ofInt_toInt] at q_
    exact q_
  rw [e_, Int64.xor_self]
  rfl
theorem l3_5m {x_ m_ : Int} (hx_ : l_3 x_ m_ = x_) (hm_ : lcn m_) : l_3 (l_5 x_ m_) m_ = l_5 x_ m_ := by
  unfold l_3 l_5 at *
  simp only [Int64.ofInt_toInt]
  rw [i64_ax, Int64.and_self]
  congr 2
  have q_ := congrArg Int64.ofInt hx_
  rw [Int64.ofInt_toInt] at q_
  exact q_
/-- what a_ row_ of_ values may_ be_ told by -/
def tmk (m_ t_ : Int) : Prop := t_ = 0 ∨ t_ = m_
/-- a_ literal's row_, cut_ off_ -/
def wlt (R_ : Nat → Int) (l_ : Int) (w_ : Nat) : Int := if l_ % 2 = 0 then R_ (64 * (l_ / 2).toNat + w_) else l_5 (R_ (64 * (l_ / 2).toNat + w_)) (-1)
def lik (W_ : Nat) (R_ : Nat → Int) (a_ b_ : Nat) (t_ : Int) : Prop := ∀ w_, w_ < W_ → R_ (64 * a_ + w_) = l_5 (R_ (64 * b_ + w_)) t_
def rok (W_ : Nat) (m_ : Int) (R_ : Nat → Int) (a_ : Nat) : Prop := ∀ w_, w_ < W_ → l_3 (R_ (64 * a_ + w_)) m_ = R_ (64 * a_ + w_)
theorem rok_c {W_ a_ : Nat} {m_ : Int} {R_ : Nat → Int} (h_ : rok W_ m_ R_ a_) : ∀ w_, w_ < W_ → lcn (R_ (64 * a_ + w_)) := fun w_ hw_ => by
  rw [← h_ w_ hw_]
  exact lcn_3
theorem tmk_x {m_ t_ : Int} (hm_ : lcn m_) (ht_ : tmk m_ t_) : tmk m_ (l_5 t_ m_) := by
  rcases ht_ with e_ | e_
  · rw [e_]; exact Or.inr (l5_z hm_)
  · rw [e_]; exact Or.inl l5_self
theorem l5_as {x_ y_ z_ : Int} : l_5 (l_5 x_ y_) z_ = l_5 x_ (l_5 y_ z_) := by
  unfold l_5
  simp only [Int64.ofInt_toInt]
  rw [Int64.xor_assoc]
theorem wlt_l {W_ p_ : Nat} {m_ t_ l_ : Int} {R_ : Nat → Int} (hm_ : lcn m_) (ho_ : rok W_ m_ R_ (l_ / 2).toNat) (ht_ : tmk m_ t_) (h_ : lik W_ R_ (l_ / 2).toNat p_ t_) : ∃ t'_, tmk m_ t'_ ∧ ∀ w_, w_ < W_ → l_3 (wlt R_ l_ w_) m_ = l_5 (R_ (64 * p_ + w_)) t'_ := by
  by_cases q_ : l_ % 2 = 0
  · refine ⟨t_, ht_, fun w_ hw_ => ?_⟩
    unfold wlt
    rw [if_pos q_, ho_ w_ hw_, h_ w_ hw_]
  · refine ⟨l_5 t_ m_, tmk_x hm_ ht_, fun w_ hw_ => ?_⟩
    unfold wlt
    rw [if_neg q_, l3_tm hm_ (ho_ w_ hw_), h_ w_ hw_, l5_as]
/-- an_ AND_ of_ rows that stand for_ one_ row_, or for_ nothing, is_ like one_ that is_ there -/
theorem and_like {W_ n_ p_ q_ z_ : Nat} {m_ t1_ t2_ : Int} {R_ : Nat → Int} {X_ Y_ : Nat → Int} (hm_ : lcn m_) (hp_ : rok W_ m_ R_ p_) (hq_ : rok W_ m_ R_ q_) (hz_ : ∀ w_, w_ < W_ → R_ (64 * z_ + w_) = 0) (h1_ : tmk m_ t1_) (h2_ : tmk m_ t2_) (hX_ : ∀ w_, w_ < W_ → X_ w_ = l_5 (R_ (64 * p_ + w_)) t1_) (hY_ : ∀ w_, w_ < W_ → Y_ w_ = l_5 (R_ (64 * q_ + w_)) t2_) (hR_ : ∀ w_, w_ < W_ → R_ (64 * n_ + w_) = l_3 (X_ w_) (Y_ w_)) (hc_ : p_ = z_ ∨ q_ = z_ ∨ p_ = q_) : (∃ t_, tmk m_ t_ ∧ lik W_ R_ n_ z_ t_) ∨ (∃ t_, tmk m_ t_ ∧ lik W_ R_ n_ p_ t_) ∨ ∃ t_, tmk m_ t_ ∧ lik W_ R_ n_ q_ t_ := by
  have key_ : ∀ {a_ b_ : Nat} {s1_ s2_ : Int} {U_ V_ : Nat → Int}, rok W_ m_ R_ b_ → (∀ w_, w_ < W_ → R_ (64 * a_ + w_) = 0) → tmk m_ s1_ → tmk m_ s2_ → (∀ w_, w_ < W_ → U_ w_ = l_5 (R_ (64 * a_ + w_)) s1_) → (∀ w_, w_ < W_ → V_ w_ = l_5 (R_ (64 * b_ + w_)) s2_) → (∀ w_, w_ < W_ → R_ (64 * n_ + w_) = l_3 (U_ w_) (V_ w_)) → (∃ t_, tmk m_ t_ ∧ lik W_ R_ n_ a_ t_) ∨ ∃ t_, tmk m_ t_ ∧ lik W_ R_ n_ b_ t_ := by
    intro a_ b_ s1_ s2_ U_ V_ hb_ ha_ k1_ k2_ hU_ hV_ hU2_
    rcases k1_ with e_ | e_
    · refine Or.inl ⟨0, Or.inl rfl, fun w_ hw_ => ?_⟩
      rw [hU2_ w_ hw_, hU_ w_ hw_, ha_ w_ hw_, e_, l5_self, l3_0]
    · refine Or.inr ⟨s2_, k2_, fun w_ hw_ => ?_⟩
      rw [hU2_ w_ hw_, hU_ w_ hw_, ha_ w_ hw_, e_, l5_z hm_, hV_ w_ hw_]
      rcases k2_ with f_ | f_
      · rw [f_, l5_0 (rok_c hb_ w_ hw_), l3_c, hb_ w_ hw_]
      · rw [f_, l3_c, l3_5m (hb_ w_ hw_) hm_]
  rcases hc_ with e_ | e_ | e_
  · rcases key_ (a_ := p_) (b_ := q_) hq_ (by rw [e_]; exact hz_) h1_ h2_ hX_ hY_ hR_ with k_ | k_
    · exact Or.inr (Or.inl k_)
    · exact Or.inr (Or.inr k_)
  · rcases key_ (a_ := q_) (b_ := p_) hp_ (by rw [e_]; exact hz_) h2_ h1_ hY_ hX_ (fun w_ hw_ => by rw [hR_ w_ hw_, l3_c]) with k_ | k_
    · exact Or.inr (Or.inr k_)
    · exact Or.inr (Or.inl k_)
  · subst e_
    rcases h1_ with e1_ | e1_
    · rcases h2_ with e2_ | e2_
      · refine Or.inr (Or.inl ⟨0, Or.inl rfl, fun w_ hw_ => ?_⟩)
        rw [hR_ w_ hw_, hX_ w_ hw_, hY_ w_ hw_, e1_, e2_, l5_0 (rok_c hp_ w_ hw_), l3_self (rok_c hp_ w_ hw_)]
      · refine Or.inl ⟨0, Or.inl rfl, fun w_ hw_ => ?_⟩
        rw [hR_ w_ hw_, hX_ w_ hw_, hY_ w_ hw_, e1_, e2_, l5_0 (rok_c hp_ w_ hw_), l3_op (hp_ w_ hw_), hz_ w_ hw_, l5_self]
    · rcases h2_ with e2_ | e2_
      · refine Or.inl ⟨0, Or.inl rfl, fun w_ hw_ => ?_⟩
        rw [hR_ w_ hw_, hX_ w_ hw_, hY_ w_ hw_, e1_, e2_, l5_0 (rok_c hp_ w_ hw_), l3_c, l3_op (hp_ w_ hw_), hz_ w_ hw_, l5_self]
      · refine Or.inr (Or.inl ⟨m_, Or.inr rfl, fun w_ hw_ => ?_⟩)
        rw [hR_ w_ hw_, hX_ w_ hw_, hY_ w_ hw_, e1_, e2_, l3_self lcn_5]
/-! the_ table of_ rows: open addressing -/
def nem (u_ : Nat → Int) : Nat → Int := fun j_ => if u_ j_ = -1 then 0 else 1
def bks (P_ : Nat → Prop) (K_ : Nat) (H_ : Nat → Nat) (u_ : Nat → Int) : Prop := (∀ j_, j_ < 4096 → u_ j_ = -1 ∨ ∃ m_, P_ m_ ∧ u_ j_ = (m_ : Int)) ∧ (∀ m_, P_ m_ → ∃ j_, j_ < 4096 ∧ u_ ((H_ m_ + j_) % 4096) = (m_ : Int) ∧ ∀ i_, i_ < j_ → u_ ((H_ m_ + i_) % 4096) ≠ -1) ∧ cn1 (nem u_) 4096 ≤ K_
theorem md_su (h_ q_ : Nat) (hq_ : q_ < 4096) : ∃ i_, i_ < 4096 ∧ (h_ + i_) % 4096 = q_ := ⟨(q_ + 4096 - h_ % 4096) % 4096, by omega, by omega⟩
theorem bks_end {P_ : Nat → Prop} {K_ h_ : Nat} {H_ : Nat → Nat} {u_ : Nat → Int} (hb_ : bks P_ K_ H_ u_) (hK_ : K_ < 4096) (hn_ : ∀ i_, i_ < 4096 → u_ ((h_ + i_) % 4096) ≠ -1) : False := by
  have e_ : cn1 (nem u_) 4096 = 4096 := cn1_all (fun k_ hk_ => by
    obtain ⟨i_, hi_, e_⟩ := md_su h_ k_ hk_
    have q_ := hn_ i_ hi_
    rw [e_] at q_
    exact if_neg q_)
  have := hb_.2.2
  omega
theorem bks_put {P_ : Nat → Prop} {K_ j_ n_ : Nat} {H_ : Nat → Nat} {u_ w_ : Nat → Int} (hb_ : bks P_ K_ H_ u_) (hj_ : j_ < 4096) (h1_ : ∀ i_, i_ < j_ → u_ ((H_ n_ + i_) % 4096) ≠ -1) (h2_ : u_ ((H_ n_ + j_) % 4096) = -1) (hw_ : ∀ k_, w_ k_ = if k_ = (H_ n_ + j_) % 4096 then (n_ : Int) else u_ k_) : bks (fun m_ => P_ m_ ∨ m_ = n_) (K_ + 1) H_ w_ := by
  have hz_ : ∀ k_, u_ k_ ≠ -1 → w_ k_ = u_ k_ := fun k_ z_ => by
    rw [hw_ k_, if_neg (fun e_ => z_ (by rw [e_]; exact h2_))]
  refine ⟨fun k_ hk_ => ?_, fun m_ hm_ => ?_, ?_⟩
  · rw [hw_ k_]
    by_cases e_ : k_ = (H_ n_ + j_) % 4096
    · rw [if_pos e_]
      exact Or.inr ⟨n_, Or.inr rfl, rfl⟩
    · rw [if_neg e_]
      rcases hb_.1 k_ hk_ with q_ | ⟨m_, q1_, q2_⟩
      · exact Or.inl q_
      · exact Or.inr ⟨m_, Or.inl q1_, q2_⟩
  · rcases hm_ with hm_ | hm_
    · obtain ⟨i_, q1_, q2_, q3_⟩ := hb_.2.1 m_ hm_
      exact ⟨i_, q1_, by rw [hz_ _ (by rw [q2_]; omega)]; exact q2_, fun i9_ h9_ => by rw [hz_ _ (q3_ i9_ h9_)]; exact q3_ i9_ h9_⟩
    · subst hm_
      exact ⟨j_, hj_, by rw [hw_ _, if_pos rfl], fun i9_ h9_ => by rw [hz_ _ (h1_ i9_ h9_)]; exact h1_ i9_ h9_⟩
  · have e_ := cn1_up (f := nem u_) (g := nem w_) (j := (H_ n_ + j_) % 4096) (by unfold nem; rw [if_pos h2_]; decide) (by unfold nem; rw [hw_ _, if_pos rfl, if_neg (by omega)]) (fun k_ hk_ => by unfold nem; rw [hw_ k_, if_neg hk_]) (n := 4096) (by omega)
    have := hb_.2.2
    omega
theorem bks_cg {P_ Q_ : Nat → Prop} {K_ L_ : Nat} {H_ I_ : Nat → Nat} {u_ : Nat → Int} (hb_ : bks P_ K_ H_ u_) (hP_ : ∀ m_, P_ m_ ↔ Q_ m_) (hK_ : K_ ≤ L_) (hH_ : ∀ m_, P_ m_ → H_ m_ = I_ m_) : bks Q_ L_ I_ u_ := by
  refine ⟨fun j_ hj_ => ?_, fun m_ hm_ => ?_, Nat.le_trans hb_.2.2 hK_⟩
  · rcases hb_.1 j_ hj_ with q_ | ⟨m_, q1_, q2_⟩
    · exact Or.inl q_
    · exact Or.inr ⟨m_, (hP_ m_).mp q1_, q2_⟩
  · rw [← hH_ m_ ((hP_ m_).mpr hm_)]
    exact hb_.2.1 m_ ((hP_ m_).mpr hm_)
/-- not found means that there is_ none -/
theorem bks_no {P_ : Nat → Prop} {K_ j_ h_ : Nat} {H_ : Nat → Nat} {u_ : Nat → Int} {L_ : Nat → Prop} (hb_ : bks P_ K_ H_ u_) (h1_ : ∀ i_, i_ < j_ → ∀ m_ : Nat, u_ ((h_ + i_) % 4096) = (m_ : Int) → ¬ L_ m_) (h2_ : u_ ((h_ + j_) % 4096) = -1) (hL_ : ∀ m_, P_ m_ → L_ m_ → H_ m_ = h_) : ∀ m_, P_ m_ → ¬ L_ m_ := by
  intro m_ hm_ hl_
  obtain ⟨i_, q1_, q2_, q3_⟩ := hb_.2.1 m_ hm_
  rw [hL_ m_ hm_ hl_] at q2_ q3_
  by_cases z_ : i_ < j_
  · exact h1_ i_ z_ m_ q2_ hl_
  · by_cases z2_ : i_ = j_
    · rw [z2_, h2_] at q2_
      omega
    · exact q3_ j_ (by omega) h2_
theorem bks_0 {P_ : Nat → Prop} {H_ : Nat → Nat} {u_ : Nat → Int} (h_ : ∀ j_, j_ < 4096 → u_ j_ = -1) (hP_ : ∀ m_, ¬ P_ m_) : bks P_ 0 H_ u_ := by
  refine ⟨fun j_ hj_ => Or.inl (h_ j_ hj_), fun m_ hm_ => absurd hm_ (hP_ m_), ?_⟩
  have e_ : cn1 (nem u_) 4096 = 0 := cn1_0 (fun k_ hk_ => by unfold nem; rw [if_pos (h_ k_ hk_)]; decide)
  omega
/-! the_ hash of_ a_ row_ -/
def nrw (m_ : Int) (R_ : Nat → Int) (a_ w_ : Nat) : Int := if l_3 (R_ (64 * a_)) 1 = 0 then R_ (64 * a_ + w_) else l_5 (R_ (64 * a_ + w_)) m_
def hsw (f_ : Nat → Int) : Nat → Int
  | 0 => 0
  | k_ + 1 => l_0 (l_2 (hsw f_ k_) 31) (l_5 (f_ k_) (l_s2 (f_ k_) 29))
theorem hsw_cg {f_ g_ : Nat → Int} : ∀ {k_ : Nat}, (∀ j_, j_ < k_ → f_ j_ = g_ j_) → hsw f_ k_ = hsw g_ k_
  | 0, _ => rfl
  | k_ + 1, h_ => by
    unfold hsw
    rw [hsw_cg (fun j_ hj_ => h_ j_ (by omega)), h_ k_ (by omega)]
def hps (z_ : Int) : Nat := (l_l2i (l_5 z_ (l_s2 z_ 32)) % 4096).toNat
def hrw (W_ : Nat) (m_ : Int) (R_ : Nat → Int) (a_ : Nat) : Nat := hps (hsw (nrw m_ R_ a_) W_)
theorem i64_1 (y_ : Int64) : y_ &&& 1 = 0 ∨ y_ &&& 1 = 1 := by
  have q_ : y_.toBitVec &&& 1#64 = 0#64 ∨ y_.toBitVec &&& 1#64 = 1#64 := by
    have r_ : (y_.toBitVec &&& 1#64).toNat = y_.toBitVec.toNat % 2 := by
      rw [BitVec.toNat_and]
      exact Nat.and_one_is_mod _
    rcases Nat.mod_two_eq_zero_or_one y_.toBitVec.toNat with z_ | z_
    · left
      apply BitVec.eq_of_toNat_eq
      rw [r_, z_]
      rfl
    · right
      apply BitVec.eq_of_toNat_eq
      rw [r_, z_]
      rfl
  rcases q_ with q_ | q_
  · left
    apply Int64.toBitVec_inj.mp
    rw [Int64.toBitVec_and]
    exact q_
  · right
    apply Int64.toBitVec_inj.mp
    rw [Int64.toBitVec_and]
    exact q_
theorem l3_x1 {x_ m_ : Int} (h1_ : l_3 m_ 1 = 1) : l_3 (l_5 x_ m_) 1 = 0 ↔ ¬ l_3 x_ 1 = 0 := by
  have e1_ : Int64.ofInt m_ &&& 1 = 1 := by
    have q_ := congrArg Int64.ofInt h1_
    unfold l_3 at q_
    rw [Int64.ofInt_toInt] at q_
    exact q_
  have e_ : l_3 (l_5 x_ m_) 1 = ((Int64.ofInt x_ &&& 1) ^^^ 1).toInt := by
    unfold l_3 l_5
    simp only [Int64.ofInt_toInt]
    rw [show Int64.ofInt 1 = 1 from rfl, i64_ax, e1_]
  have e2_ : l_3 x_ 1 = (Int64.ofInt x_ &&& 1).toInt := rfl
  rw [e_, e2_]
  have two_ : Int64.ofInt x_ &&& 1 = 0 ∨ Int64.ofInt x_ &&& 1 = 1 := by
    exact i64_1 _
  rcases two_ with z_ | z_
  · rw [z_]; decide
  · rw [z_]; decide
/-- rows that are_ alike have one_ hash -/
theorem hrw_l {W_ a_ b_ : Nat} {m_ t_ : Int} {R_ : Nat → Int} (hW_ : 0 < W_) (h1_ : l_3 m_ 1 = 1) (hb_ : rok W_ m_ R_ b_) (ht_ : tmk m_ t_) (h_ : lik W_ R_ a_ b_ t_) : hrw W_ m_ R_ b_ = hrw W_ m_ R_ a_ := by
  unfold hrw
  refine congrArg hps (hsw_cg (fun w_ hw_ => ?_))
  unfold nrw
  have e0_ := h_ 0 hW_
  rw [Nat.add_zero, Nat.add_zero] at e0_
  rcases ht_ with q_ | q_
  · rw [q_, l5_0 (by have := rok_c hb_ 0 hW_; rw [Nat.add_zero] at this; exact this)] at e0_
    rw [e0_, h_ w_ hw_, q_, l5_0 (rok_c hb_ w_ hw_)]
  · rw [q_] at e0_
    rw [e0_, h_ w_ hw_, q_]
    have x1_ := l3_x1 (x_ := R_ (64 * b_)) h1_
    by_cases z_ : l_3 (R_ (64 * b_)) 1 = 0
    · rw [if_pos z_, if_neg (fun k_ => x1_.mp k_ z_), l5_5 (rok_c hb_ w_ hw_)]
    · rw [if_neg z_, if_pos (x1_.mpr z_)]
theorem bks_nl {W_ nd_ K_ j_ : Nat} {mk_ : Int} {R_ u_ : Nat → Int} {P_ : Nat → Prop} (hb_ : bks P_ K_ (hrw W_ mk_ R_) u_) (hW_ : 0 < W_) (h1_ : l_3 mk_ 1 = 1) (hr_ : ∀ m_, P_ m_ → rok W_ mk_ R_ m_) (hp_ : ∀ i_, i_ < j_ → ∀ m_ : Nat, u_ ((hrw W_ mk_ R_ nd_ + i_) % 4096) = (m_ : Int) → ∀ t_, tmk mk_ t_ → ¬ lik W_ R_ nd_ m_ t_) (he_ : u_ ((hrw W_ mk_ R_ nd_ + j_) % 4096) = -1) : ∀ m_, P_ m_ → ∀ t_, tmk mk_ t_ → ¬ lik W_ R_ nd_ m_ t_ := by
  intro m_ hm_ t_ ht_ hl_
  exact bks_no (L_ := fun m_ => ∃ t_, tmk mk_ t_ ∧ lik W_ R_ nd_ m_ t_) hb_ (fun i_ hi_ m_ hm_ => fun ⟨t_, q1_, q2_⟩ => hp_ i_ hi_ m_ hm_ t_ q1_ q2_) he_ (fun m_ hm_ => fun ⟨t_, q1_, q2_⟩ => hrw_l hW_ h1_ (hr_ m_ hm_) q1_ q2_) m_ hm_ ⟨t_, ht_, hl_⟩
theorem hrw_cg {W_ a_ : Nat} {m_ : Int} {R_ Q_ : Nat → Int} (h_ : ∀ w_, w_ < W_ → Q_ (64 * a_ + w_) = R_ (64 * a_ + w_)) (hW_ : 0 < W_) : hrw W_ m_ Q_ a_ = hrw W_ m_ R_ a_ := by
  unfold hrw
  refine congrArg hps (hsw_cg (fun w_ hw_ => ?_))
  have e0_ := h_ 0 hW_
  rw [Nat.add_zero] at e0_
  unfold nrw
  rw [e0_, h_ w_ hw_]

/-! the_ sweep, node by node -/
def sPn (sf_ : Nat → Int) (n_ m_ : Nat) : Prop := m_ < n_ ∧ sf_ m_ = 2 * (m_ : Int)
def m3 (lo_ hi_ sf_ : Nat → Int) (m_ : Nat) : Prop := 1 ≤ sf_ (lo_ m_ / 2).toNat / 2 ∧ 1 ≤ sf_ (hi_ m_ / 2).toNat / 2 ∧ sf_ (lo_ m_ / 2).toNat / 2 ≠ sf_ (hi_ m_ / 2).toNat / 2
/-- what is_ told of_ a_ node: whom it_ stands for_ -/
def sfo (F_ : Nat) (lo_ hi_ sf_ : Nat → Int) (m_ : Nat) : Prop := (0 ≤ sf_ m_ ∧ sf_ m_ ≤ 2 * (m_ : Int) + 1) ∧ sf_ (sf_ m_ / 2).toNat = 2 * (sf_ m_ / 2) ∧ (F_ ≤ m_ → sf_ m_ = 2 * (m_ : Int) → m3 lo_ hi_ sf_ m_)
def sw1 (F_ W_ n_ : Nat) (mk_ : Int) (lo_ hi_ sf_ R_ : Nat → Int) : Prop := ∀ m_, m_ < n_ → sfo F_ lo_ hi_ sf_ m_ ∧ rok W_ mk_ R_ m_ ∧ ∃ t_, tmk mk_ t_ ∧ lik W_ R_ m_ (sf_ m_ / 2).toNat t_
def glo (F_ N_ : Nat) (lo_ hi_ : Nat → Int) : Prop := ∀ k_, F_ ≤ k_ → k_ < N_ → 2 ≤ lo_ k_ ∧ lo_ k_ < hi_ k_ ∧ hi_ k_ < 2 * (k_ : Int)
theorem sfo_cg {F_ n_ m_ : Nat} {lo_ hi_ sf_ sg_ : Nat → Int} (hg_ : F_ ≤ m_ → 2 ≤ lo_ m_ ∧ lo_ m_ < hi_ m_ ∧ hi_ m_ < 2 * (m_ : Int)) (hm_ : m_ < n_) (h_ : sfo F_ lo_ hi_ sf_ m_) (e_ : ∀ k_, k_ < n_ → sg_ k_ = sf_ k_) : sfo F_ lo_ hi_ sg_ m_ := by
  unfold sfo at *
  rw [e_ m_ hm_, e_ _ (by omega)]
  refine ⟨h_.1, h_.2.1, fun a_ b_ => ?_⟩
  have g_ := hg_ a_
  have q_ := h_.2.2 a_ b_
  unfold m3 at *
  rw [e_ _ (by omega), e_ _ (by omega)]
  exact q_
theorem sw_fd {F_ W_ n_ N_ p_ : Nat} {mk_ t_ v_ : Int} {lo_ hi_ sf_ sg_ R_ : Nat → Int} (hg_ : glo F_ N_ lo_ hi_) (hN_ : n_ < N_) (h_ : sw1 F_ W_ n_ mk_ lo_ hi_ sf_ R_) (hr_ : rok W_ mk_ R_ n_) (hp_ : sPn sf_ n_ p_) (ht_ : tmk mk_ t_) (hl_ : lik W_ R_ n_ p_ t_) (hv_ : v_ = 2 * (p_ : Int) + (if t_ = 0 then 0 else 1)) (e_ : ∀ k_, sg_ k_ = if k_ = n_ then v_ else sf_ k_) : sw1 F_ W_ (n_ + 1) mk_ lo_ hi_ sg_ R_ := by
  have e1_ : ∀ k_, k_ < n_ → sg_ k_ = sf_ k_ := fun k_ hk_ => by rw [e_ k_, if_neg (by omega)]
  have en_ : sg_ n_ = v_ := by rw [e_ n_, if_pos rfl]
  have v2_ : v_ / 2 = p_ := by rw [hv_]; split <;> omega
  intro m_ hm_
  by_cases z_ : m_ < n_
  · have q_ := h_ m_ z_
    refine ⟨sfo_cg (fun a_ => hg_ m_ a_ (by omega)) z_ q_.1 e1_, q_.2.1, ?_⟩
    rw [e1_ m_ z_]
    exact q_.2.2
  · have zn_ : m_ = n_ := by omega
    subst zn_
    refine ⟨?_, hr_, t_, ht_, ?_⟩
    · unfold sfo
      rw [en_, v2_, Int.toNat_natCast, e1_ p_ hp_.1, hp_.2]
      have := hp_.1
      refine ⟨?_, rfl, fun _ q_ => ?_⟩
      · rw [hv_]; split <;> omega
      · exfalso; rw [hv_] at q_; split at q_ <;> omega
    · rw [en_, v2_, Int.toNat_natCast]
      exact hl_
theorem sw_nw {F_ W_ n_ N_ : Nat} {mk_ : Int} {lo_ hi_ sf_ sg_ R_ : Nat → Int} (hg_ : glo F_ N_ lo_ hi_) (hF_ : 1 ≤ F_) (hN_ : n_ < N_) (hW_ : 0 < W_) (hm1_ : lcn mk_) (h_ : sw1 F_ W_ n_ mk_ lo_ hi_ sf_ R_) (h0_ : 0 < n_ → ∀ w_, w_ < W_ → R_ w_ = 0) (hr_ : rok W_ mk_ R_ n_) (hx_ : F_ ≤ n_ → ∀ w_, w_ < W_ → R_ (64 * n_ + w_) = l_3 (l_3 (wlt R_ (lo_ n_) w_) (wlt R_ (hi_ n_) w_)) mk_) (hno_ : ∀ p_, sPn sf_ n_ p_ → ∀ t_, tmk mk_ t_ → ¬ lik W_ R_ n_ p_ t_) (e_ : ∀ k_, sg_ k_ = if k_ = n_ then 2 * (n_ : Int) else sf_ k_) (hz_ : 0 < n_ → sf_ 0 = 0) : sw1 F_ W_ (n_ + 1) mk_ lo_ hi_ sg_ R_ := by
  have e1_ : ∀ k_, k_ < n_ → sg_ k_ = sf_ k_ := fun k_ hk_ => by rw [e_ k_, if_neg (by omega)]
  have en_ : sg_ n_ = 2 * (n_ : Int) := by rw [e_ n_, if_pos rfl]
  have v2_ : (2 * (n_ : Int)) / 2 = n_ := by omega
  intro m_ hm_
  by_cases z_ : m_ < n_
  · have q_ := h_ m_ z_
    refine ⟨sfo_cg (fun a_ => hg_ m_ a_ (by omega)) z_ q_.1 e1_, q_.2.1, ?_⟩
    rw [e1_ m_ z_]
    exact q_.2.2
  · have zn_ : m_ = n_ := by omega
    subst zn_
    refine ⟨?_, hr_, 0, Or.inl rfl, ?_⟩
    · unfold sfo
      rw [en_, v2_, Int.toNat_natCast, en_]
      refine ⟨by omega, rfl, fun a_ _ => ?_⟩
      have g_ := hg_ m_ a_ hN_
      obtain ⟨ql_, rl_, tl_, ul_, wl⟩ := h_ (lo_ m_ / 2).toNat (by omega)
      obtain ⟨qh_, rh_, th, uh_, wh_⟩ := h_ (hi_ m_ / 2).toNat (by omega)
      have pl_ : sPn sf_ m_ (sf_ (lo_ m_ / 2).toNat / 2).toNat := ⟨by have := ql_.1; omega, by rw [ql_.2.1]; have := ql_.1; omega⟩
      have ph_ : sPn sf_ m_ (sf_ (hi_ m_ / 2).toNat / 2).toNat := ⟨by have := qh_.1; omega, by rw [qh_.2.1]; have := qh_.1; omega⟩
      obtain ⟨t1_, k1_, x1_⟩ := wlt_l hm1_ rl_ ul_ wl
      obtain ⟨t2_, k2_, x2_⟩ := wlt_l hm1_ rh_ uh_ wh_
      have key_ : ¬ ((sf_ (lo_ m_ / 2).toNat / 2).toNat = 0 ∨ (sf_ (hi_ m_ / 2).toNat / 2).toNat = 0 ∨ (sf_ (lo_ m_ / 2).toNat / 2).toNat = (sf_ (hi_ m_ / 2).toNat / 2).toNat) := by
        intro hc_
        have al_ := and_like (n_ := m_) (z_ := 0) (X_ := fun w_ => l_3 (wlt R_ (lo_ m_) w_) mk_) (Y_ := fun w_ => l_3 (wlt R_ (hi_ m_) w_) mk_) hm1_ (h_ _ pl_.1).2.1 (h_ _ ph_.1).2.1 (fun w_ hw_ => by rw [Nat.mul_zero, Nat.zero_add]; exact h0_ (by omega) w_ hw_) k1_ k2_ x1_ x2_ (fun w_ hw_ => by rw [hx_ a_ w_ hw_, l3_dm]) hc_
        rcases al_ with ⟨t_, c1_, c2_⟩ | ⟨t_, c1_, c2_⟩ | ⟨t_, c1_, c2_⟩
        · exact hno_ 0 ⟨by omega, by rw [hz_ (by omega)]; rfl⟩ t_ c1_ c2_
        · exact hno_ _ pl_ t_ c1_ c2_
        · exact hno_ _ ph_ t_ c1_ c2_
      have b1_ := ql_.1
      have b2_ := qh_.1
      have e9_ : sg_ (lo_ m_ / 2).toNat = sf_ (lo_ m_ / 2).toNat := e1_ _ (by omega)
      have e8_ : sg_ (hi_ m_ / 2).toNat = sf_ (hi_ m_ / 2).toNat := e1_ _ (by omega)
      unfold m3
      rw [e9_, e8_]
      omega
    · rw [en_, v2_, Int.toNat_natCast]
      intro w_ hw_
      exact (l5_0 (rok_c hr_ w_ hw_)).symm
theorem lik_cg {W_ a_ b_ : Nat} {t_ : Int} {R_ Q_ : Nat → Int} (h_ : lik W_ R_ a_ b_ t_) (h1_ : ∀ w_, w_ < W_ → Q_ (64 * a_ + w_) = R_ (64 * a_ + w_)) (h2_ : ∀ w_, w_ < W_ → Q_ (64 * b_ + w_) = R_ (64 * b_ + w_)) : lik W_ Q_ a_ b_ t_ := fun w_ hw_ => by
  rw [h1_ w_ hw_, h2_ w_ hw_]
  exact h_ w_ hw_
theorem rok_cg {W_ a_ : Nat} {m_ : Int} {R_ Q_ : Nat → Int} (h_ : rok W_ m_ R_ a_) (h1_ : ∀ w_, w_ < W_ → Q_ (64 * a_ + w_) = R_ (64 * a_ + w_)) : rok W_ m_ Q_ a_ := fun w_ hw_ => by
  rw [h1_ w_ hw_]
  exact h_ w_ hw_
theorem sw1_cg {F_ W_ n_ : Nat} {mk_ : Int} {lo_ hi_ sf_ R_ Q_ : Nat → Int} (h_ : sw1 F_ W_ n_ mk_ lo_ hi_ sf_ R_) (hW_ : W_ ≤ 64) (hQ_ : ∀ j_, j_ < 64 * n_ → Q_ j_ = R_ j_) : sw1 F_ W_ n_ mk_ lo_ hi_ sf_ Q_ := fun m_ hm_ => by
  obtain ⟨q1_, q2_, t_, q3_, q4_⟩ := h_ m_ hm_
  refine ⟨q1_, rok_cg q2_ (fun w_ hw_ => hQ_ _ (by omega)), t_, q3_, lik_cg q4_ (fun w_ hw_ => hQ_ _ (by omega)) (fun w_ hw_ => hQ_ _ (by have := q1_.1; omega))⟩
/-- which of_ both it_ must be_, if rows are_ alike -/
theorem trn {W_ a_ b_ : Nat} {mk_ t_ tn_ : Int} {R_ : Nat → Int} (hW_ : 0 < W_) (h1_ : l_3 mk_ 1 = 1) (hm_ : lcn mk_) (hb_ : rok W_ mk_ R_ b_) (ht_ : tmk mk_ t_) (h_ : lik W_ R_ a_ b_ t_) (hn_ : (tn_ = 0 ∧ l_3 (l_5 (R_ (64 * a_)) (R_ (64 * b_))) 1 = 0) ∨ (tn_ = mk_ ∧ l_3 (l_5 (R_ (64 * a_)) (R_ (64 * b_))) 1 ≠ 0)) : t_ = tn_ := by
  have e0_ := h_ 0 hW_
  rw [Nat.add_zero, Nat.add_zero] at e0_
  have c0_ : lcn (R_ (64 * b_)) := by have := rok_c hb_ 0 hW_; rw [Nat.add_zero] at this; exact this
  have ct : lcn t_ := by
    rcases ht_ with q_ | q_
    · rw [q_]; show (Int64.ofInt 0).toInt = 0; decide
    · rw [q_]; exact hm_
  have e_ : l_5 (R_ (64 * a_)) (R_ (64 * b_)) = t_ := by
    rw [e0_, l5_c, ← l5_as, l5_self, l5_z ct]
  rw [e_] at hn_
  rcases ht_ with q_ | q_
  · rcases hn_ with ⟨n1_, n2_⟩ | ⟨n1_, n2_⟩
    · rw [q_, n1_]
    · exfalso; rw [q_] at n2_; exact n2_ (by decide)
  · rcases hn_ with ⟨n1_, n2_⟩ | ⟨n1_, n2_⟩
    · exfalso; rw [q_, h1_] at n2_; exact absurd n2_ (by decide)
    · rw [q_, n1_]
theorem lc_0 {x_ y_ : Int} : sm_lcmp x_ y_ = 0 ↔ x_ = y_ := by
  unfold sm_lcmp
  constructor
  · intro h_
    split at h_
    · omega
    · split at h_
      · assumption
      · omega
  · intro h_
    rw [if_neg (by omega), if_pos h_]
end
/-! 99.zg6a -/
section
/-! the class: a row that is like another; written by wip/p55/gen/vg -/
/-! Builder.wordOf -/
def vw_48 : sx_Wl := ([], [], [])
def vq_48 (l_ : Int) (w_ : Int) (S0_ : sm_S) (u_ : Option sm_V) (S1_ : sm_S) : Prop := S0_ = S1_ ∧ ∃ v_ : Int, u_ = some (.inr (.inl v_)) ∧ (v_ = wlt (S0_.2.2.2 32 0) l_ w_.toNat)
set_option maxHeartbeats 400000 in
theorem vc_48 {sc_ : Nat × (Nat → Int)} (l_ : Int) (w_ : Int) (S0_ : sm_S) (hI_ : gi S0_) (hl_ : 0 ≤ l_ ∧ l_ ≤ 2025) (hw_ : 0 ≤ w_ ∧ w_ ≤ 63) : sm_T (mt_P sc_) 0 48 (0, [some (.inr (.inr (some (1, 0)))), some (.inl l_), some (.inl w_), none, none], [], S0_) (fun ro9_ => ∃ u_ S1_, ro9_ = (.inl u_, S1_, 0) ∧ vq_48 l_ w_ S0_ u_ S1_) := by
  have hF_ : ai_fr (sx_W vw_48) S0_ S0_ := ai_fr_rf
  refine sm_T_go 4 (c1 := (6, [some (.inr (.inr (some (1, 0)))), some (.inl l_), some (.inl w_), none, none], [.inl 1, .inl l_, .inr (.inr (some (32, 0)))], S0_)) rfl ?_
  refine sm_T_bin (w := (l_ / 2)) rfl (bi_shr (k := 1) (by decide) (by omega) (by omega)) ?_
  refine sm_T_go 1 (c1 := (9, [some (.inr (.inr (some (1, 0)))), some (.inl l_), some (.inl w_), none, none], [.inl 64, .inl (l_ / 2), .inr (.inr (some (32, 0)))], S0_)) rfl ?_
  refine sm_T_bin (w := 64 * (l_ / 2)) rfl (bi_mul (by omega) (by omega) (by omega)) ?_
  refine sm_T_go 1 (c1 := (11, [some (.inr (.inr (some (1, 0)))), some (.inl l_), some (.inl w_), none, none], [.inl w_, .inl (64 * (l_ / 2)), .inr (.inr (some (32, 0)))], S0_)) rfl ?_
  refine sm_T_bin (w := 64 * (l_ / 2) + w_) rfl (bi_add (by omega) (by omega) (by omega)) ?_
  refine sm_T_lald (n := 64832) rfl rfl (by omega) (by omega) ?_
  refine sm_T_go 3 (c1 := (16, [some (.inr (.inr (some (1, 0)))), some (.inl l_), some (.inl w_), some (.inr (.inl (S0_.2.2.2 32 0 (64 * (l_ / 2) + w_).toNat))), none], [.inl 1, .inl l_], S0_)) rfl ?_
  refine sm_T_bin (w := (l_ % 2)) rfl (bi_msk (k := 1) (by decide)) ?_
  refine sm_T_b0 (a := 1) (z := 7) rfl (fun cx1_ => ?_) (fun cx1_ => ?_)
  · have cx1_ : (l_ % 2) ≠ 0 := of_decide_eq_true cx1_
    refine sm_T_go 1 (c1 := (25, [some (.inr (.inr (some (1, 0)))), some (.inl l_), some (.inl w_), some (.inr (.inl (S0_.2.2.2 32 0 (64 * (l_ / 2) + w_).toNat))), none], [.inr (.inl (S0_.2.2.2 32 0 (64 * (l_ / 2) + w_).toNat))], S0_)) rfl ?_
    refine sm_T_nt (u := some (.inr (.inl (-1)))) (S1 := S0_) rfl rfl rfl ?_
    refine sm_T_go 1 (c1 := (29, [some (.inr (.inr (some (1, 0)))), some (.inl l_), some (.inl w_), some (.inr (.inl (S0_.2.2.2 32 0 (64 * (l_ / 2) + w_).toNat))), none], [.inr (.inl (l_5 ((S0_.2.2.2 32 0 (64 * (l_ / 2) + w_).toNat)) (-1)))], S0_)) rfl ?_
    refine sm_T_rl rfl ⟨_, _, rfl, rfl, _, rfl, ?_⟩
    unfold wlt
    rw [show 64 * (l_ / 2).toNat + w_.toNat = (64 * (l_ / 2) + w_).toNat by omega]
    first | rw [if_pos (by omega)] | rw [if_neg (by omega)]
  · have cx1_ : ¬ ((l_ % 2) ≠ 0) := of_decide_eq_false cx1_
    refine sm_T_go 2 (c1 := (29, [some (.inr (.inr (some (1, 0)))), some (.inl l_), some (.inl w_), some (.inr (.inl (S0_.2.2.2 32 0 (64 * (l_ / 2) + w_).toNat))), none], [.inr (.inl (S0_.2.2.2 32 0 (64 * (l_ / 2) + w_).toNat))], S0_)) rfl ?_
    refine sm_T_rl rfl ⟨_, _, rfl, rfl, _, rfl, ?_⟩
    unfold wlt
    rw [show 64 * (l_ / 2).toNat + w_.toNat = (64 * (l_ / 2) + w_).toNat by omega]
    first | rw [if_pos (by omega)] | rw [if_neg (by omega)]
end
/-! 99.zg6b -/
section
/-! Builder.bitWord -/
/-- how_ far_ a_ row_ is_ like the_ one_ that a_ place of_ the_ table holds -/
def flk (P_ : Nat → Prop) (W_ nd_ : Nat) (mk_ : Int) (u_ R_ : Nat → Int) (pl_ od_ tu_ lk_ w_ : Int) : Prop := ∃ m8_, P_ m8_ ∧ od_ = (m8_ : Int) ∧ u_ pl_.toNat = od_ ∧ ((tu_ = 0 ∧ l_3 (l_5 (R_ (64 * nd_)) (R_ (64 * m8_))) 1 = 0) ∨ (tu_ = mk_ ∧ l_3 (l_5 (R_ (64 * nd_)) (R_ (64 * m8_))) 1 ≠ 0)) ∧ imq (lk_ = 1) (∀ j9_, j9_ < w_.toNat → R_ (64 * nd_ + j9_) = l_5 (R_ (64 * m8_ + j9_)) tu_) ∧ imq (lk_ = 0) (∃ j9_, j9_ < W_ ∧ R_ (64 * nd_ + j9_) ≠ l_5 (R_ (64 * m8_ + j9_)) tu_)
end
/-! 99.zg6c -/
section
/-! Builder.findLike -/
def vw_50 : sx_Wl := ([], [29], [])
def vq_50 (n_ : Int) (hs_ : Int) (mk_ : Int) (P_ : Nat → Prop) (K_ : Nat) (W_ : Nat) (nd_ : Nat) (S0_ : sm_S) (u_ : Option sm_V) (S1_ : sm_S) : Prop := ∃ v_ : Int, u_ = some (.inl v_) ∧ gi S1_ ∧ ai_fr (sx_W vw_50) S0_ S1_ ∧ ((∃ m9_ t_, P_ m9_ ∧ tmk mk_ t_ ∧ lik W_ (S0_.2.2.2 32 0) nd_ m9_ t_ ∧ v_ = 2 * (m9_ : Int) + (if t_ = 0 then 0 else 1) ∧ S1_.2.2.1 29 0 = S0_.2.2.1 29 0) ∨ (v_ = 2 * (nd_ : Int) ∧ bks (fun m9_ => P_ m9_ ∨ m9_ = nd_) (K_ + 1) (hrw W_ mk_ (S0_.2.2.2 32 0)) (S1_.2.2.1 29 0) ∧ ∀ m9_, P_ m9_ → ∀ t_, tmk mk_ t_ → ¬ lik W_ (S0_.2.2.2 32 0) nd_ m9_ t_))
set_option maxHeartbeats 2000000 in
set_option maxRecDepth 20000 in
theorem vl_50 {sc_ : Nat × (Nat → Int)} (n_ : Int) (hs_ : Int) (mk_ : Int) (P_ : Nat → Prop) (K_ : Nat) (W_ : Nat) (nd_ : Nat) (S0_ : sm_S) (hn_ : n_ = (nd_ : Int) ∧ nd_ ≤ 1012) (hW_ : (S0_.1 1 0 13) = (W_ : Int) ∧ 1 ≤ W_ ∧ W_ ≤ 64) (hb_ : bks P_ K_ (hrw W_ mk_ (S0_.2.2.2 32 0)) (S0_.2.2.1 29 0) ∧ K_ ≤ 1013) (hP_ : ∀ m9_, P_ m9_ → m9_ < nd_) (hmk_ : lcn mk_ ∧ l_3 mk_ 1 = 1 ∧ mk_ ≠ 0) (hh_ : hs_ = hsw (nrw mk_ (S0_.2.2.2 32 0) nd_) W_) (hr_ : ∀ m9_, (P_ m9_ ∨ m9_ = nd_) → rok W_ mk_ (S0_.2.2.2 32 0) m9_) : ∀ nn_ : Nat, (∀ (pl_ : Int) (qb_ : Int) (S_ : sm_S), gi S_ → ai_fr (sx_W vw_50) S0_ S_ → ((S_ = S0_) ∧ (0 ≤ qb_ ∧ qb_ ≤ 4096 ∧ pl_ = (((hrw W_ mk_ (S0_.2.2.2 32 0) nd_ + qb_.toNat) % 4096 : Nat) : Int)) ∧ (∀ i9_, i9_ < qb_.toNat → S0_.2.2.1 29 0 ((hrw W_ mk_ (S0_.2.2.2 32 0) nd_ + i9_) % 4096) ≠ -1 ∧ ∀ m9_ : Nat, S0_.2.2.1 29 0 ((hrw W_ mk_ (S0_.2.2.2 32 0) nd_ + i9_) % 4096) = (m9_ : Int) → ∀ t_, tmk mk_ t_ → ¬ lik W_ (S0_.2.2.2 32 0) nd_ m9_ t_) ∧ True) → ((100 * (4097 - qb_) + 99).toNat) < nn_ → sm_T (mt_P sc_) 0 50 (16, [some (.inr (.inr (some (1, 0)))), some (.inl n_), some (.inr (.inl hs_)), none, some (.inr (.inl mk_)), none, some (.inl pl_), some (.inl qb_), none, none, none, none, none], [], S_) (fun ro9_ => ∃ u_ S1_, ro9_ = (.inl u_, S1_, 0) ∧ vq_50 n_ hs_ mk_ P_ K_ W_ nd_ S0_ u_ S1_)) ∧ (∀ (pl_ : Int) (qb_ : Int) (od_ : Int) (tu_ : Int) (lk_ : Int) (w_ : Int) (S_ : sm_S), gi S_ → ai_fr (sx_W vw_50) S0_ S_ → ((S_ = S0_) ∧ (0 ≤ qb_ ∧ qb_ < 4096 ∧ pl_ = (((hrw W_ mk_ (S0_.2.2.2 32 0) nd_ + qb_.toNat) % 4096 : Nat) : Int)) ∧ (∀ i9_, i9_ < qb_.toNat → S0_.2.2.1 29 0 ((hrw W_ mk_ (S0_.2.2.2 32 0) nd_ + i9_) % 4096) ≠ -1 ∧ ∀ m9_ : Nat, S0_.2.2.1 29 0 ((hrw W_ mk_ (S0_.2.2.2 32 0) nd_ + i9_) % 4096) = (m9_ : Int) → ∀ t_, tmk mk_ t_ → ¬ lik W_ (S0_.2.2.2 32 0) nd_ m9_ t_) ∧ (flk P_ W_ nd_ mk_ (S0_.2.2.1 29 0) (S0_.2.2.2 32 0) pl_ od_ tu_ lk_ w_) ∧ (0 ≤ w_ ∧ w_ ≤ (W_ : Int) ∧ (lk_ = 0 ∨ lk_ = 1) ∧ 0 ≤ od_ ∧ od_ ≤ 1012) ∧ True) → ((100 * (4097 - qb_) + 65 - w_).toNat) < nn_ → sm_T (mt_P sc_) 0 50 (85, [some (.inr (.inr (some (1, 0)))), some (.inl n_), some (.inr (.inl hs_)), none, some (.inr (.inl mk_)), none, some (.inl pl_), some (.inl qb_), some (.inl od_), some (.inr (.inl tu_)), none, some (.inl lk_), some (.inl w_)], [], S_) (fun ro9_ => ∃ u_ S1_, ro9_ = (.inl u_, S1_, 0) ∧ vq_50 n_ hs_ mk_ P_ K_ W_ nd_ S0_ u_ S1_)) := by
  intro nn_
  induction nn_ with
  | zero => exact ⟨fun _ _ _ _ _ _ h_ => absurd h_ (Nat.not_lt_zero _), fun _ _ _ _ _ _ _ _ _ _ h_ => absurd h_ (Nat.not_lt_zero _)⟩
  | succ nn_ ih_ =>
    refine ⟨?_, ?_⟩
    · rintro pl_ qb_ S_ hI_ hF_ ⟨hS_, h0_, h1_, -⟩ hm_
      refine sm_T_go 2 (c1 := (21, [some (.inr (.inr (some (1, 0)))), some (.inl n_), some (.inr (.inl hs_)), none, some (.inr (.inl mk_)), none, some (.inl pl_), some (.inl qb_), none, none, none, none, none], [.inl 4096, .inl qb_], S_)) rfl ?_
      refine sm_T_br (a := 3) (z := 162) rfl (fun cx1_ => ?_) (fun cx1_ => ?_)
      · have cx1_ : 4096 ≤ qb_ := of_decide_eq_true cx1_
        refine sm_T_go 4 (c1 := (190, [some (.inr (.inr (some (1, 0)))), some (.inl n_), some (.inr (.inl hs_)), none, some (.inr (.inl mk_)), none, some (.inl pl_), some (.inl qb_), none, none, none, none, none], [.inl n_, .inl pl_, .inr (.inr (some (29, 0)))], S_)) rfl ?_
        refine sm_T_iast (n := 4096) rfl rfl (by omega) (by omega) ?_
        have hIx2_ : gi (sm_aI S_ 29 0 pl_.toNat n_) := gi_aI hI_ (show (-1) ≤ n_ ∧ n_ ≤ 1012 from ⟨by omega, by omega⟩)
        have hFx3_ : ai_fr (sx_W vw_50) S0_ (sm_aI S_ 29 0 pl_.toNat n_) := ai_fr_tr hF_ (ai_fr_aI rfl)
        refine sm_T_go 2 (c1 := (193, [some (.inr (.inr (some (1, 0)))), some (.inl n_), some (.inr (.inl hs_)), none, some (.inr (.inl mk_)), none, some (.inl pl_), some (.inl qb_), none, none, none, none, none], [.inl n_, .inl 2], sm_aI S_ 29 0 pl_.toNat n_)) rfl ?_
        refine sm_T_bin (w := 2 * n_) rfl (bi_mul (by omega) (by omega) (by omega)) ?_
        refine sm_T_ri rfl ⟨_, _, rfl, _, rfl, hIx2_, hFx3_, ?_⟩
        have at9_ : pl_.toNat = (hrw W_ mk_ (S0_.2.2.2 32 0) nd_ + qb_.toNat) % 4096 := by omega
        have em_ : S0_.2.2.1 29 0 ((hrw W_ mk_ (S0_.2.2.2 32 0) nd_ + qb_.toNat) % 4096) = -1 ∧ qb_ < 4096 := by first | (refine ⟨?_, by omega⟩; rw [← at9_, ← hS_]; omega) | (exfalso; exact bks_end (h_ := hrw W_ mk_ (S0_.2.2.2 32 0) nd_) hb_.1 (by omega) (fun i9_ hi9_ => (h1_ i9_ (by omega)).1))
        have no_ := bks_nl (nd_ := nd_) (j_ := qb_.toNat) hb_.1 (by omega) hmk_.2.1 (fun m9_ p9_ => hr_ m9_ (Or.inl p9_)) (fun i9_ hi9_ m9_ hm9_ => (h1_ i9_ hi9_).2 m9_ hm9_) em_.1
        refine Or.inr ⟨by omega, ?_, no_⟩
        refine bks_put (j_ := qb_.toNat) hb_.1 (by omega) (fun i9_ hi9_ => (h1_ i9_ hi9_).1) em_.1 (fun k9_ => ?_)
        rw [rd_eq, at9_, hS_, hn_.1]
      · have cx1_ : ¬ (4096 ≤ qb_) := of_decide_eq_false cx1_
        refine sm_T_go 3 (c1 := (30, [some (.inr (.inr (some (1, 0)))), some (.inl n_), some (.inr (.inl hs_)), none, some (.inr (.inl mk_)), none, some (.inl pl_), some (.inl qb_), none, none, none, none, none], [.inl pl_, .inr (.inr (some (29, 0)))], S_)) rfl ?_
        refine sm_T_iald (n := 4096) rfl rfl (by omega) (by omega) ?_
        have bx4_ : (-1) ≤ S_.2.2.1 29 0 pl_.toNat ∧ S_.2.2.1 29 0 pl_.toNat ≤ 1012 := hI_.2 29 0 _
        refine sm_T_go 1 (c1 := (32, [some (.inr (.inr (some (1, 0)))), some (.inl n_), some (.inr (.inl hs_)), none, some (.inr (.inl mk_)), none, some (.inl pl_), some (.inl qb_), none, none, none, none, none], [.inl (-1), .inl (S_.2.2.1 29 0 pl_.toNat)], S_)) rfl ?_
        refine sm_T_br (a := 0) (z := 151) rfl (fun cx5_ => ?_) (fun cx5_ => ?_)
        · have cx5_ : (S_.2.2.1 29 0 pl_.toNat) = (-1) := of_decide_eq_true cx5_
          refine sm_T_go 4 (c1 := (190, [some (.inr (.inr (some (1, 0)))), some (.inl n_), some (.inr (.inl hs_)), none, some (.inr (.inl mk_)), none, some (.inl pl_), some (.inl qb_), none, none, none, none, none], [.inl n_, .inl pl_, .inr (.inr (some (29, 0)))], S_)) rfl ?_
          refine sm_T_iast (n := 4096) rfl rfl (by omega) (by omega) ?_
          have hIx6_ : gi (sm_aI S_ 29 0 pl_.toNat n_) := gi_aI hI_ (show (-1) ≤ n_ ∧ n_ ≤ 1012 from ⟨by omega, by omega⟩)
          have hFx7_ : ai_fr (sx_W vw_50) S0_ (sm_aI S_ 29 0 pl_.toNat n_) := ai_fr_tr hF_ (ai_fr_aI rfl)
          refine sm_T_go 2 (c1 := (193, [some (.inr (.inr (some (1, 0)))), some (.inl n_), some (.inr (.inl hs_)), none, some (.inr (.inl mk_)), none, some (.inl pl_), some (.inl qb_), none, none, none, none, none], [.inl n_, .inl 2], sm_aI S_ 29 0 pl_.toNat n_)) rfl ?_
          refine sm_T_bin (w := 2 * n_) rfl (bi_mul (by omega) (by omega) (by omega)) ?_
          refine sm_T_ri rfl ⟨_, _, rfl, _, rfl, hIx6_, hFx7_, ?_⟩
          have at9_ : pl_.toNat = (hrw W_ mk_ (S0_.2.2.2 32 0) nd_ + qb_.toNat) % 4096 := by omega
          have em_ : S0_.2.2.1 29 0 ((hrw W_ mk_ (S0_.2.2.2 32 0) nd_ + qb_.toNat) % 4096) = -1 ∧ qb_ < 4096 := by first | (refine ⟨?_, by omega⟩; rw [← at9_, ← hS_]; omega) | (exfalso; exact bks_end (h_ := hrw W_ mk_ (S0_.2.2.2 32 0) nd_) hb_.1 (by omega) (fun i9_ hi9_ => (h1_ i9_ (by omega)).1))
          have no_ := bks_nl (nd_ := nd_) (j_ := qb_.toNat) hb_.1 (by omega) hmk_.2.1 (fun m9_ p9_ => hr_ m9_ (Or.inl p9_)) (fun i9_ hi9_ m9_ hm9_ => (h1_ i9_ hi9_).2 m9_ hm9_) em_.1
          refine Or.inr ⟨by omega, ?_, no_⟩
          refine bks_put (j_ := qb_.toNat) hb_.1 (by omega) (fun i9_ hi9_ => (h1_ i9_ hi9_).1) em_.1 (fun k9_ => ?_)
          rw [rd_eq, at9_, hS_, hn_.1]
        · have cx5_ : ¬ ((S_.2.2.1 29 0 pl_.toNat) = (-1)) := of_decide_eq_false cx5_
          have bm_ := hb_.1.1 pl_.toNat (by omega)
          have u9_ : S_.2.2.1 29 0 pl_.toNat = S0_.2.2.1 29 0 pl_.toNat := by rw [hS_]
          obtain ⟨m8_, p8, o8_⟩ : ∃ m8_, P_ m8_ ∧ S0_.2.2.1 29 0 pl_.toNat = (m8_ : Int) := by rcases bm_ with q9_ | q9_; (exfalso; omega); (exact q9_)
          clear bm_
          have m8n := hP_ m8_ p8
          refine sm_T_go 3 (c1 := (41, [some (.inr (.inr (some (1, 0)))), some (.inl n_), some (.inr (.inl hs_)), none, some (.inr (.inl mk_)), none, some (.inl pl_), some (.inl qb_), none, none, none, none, none], [.inl pl_, .inr (.inr (some (29, 0)))], S_)) rfl ?_
          refine sm_T_iald (n := 4096) rfl rfl (by omega) (by omega) ?_
          refine sm_T_go 5 (c1 := (51, [some (.inr (.inr (some (1, 0)))), some (.inl n_), some (.inr (.inl hs_)), none, some (.inr (.inl mk_)), none, some (.inl pl_), some (.inl qb_), some (.inl (S_.2.2.1 29 0 pl_.toNat)), none, none, none, none], [.inl 64, .inl n_, .inr (.inr (some (32, 0)))], S_)) rfl ?_
          refine sm_T_bin (w := 64 * n_) rfl (bi_mul (by omega) (by omega) (by omega)) ?_
          refine sm_T_lald (n := 64832) rfl rfl (by omega) (by omega) ?_
          refine sm_T_go 4 (c1 := (61, [some (.inr (.inr (some (1, 0)))), some (.inl n_), some (.inr (.inl hs_)), none, some (.inr (.inl mk_)), none, some (.inl pl_), some (.inl qb_), some (.inl (S_.2.2.1 29 0 pl_.toNat)), none, none, none, none], [.inl 64, .inl (S_.2.2.1 29 0 pl_.toNat), .inr (.inr (some (32, 0))), .inr (.inl (S_.2.2.2 32 0 (64 * n_).toNat))], S_)) rfl ?_
          refine sm_T_bin (w := 64 * (S_.2.2.1 29 0 pl_.toNat)) rfl (bi_mul (by omega) (by omega) (by omega)) ?_
          refine sm_T_lald (n := 64832) rfl rfl (by omega) (by omega) ?_
          refine sm_T_go 5 (c1 := (68, [some (.inr (.inr (some (1, 0)))), some (.inl n_), some (.inr (.inl hs_)), none, some (.inr (.inl mk_)), none, some (.inl pl_), some (.inl qb_), some (.inl (S_.2.2.1 29 0 pl_.toNat)), none, none, none, none], [.inl (sm_lcmp ((l_3 ((l_5 ((S_.2.2.2 32 0 (64 * n_).toNat)) ((S_.2.2.2 32 0 (64 * (S_.2.2.1 29 0 pl_.toNat)).toNat)))) 1)) 0)], S_)) rfl ?_
          refine sm_T_b0 (a := 1) (z := 7) rfl (fun cx8_ => ?_) (fun cx8_ => ?_)
          · have cx8_ : (sm_lcmp ((l_3 ((l_5 ((S_.2.2.2 32 0 (64 * n_).toNat)) ((S_.2.2.2 32 0 (64 * (S_.2.2.1 29 0 pl_.toNat)).toNat)))) 1)) 0) ≠ 0 := of_decide_eq_true cx8_
            refine sm_T_go 6 (c1 := (85, [some (.inr (.inr (some (1, 0)))), some (.inl n_), some (.inr (.inl hs_)), none, some (.inr (.inl mk_)), none, some (.inl pl_), some (.inl qb_), some (.inl (S_.2.2.1 29 0 pl_.toNat)), some (.inr (.inl mk_)), none, some (.inl 1), some (.inl 0)], [], S_)) rfl ?_
            refine ih_.2 pl_ qb_ (S_.2.2.1 29 0 pl_.toNat) mk_ 1 0 S_ hI_ hF_ ⟨?_, ?_, ?_, ?_, ?_, trivial⟩ ?_
            · exact hS_
            · omega
            · exact h1_
            · refine ⟨m8_, p8, by omega, by omega, ?_, fun _ j9_ hj9_ => absurd hj9_ (Nat.not_lt_zero _), fun z9_ => absurd z9_ (by decide)⟩
              have i1_ : 64 * nd_ = (64 * n_).toNat := by omega
              have i2_ : 64 * m8_ = (64 * S_.2.2.1 29 0 pl_.toNat).toNat := by omega
              rw [i1_, i2_, ← hS_]
              first | exact Or.inl ⟨rfl, lc_0.mp (by omega)⟩ | exact Or.inr ⟨rfl, fun q9_ => by have := lc_0.mpr q9_; omega⟩
            · omega
            · omega
          · have cx8_ : ¬ ((sm_lcmp ((l_3 ((l_5 ((S_.2.2.2 32 0 (64 * n_).toNat)) ((S_.2.2.2 32 0 (64 * (S_.2.2.1 29 0 pl_.toNat)).toNat)))) 1)) 0) ≠ 0) := of_decide_eq_false cx8_
            refine sm_T_go 7 (c1 := (85, [some (.inr (.inr (some (1, 0)))), some (.inl n_), some (.inr (.inl hs_)), none, some (.inr (.inl mk_)), none, some (.inl pl_), some (.inl qb_), some (.inl (S_.2.2.1 29 0 pl_.toNat)), some (.inr (.inl 0)), none, some (.inl 1), some (.inl 0)], [], S_)) rfl ?_
            refine ih_.2 pl_ qb_ (S_.2.2.1 29 0 pl_.toNat) 0 1 0 S_ hI_ hF_ ⟨?_, ?_, ?_, ?_, ?_, trivial⟩ ?_
            · exact hS_
            · omega
            · exact h1_
            · refine ⟨m8_, p8, by omega, by omega, ?_, fun _ j9_ hj9_ => absurd hj9_ (Nat.not_lt_zero _), fun z9_ => absurd z9_ (by decide)⟩
              have i1_ : 64 * nd_ = (64 * n_).toNat := by omega
              have i2_ : 64 * m8_ = (64 * S_.2.2.1 29 0 pl_.toNat).toNat := by omega
              rw [i1_, i2_, ← hS_]
              first | exact Or.inl ⟨rfl, lc_0.mp (by omega)⟩ | exact Or.inr ⟨rfl, fun q9_ => by have := lc_0.mpr q9_; omega⟩
            · omega
            · omega
    · rintro pl_ qb_ od_ tu_ lk_ w_ S_ hI_ hF_ ⟨hS_, h0_, h1_, h2_, h3_, -⟩ hm_
      have w9_ : S_.1 1 0 13 = (W_ : Int) := by rw [hS_]; exact hW_.1
      have bx1_ : 0 ≤ S_.1 1 0 13 ∧ S_.1 1 0 13 ≤ 64 := hI_.1 1 0 13 rfl
      refine sm_T_go 3 (c1 := (91, [some (.inr (.inr (some (1, 0)))), some (.inl n_), some (.inr (.inl hs_)), none, some (.inr (.inl mk_)), none, some (.inl pl_), some (.inl qb_), some (.inl od_), some (.inr (.inl tu_)), none, some (.inl lk_), some (.inl w_)], [.inl (S_.1 1 0 13), .inl w_], S_)) rfl ?_
      refine sm_T_br (a := 3) (z := 53) rfl (fun cx2_ => ?_) (fun cx2_ => ?_)
      · have cx2_ : (S_.1 1 0 13) ≤ w_ := of_decide_eq_true cx2_
        refine sm_T_go 1 (c1 := (146, [some (.inr (.inr (some (1, 0)))), some (.inl n_), some (.inr (.inl hs_)), none, some (.inr (.inl mk_)), none, some (.inl pl_), some (.inl qb_), some (.inl od_), some (.inr (.inl tu_)), none, some (.inl lk_), some (.inl w_)], [.inl lk_], S_)) rfl ?_
        refine sm_T_b0 (a := 0) (z := 21) rfl (fun cx3_ => ?_) (fun cx3_ => ?_)
        · have cx3_ : lk_ = 0 := of_decide_eq_true cx3_
          refine sm_T_go 2 (c1 := (170, [some (.inr (.inr (some (1, 0)))), some (.inl n_), some (.inr (.inl hs_)), none, some (.inr (.inl mk_)), none, some (.inl pl_), some (.inl qb_), some (.inl od_), some (.inr (.inl tu_)), none, some (.inl lk_), some (.inl w_)], [.inl 1, .inl pl_], S_)) rfl ?_
          refine sm_T_bin (w := pl_ + 1) rfl (bi_add (by omega) (by omega) (by omega)) ?_
          refine sm_T_go 1 (c1 := (174, [some (.inr (.inr (some (1, 0)))), some (.inl n_), some (.inr (.inl hs_)), none, some (.inr (.inl mk_)), none, some (.inl pl_), some (.inl qb_), some (.inl od_), some (.inr (.inl tu_)), none, some (.inl lk_), some (.inl w_)], [.inl 4095, .inl (pl_ + 1)], S_)) rfl ?_
          refine sm_T_bin (w := ((pl_ + 1) % 4096)) rfl (bi_msk (k := 12) (by decide)) ?_
          refine sm_T_go 1 (c1 := (177, [some (.inr (.inr (some (1, 0)))), some (.inl n_), some (.inr (.inl hs_)), none, some (.inr (.inl mk_)), none, some (.inl ((pl_ + 1) % 4096)), some (.inl qb_), some (.inl od_), some (.inr (.inl tu_)), none, some (.inl lk_), some (.inl w_)], [], S_)) rfl ?_
          refine sm_T_inc (a := 7) (z := 1) (v := qb_) (w := qb_ + 1) rfl rfl (by omega) (by omega) (by omega) ?_
          refine sm_T_go 1 (c1 := (16, [some (.inr (.inr (some (1, 0)))), some (.inl n_), some (.inr (.inl hs_)), none, some (.inr (.inl mk_)), none, some (.inl ((pl_ + 1) % 4096)), some (.inl (qb_ + 1)), some (.inl od_), some (.inr (.inl tu_)), none, some (.inl lk_), some (.inl w_)], [], S_)) rfl ?_
          refine sm_T_wk [some (.inr (.inr (some (1, 0)))), some (.inl n_), some (.inr (.inl hs_)), none, some (.inr (.inl mk_)), none, some (.inl ((pl_ + 1) % 4096)), some (.inl (qb_ + 1)), none, none, none, none, none] (by exact ⟨rfl, rfl, rfl, rfl, rfl, rfl, trivial⟩) ?_
          refine ih_.1 ((pl_ + 1) % 4096) (qb_ + 1) S_ hI_ hF_ ⟨?_, ?_, ?_, trivial⟩ ?_
          · exact hS_
          · omega
          · obtain ⟨m8_, p8, o8_, o9_, tr_, l1_, l0_⟩ := h2_
            obtain ⟨j8_, j9_, j10_⟩ := l0_ (by omega)
            intro i9_ hi9_
            by_cases q9_ : i9_ < qb_.toNat
            · exact h1_ i9_ q9_
            · have q8_ : i9_ = qb_.toNat := by omega
              rw [q8_, show (hrw W_ mk_ (S0_.2.2.2 32 0) nd_ + qb_.toNat) % 4096 = pl_.toNat by omega, o9_, o8_]
              refine ⟨by omega, fun m9_ hm9_ t9_ k9_ k8_ => ?_⟩
              have mm9_ : m9_ = m8_ := by omega
              rw [mm9_] at k8_
              have e9_ := trn (by omega) hmk_.2.1 hmk_.1 (hr_ m8_ (Or.inl p8)) k9_ k8_ tr_
              rw [← e9_] at j10_
              exact j10_ (k8_ j8_ j9_)
          · omega
        · have cx3_ : ¬ (lk_ = 0) := of_decide_eq_false cx3_
          refine sm_T_go 2 (c1 := (152, [some (.inr (.inr (some (1, 0)))), some (.inl n_), some (.inr (.inl hs_)), none, some (.inr (.inl mk_)), none, some (.inl pl_), some (.inl qb_), some (.inl od_), some (.inr (.inl tu_)), none, some (.inl lk_), some (.inl w_)], [.inl od_, .inl 2], S_)) rfl ?_
          refine sm_T_bin (w := 2 * od_) rfl (bi_mul (by omega) (by omega) (by omega)) ?_
          refine sm_T_go 3 (c1 := (157, [some (.inr (.inr (some (1, 0)))), some (.inl n_), some (.inr (.inl hs_)), none, some (.inr (.inl mk_)), none, some (.inl pl_), some (.inl qb_), some (.inl od_), some (.inr (.inl tu_)), none, some (.inl lk_), some (.inl w_)], [.inl (sm_lcmp tu_ 0), .inl (2 * od_)], S_)) rfl ?_
          refine sm_T_b0 (a := 1) (z := 7) rfl (fun cx4_ => ?_) (fun cx4_ => ?_)
          · have cx4_ : (sm_lcmp tu_ 0) ≠ 0 := of_decide_eq_true cx4_
            refine sm_T_go 1 (c1 := (165, [some (.inr (.inr (some (1, 0)))), some (.inl n_), some (.inr (.inl hs_)), none, some (.inr (.inl mk_)), none, some (.inl pl_), some (.inl qb_), some (.inl od_), some (.inr (.inl tu_)), none, some (.inl lk_), some (.inl w_)], [.inl 1, .inl (2 * od_)], S_)) rfl ?_
            refine sm_T_bin (w := 2 * od_ + 1) rfl (bi_add (by omega) (by omega) (by omega)) ?_
            refine sm_T_ri rfl ⟨_, _, rfl, _, rfl, hI_, hF_, ?_⟩
            obtain ⟨m8_, p8, o8_, o9_, tr_, l1_, l0_⟩ := h2_
            have ll_ : lik W_ (S0_.2.2.2 32 0) nd_ m8_ tu_ := fun w9_ hw9_ => l1_ (by omega) w9_ (by omega)
            refine Or.inl ⟨m8_, tu_, p8, ?_, ll_, ?_, by rw [hS_]⟩
            · rcases tr_ with q9_ | q9_; exact Or.inl q9_.1; exact Or.inr q9_.1
            · first | (have z9_ := lc_0.mp (of_decide_eq_true rfl |> fun _ => cx4_); skip) | skip
              first | (rw [if_pos (lc_0.mp (by omega))]; omega) | (rw [if_neg (fun q9_ => by have := lc_0.mpr q9_; omega)]; omega)
          · have cx4_ : ¬ ((sm_lcmp tu_ 0) ≠ 0) := of_decide_eq_false cx4_
            refine sm_T_go 2 (c1 := (165, [some (.inr (.inr (some (1, 0)))), some (.inl n_), some (.inr (.inl hs_)), none, some (.inr (.inl mk_)), none, some (.inl pl_), some (.inl qb_), some (.inl od_), some (.inr (.inl tu_)), none, some (.inl lk_), some (.inl w_)], [.inl 0, .inl (2 * od_)], S_)) rfl ?_
            refine sm_T_bin (w := 2 * od_) rfl (bi_add (by omega) (by omega) (by omega)) ?_
            refine sm_T_ri rfl ⟨_, _, rfl, _, rfl, hI_, hF_, ?_⟩
            obtain ⟨m8_, p8, o8_, o9_, tr_, l1_, l0_⟩ := h2_
            have ll_ : lik W_ (S0_.2.2.2 32 0) nd_ m8_ tu_ := fun w9_ hw9_ => l1_ (by omega) w9_ (by omega)
            refine Or.inl ⟨m8_, tu_, p8, ?_, ll_, ?_, by rw [hS_]⟩
            · rcases tr_ with q9_ | q9_; exact Or.inl q9_.1; exact Or.inr q9_.1
            · first | (have z9_ := lc_0.mp (of_decide_eq_true rfl |> fun _ => cx4_); skip) | skip
              first | (rw [if_pos (lc_0.mp (by omega))]; omega) | (rw [if_neg (fun q9_ => by have := lc_0.mpr q9_; omega)]; omega)
      · have cx2_ : ¬ ((S_.1 1 0 13) ≤ w_) := of_decide_eq_false cx2_
        refine sm_T_go 1 (c1 := (96, [some (.inr (.inr (some (1, 0)))), some (.inl n_), some (.inr (.inl hs_)), none, some (.inr (.inl mk_)), none, some (.inl pl_), some (.inl qb_), some (.inl od_), some (.inr (.inl tu_)), none, some (.inl lk_), some (.inl w_)], [.inl lk_], S_)) rfl ?_
        refine sm_T_b0 (a := 0) (z := 48) rfl (fun cx5_ => ?_) (fun cx5_ => ?_)
        · have cx5_ : lk_ = 0 := of_decide_eq_true cx5_
          refine sm_T_go 1 (c1 := (146, [some (.inr (.inr (some (1, 0)))), some (.inl n_), some (.inr (.inl hs_)), none, some (.inr (.inl mk_)), none, some (.inl pl_), some (.inl qb_), some (.inl od_), some (.inr (.inl tu_)), none, some (.inl lk_), some (.inl w_)], [.inl lk_], S_)) rfl ?_
          refine sm_T_b0 (a := 0) (z := 21) rfl (fun cx6_ => ?_) (fun cx6_ => ?_)
          · have cx6_ : lk_ = 0 := of_decide_eq_true cx6_
            refine sm_T_go 2 (c1 := (170, [some (.inr (.inr (some (1, 0)))), some (.inl n_), some (.inr (.inl hs_)), none, some (.inr (.inl mk_)), none, some (.inl pl_), some (.inl qb_), some (.inl od_), some (.inr (.inl tu_)), none, some (.inl lk_), some (.inl w_)], [.inl 1, .inl pl_], S_)) rfl ?_
            refine sm_T_bin (w := pl_ + 1) rfl (bi_add (by omega) (by omega) (by omega)) ?_
            refine sm_T_go 1 (c1 := (174, [some (.inr (.inr (some (1, 0)))), some (.inl n_), some (.inr (.inl hs_)), none, some (.inr (.inl mk_)), none, some (.inl pl_), some (.inl qb_), some (.inl od_), some (.inr (.inl tu_)), none, some (.inl lk_), some (.inl w_)], [.inl 4095, .inl (pl_ + 1)], S_)) rfl ?_
            refine sm_T_bin (w := ((pl_ + 1) % 4096)) rfl (bi_msk (k := 12) (by decide)) ?_
            refine sm_T_go 1 (c1 := (177, [some (.inr (.inr (some (1, 0)))), some (.inl n_), some (.inr (.inl hs_)), none, some (.inr (.inl mk_)), none, some (.inl ((pl_ + 1) % 4096)), some (.inl qb_), some (.inl od_), some (.inr (.inl tu_)), none, some (.inl lk_), some (.inl w_)], [], S_)) rfl ?_
            refine sm_T_inc (a := 7) (z := 1) (v := qb_) (w := qb_ + 1) rfl rfl (by omega) (by omega) (by omega) ?_
            refine sm_T_go 1 (c1 := (16, [some (.inr (.inr (some (1, 0)))), some (.inl n_), some (.inr (.inl hs_)), none, some (.inr (.inl mk_)), none, some (.inl ((pl_ + 1) % 4096)), some (.inl (qb_ + 1)), some (.inl od_), some (.inr (.inl tu_)), none, some (.inl lk_), some (.inl w_)], [], S_)) rfl ?_
            refine sm_T_wk [some (.inr (.inr (some (1, 0)))), some (.inl n_), some (.inr (.inl hs_)), none, some (.inr (.inl mk_)), none, some (.inl ((pl_ + 1) % 4096)), some (.inl (qb_ + 1)), none, none, none, none, none] (by exact ⟨rfl, rfl, rfl, rfl, rfl, rfl, trivial⟩) ?_
            refine ih_.1 ((pl_ + 1) % 4096) (qb_ + 1) S_ hI_ hF_ ⟨?_, ?_, ?_, trivial⟩ ?_
            · exact hS_
            · omega
            · obtain ⟨m8_, p8, o8_, o9_, tr_, l1_, l0_⟩ := h2_
              obtain ⟨j8_, j9_, j10_⟩ := l0_ (by omega)
              intro i9_ hi9_
              by_cases q9_ : i9_ < qb_.toNat
              · exact h1_ i9_ q9_
              · have q8_ : i9_ = qb_.toNat := by omega
                rw [q8_, show (hrw W_ mk_ (S0_.2.2.2 32 0) nd_ + qb_.toNat) % 4096 = pl_.toNat by omega, o9_, o8_]
                refine ⟨by omega, fun m9_ hm9_ t9_ k9_ k8_ => ?_⟩
                have mm9_ : m9_ = m8_ := by omega
                rw [mm9_] at k8_
                have e9_ := trn (by omega) hmk_.2.1 hmk_.1 (hr_ m8_ (Or.inl p8)) k9_ k8_ tr_
                rw [← e9_] at j10_
                exact j10_ (k8_ j8_ j9_)
            · omega
          · have cx6_ : ¬ (lk_ = 0) := of_decide_eq_false cx6_
            exfalso; omega
        · have cx5_ : ¬ (lk_ = 0) := of_decide_eq_false cx5_
          refine sm_T_go 4 (c1 := (106, [some (.inr (.inr (some (1, 0)))), some (.inl n_), some (.inr (.inl hs_)), none, some (.inr (.inl mk_)), none, some (.inl pl_), some (.inl qb_), some (.inl od_), some (.inr (.inl tu_)), none, some (.inl lk_), some (.inl w_)], [.inl 64, .inl n_, .inr (.inr (some (32, 0)))], S_)) rfl ?_
          refine sm_T_bin (w := 64 * n_) rfl (bi_mul (by omega) (by omega) (by omega)) ?_
          refine sm_T_go 1 (c1 := (109, [some (.inr (.inr (some (1, 0)))), some (.inl n_), some (.inr (.inl hs_)), none, some (.inr (.inl mk_)), none, some (.inl pl_), some (.inl qb_), some (.inl od_), some (.inr (.inl tu_)), none, some (.inl lk_), some (.inl w_)], [.inl w_, .inl (64 * n_), .inr (.inr (some (32, 0)))], S_)) rfl ?_
          refine sm_T_bin (w := 64 * n_ + w_) rfl (bi_add (by omega) (by omega) (by omega)) ?_
          refine sm_T_lald (n := 64832) rfl rfl (by omega) (by omega) ?_
          refine sm_T_go 4 (c1 := (119, [some (.inr (.inr (some (1, 0)))), some (.inl n_), some (.inr (.inl hs_)), none, some (.inr (.inl mk_)), none, some (.inl pl_), some (.inl qb_), some (.inl od_), some (.inr (.inl tu_)), none, some (.inl lk_), some (.inl w_)], [.inl 64, .inl od_, .inr (.inr (some (32, 0))), .inr (.inl (S_.2.2.2 32 0 (64 * n_ + w_).toNat))], S_)) rfl ?_
          refine sm_T_bin (w := 64 * od_) rfl (bi_mul (by omega) (by omega) (by omega)) ?_
          refine sm_T_go 1 (c1 := (122, [some (.inr (.inr (some (1, 0)))), some (.inl n_), some (.inr (.inl hs_)), none, some (.inr (.inl mk_)), none, some (.inl pl_), some (.inl qb_), some (.inl od_), some (.inr (.inl tu_)), none, some (.inl lk_), some (.inl w_)], [.inl w_, .inl (64 * od_), .inr (.inr (some (32, 0))), .inr (.inl (S_.2.2.2 32 0 (64 * n_ + w_).toNat))], S_)) rfl ?_
          refine sm_T_bin (w := 64 * od_ + w_) rfl (bi_add (by omega) (by omega) (by omega)) ?_
          refine sm_T_lald (n := 64832) rfl rfl (by omega) (by omega) ?_
          refine sm_T_go 3 (c1 := (128, [some (.inr (.inr (some (1, 0)))), some (.inl n_), some (.inr (.inl hs_)), none, some (.inr (.inl mk_)), none, some (.inl pl_), some (.inl qb_), some (.inl od_), some (.inr (.inl tu_)), none, some (.inl lk_), some (.inl w_)], [.inl (sm_lcmp ((S_.2.2.2 32 0 (64 * n_ + w_).toNat)) ((l_5 ((S_.2.2.2 32 0 (64 * od_ + w_).toNat)) tu_)))], S_)) rfl ?_
          refine sm_T_b0 (a := 1) (z := 7) rfl (fun cx7_ => ?_) (fun cx7_ => ?_)
          · have cx7_ : (sm_lcmp ((S_.2.2.2 32 0 (64 * n_ + w_).toNat)) ((l_5 ((S_.2.2.2 32 0 (64 * od_ + w_).toNat)) tu_))) ≠ 0 := of_decide_eq_true cx7_
            refine sm_T_go 2 (c1 := (138, [some (.inr (.inr (some (1, 0)))), some (.inl n_), some (.inr (.inl hs_)), none, some (.inr (.inl mk_)), none, some (.inl pl_), some (.inl qb_), some (.inl od_), some (.inr (.inl tu_)), none, some (.inl 0), some (.inl w_)], [], S_)) rfl ?_
            refine sm_T_inc (a := 12) (z := 1) (v := w_) (w := w_ + 1) rfl rfl (by omega) (by omega) (by omega) ?_
            refine sm_T_go 1 (c1 := (85, [some (.inr (.inr (some (1, 0)))), some (.inl n_), some (.inr (.inl hs_)), none, some (.inr (.inl mk_)), none, some (.inl pl_), some (.inl qb_), some (.inl od_), some (.inr (.inl tu_)), none, some (.inl 0), some (.inl (w_ + 1))], [], S_)) rfl ?_
            refine ih_.2 pl_ qb_ od_ tu_ 0 (w_ + 1) S_ hI_ hF_ ⟨?_, ?_, ?_, ?_, ?_, trivial⟩ ?_
            · exact hS_
            · omega
            · exact h1_
            · obtain ⟨m8_, p8, o8_, o9_, tr_, l1_, l0_⟩ := h2_
              have m8n := hP_ m8_ p8
              have i1_ : (64 * n_ + w_).toNat = 64 * nd_ + w_.toNat := by omega
              have i2_ : (64 * od_ + w_).toNat = 64 * m8_ + w_.toNat := by omega
              have l1b := l1_ (by omega)
              rw [i1_, i2_, hS_] at cx7_
              first | (refine ⟨m8_, p8, o8_, o9_, tr_, fun _ j9_ hj9_ => ?_, fun z9_ => absurd z9_ (by decide)⟩; have z9_ := lc_0.mp (Classical.not_not.mp cx7_); by_cases q9_ : j9_ < w_.toNat; (exact l1b j9_ q9_); (rw [show j9_ = w_.toNat by omega]; exact z9_)) | (refine ⟨m8_, p8, o8_, o9_, tr_, fun z9_ => absurd z9_ (by decide), fun _ => ⟨w_.toNat, by omega, fun q9_ => cx7_ (lc_0.mpr q9_)⟩⟩)
            · omega
            · omega
          · have cx7_ : ¬ ((sm_lcmp ((S_.2.2.2 32 0 (64 * n_ + w_).toNat)) ((l_5 ((S_.2.2.2 32 0 (64 * od_ + w_).toNat)) tu_))) ≠ 0) := of_decide_eq_false cx7_
            refine sm_T_go 3 (c1 := (138, [some (.inr (.inr (some (1, 0)))), some (.inl n_), some (.inr (.inl hs_)), none, some (.inr (.inl mk_)), none, some (.inl pl_), some (.inl qb_), some (.inl od_), some (.inr (.inl tu_)), none, some (.inl 1), some (.inl w_)], [], S_)) rfl ?_
            refine sm_T_inc (a := 12) (z := 1) (v := w_) (w := w_ + 1) rfl rfl (by omega) (by omega) (by omega) ?_
            refine sm_T_go 1 (c1 := (85, [some (.inr (.inr (some (1, 0)))), some (.inl n_), some (.inr (.inl hs_)), none, some (.inr (.inl mk_)), none, some (.inl pl_), some (.inl qb_), some (.inl od_), some (.inr (.inl tu_)), none, some (.inl 1), some (.inl (w_ + 1))], [], S_)) rfl ?_
            refine ih_.2 pl_ qb_ od_ tu_ 1 (w_ + 1) S_ hI_ hF_ ⟨?_, ?_, ?_, ?_, ?_, trivial⟩ ?_
            · exact hS_
            · omega
            · exact h1_
            · obtain ⟨m8_, p8, o8_, o9_, tr_, l1_, l0_⟩ := h2_
              have m8n := hP_ m8_ p8
              have i1_ : (64 * n_ + w_).toNat = 64 * nd_ + w_.toNat := by omega
              have i2_ : (64 * od_ + w_).toNat = 64 * m8_ + w_.toNat := by omega
              have l1b := l1_ (by omega)
              rw [i1_, i2_, hS_] at cx7_
              first | (refine ⟨m8_, p8, o8_, o9_, tr_, fun _ j9_ hj9_ => ?_, fun z9_ => absurd z9_ (by decide)⟩; have z9_ := lc_0.mp (Classical.not_not.mp cx7_); by_cases q9_ : j9_ < w_.toNat; (exact l1b j9_ q9_); (rw [show j9_ = w_.toNat by omega]; exact z9_)) | (refine ⟨m8_, p8, o8_, o9_, tr_, fun z9_ => absurd z9_ (by decide), fun _ => ⟨w_.toNat, by omega, fun q9_ => cx7_ (lc_0.mpr q9_)⟩⟩)
            · omega
            · omega
set_option maxHeartbeats 2000000 in
set_option maxRecDepth 20000 in
theorem vc_50 {sc_ : Nat × (Nat → Int)} (n_ : Int) (hs_ : Int) (mk_ : Int) (P_ : Nat → Prop) (K_ : Nat) (W_ : Nat) (nd_ : Nat) (S0_ : sm_S) (hI_ : gi S0_) (hn_ : n_ = (nd_ : Int) ∧ nd_ ≤ 1012) (hW_ : (S0_.1 1 0 13) = (W_ : Int) ∧ 1 ≤ W_ ∧ W_ ≤ 64) (hb_ : bks P_ K_ (hrw W_ mk_ (S0_.2.2.2 32 0)) (S0_.2.2.1 29 0) ∧ K_ ≤ 1013) (hP_ : ∀ m9_, P_ m9_ → m9_ < nd_) (hmk_ : lcn mk_ ∧ l_3 mk_ 1 = 1 ∧ mk_ ≠ 0) (hh_ : hs_ = hsw (nrw mk_ (S0_.2.2.2 32 0) nd_) W_) (hr_ : ∀ m9_, (P_ m9_ ∨ m9_ = nd_) → rok W_ mk_ (S0_.2.2.2 32 0) m9_) : sm_T (mt_P sc_) 0 50 (0, [some (.inr (.inr (some (1, 0)))), some (.inl n_), some (.inr (.inl hs_)), none, some (.inr (.inl mk_)), none, none, none, none, none, none, none, none], [], S0_) (fun ro9_ => ∃ u_ S1_, ro9_ = (.inl u_, S1_, 0) ∧ vq_50 n_ hs_ mk_ P_ K_ W_ nd_ S0_ u_ S1_) := by
  have hF_ : ai_fr (sx_W vw_50) S0_ S0_ := ai_fr_rf
  refine sm_T_go 7 (c1 := (10, [some (.inr (.inr (some (1, 0)))), some (.inl n_), some (.inr (.inl hs_)), none, some (.inr (.inl mk_)), none, none, none, none, none, none, none, none], [.inl 4095, .inl (l_l2i ((l_5 hs_ ((l_s2 hs_ 32)))))], S0_)) rfl ?_
  refine sm_T_bin (w := ((l_l2i ((l_5 hs_ ((l_s2 hs_ 32))))) % 4096)) rfl (bi_msk (k := 12) (by decide)) ?_
  refine sm_T_go 3 (c1 := (16, [some (.inr (.inr (some (1, 0)))), some (.inl n_), some (.inr (.inl hs_)), none, some (.inr (.inl mk_)), none, some (.inl ((l_l2i ((l_5 hs_ ((l_s2 hs_ 32))))) % 4096)), some (.inl 0), none, none, none, none, none], [], S0_)) rfl ?_
  refine (vl_50 n_ hs_ mk_ P_ K_ W_ nd_ S0_ hn_ hW_ hb_ hP_ hmk_ hh_ hr_ _).1 ((l_l2i ((l_5 hs_ ((l_s2 hs_ 32))))) % 4096) 0 S0_ hI_ hF_ ⟨?_, ?_, ?_, trivial⟩ (Nat.lt_succ_self _)
  · rfl
  · (refine ⟨by decide, by decide, ?_⟩; rw [hh_]; show _ = ((_ : Nat) : Int); unfold hrw hps; simp only [Int.toNat_zero, Nat.add_zero]; omega)
  · (intro i9_ hi9_; exact absurd hi9_ (Nat.not_lt_zero _))
end
/-! 99.zg7a -/
section
/-! the class: the sweep; written by wip/p55/gen/vg -/

/-! the_ sweep -/
theorem mkb_all : ∀ b_ : Fin 6, (Int64.ofInt (l_1 (l_s0 1 (i_shl 1 ((b_ : Nat) : Int))) 1)).toInt = l_1 (l_s0 1 (i_shl 1 ((b_ : Nat) : Int))) 1 ∧ l_3 (l_1 (l_s0 1 (i_shl 1 ((b_ : Nat) : Int))) 1) 1 = 1 ∧ l_1 (l_s0 1 (i_shl 1 ((b_ : Nat) : Int))) 1 ≠ 0 := by decide +kernel
theorem mkb {b_ : Int} (h_ : 0 ≤ b_ ∧ b_ < 6) : lcn (l_1 (l_s0 1 (i_shl 1 b_)) 1) ∧ l_3 (l_1 (l_s0 1 (i_shl 1 b_)) 1) 1 = 1 ∧ l_1 (l_s0 1 (i_shl 1 b_)) 1 ≠ 0 := by
  have k_ := mkb_all ⟨b_.toNat, by omega⟩
  rw [show ((⟨b_.toNat, by omega⟩ : Fin 6).val : Int) = b_ from Int.toNat_of_nonneg h_.1] at k_
  exact k_
theorem mkm : lcn (-1) ∧ l_3 (-1) 1 = 1 ∧ (-1 : Int) ≠ 0 := by
  unfold lcn
  decide
theorem wlt_cg {R_ Q_ : Nat → Int} {l_ : Int} {w_ : Nat} (h_ : Q_ (64 * (l_ / 2).toNat + w_) = R_ (64 * (l_ / 2).toNat + w_)) : wlt Q_ l_ w_ = wlt R_ l_ w_ := by
  unfold wlt
  rw [h_]
theorem sPn_cg {sf_ sg_ : Nat → Int} {n_ m_ : Nat} {v_ : Int} (e_ : ∀ k_, sg_ k_ = if k_ = n_ then v_ else sf_ k_) (hv_ : v_ ≠ 2 * (n_ : Int)) : sPn sf_ n_ m_ ↔ sPn sg_ (n_ + 1) m_ := by
  unfold sPn
  rw [e_ m_]
  by_cases z_ : m_ = n_
  · rw [if_pos z_]; omega
  · rw [if_neg z_]; omega
theorem sPn_nw {sf_ sg_ : Nat → Int} {n_ m_ : Nat} (e_ : ∀ k_, sg_ k_ = if k_ = n_ then 2 * (n_ : Int) else sf_ k_) : (sPn sf_ n_ m_ ∨ m_ = n_) ↔ sPn sg_ (n_ + 1) m_ := by
  unfold sPn
  rw [e_ m_]
  by_cases z_ : m_ = n_
  · rw [if_pos z_]; omega
  · rw [if_neg z_]; omega
/-- the_ row_ of_ a_ node as_ far_ as_ it_ is_ made -/
def srw (F_ n_ w_ : Nat) (mk_ : Int) (lo_ hi_ R_ : Nat → Int) : Prop := ∀ j_, j_ < w_ → l_3 (R_ (64 * n_ + j_)) mk_ = R_ (64 * n_ + j_) ∧ (F_ ≤ n_ → R_ (64 * n_ + j_) = l_3 (l_3 (wlt R_ (lo_ n_) j_) (wlt R_ (hi_ n_) j_)) mk_) ∧ (n_ = 0 → R_ (64 * n_ + j_) = 0)
theorem srw_up {F_ n_ w_ : Nat} {mk_ row_ : Int} {lo_ hi_ R_ Q_ : Nat → Int} (hg_ : F_ ≤ n_ → 2 ≤ lo_ n_ ∧ lo_ n_ < hi_ n_ ∧ hi_ n_ < 2 * (n_ : Int)) (hw_ : w_ < 64) (h_ : srw F_ n_ w_ mk_ lo_ hi_ R_) (e_ : ∀ k_, Q_ k_ = if k_ = 64 * n_ + w_ then l_3 row_ mk_ else R_ k_) (h1_ : F_ ≤ n_ → row_ = l_3 (wlt R_ (lo_ n_) w_) (wlt R_ (hi_ n_) w_)) (h2_ : n_ = 0 → row_ = 0) : srw F_ n_ (w_ + 1) mk_ lo_ hi_ Q_ := by
  intro j_ hj_
  have wc_ : F_ ≤ n_ → wlt Q_ (lo_ n_) j_ = wlt R_ (lo_ n_) j_ ∧ wlt Q_ (hi_ n_) j_ = wlt R_ (hi_ n_) j_ := fun a_ => by
    have g_ := hg_ a_
    exact ⟨wlt_cg (by rw [e_, if_neg (by omega)]), wlt_cg (by rw [e_, if_neg (by omega)])⟩
  by_cases z_ : j_ < w_
  · have q_ := h_ j_ z_
    rw [e_, if_neg (by omega)]
    refine ⟨q_.1, fun a_ => ?_, q_.2.2⟩
    rw [(wc_ a_).1, (wc_ a_).2]
    exact q_.2.1 a_
  · have zw_ : j_ = w_ := by omega
    subst zw_
    rw [e_, if_pos rfl]
    refine ⟨l3_id, fun a_ => ?_, fun a_ => ?_⟩
    · rw [(wc_ a_).1, (wc_ a_).2, h1_ a_]
    · rw [h2_ a_, l3_0]
theorem hsw_up {n_ w_ : Nat} {mk_ row_ tu_ hs_ : Int} {R_ Q_ : Nat → Int} (hm_ : lcn mk_) (hh_ : hs_ = hsw (nrw mk_ R_ n_) w_) (e_ : ∀ k_, Q_ k_ = if k_ = 64 * n_ + w_ then l_3 row_ mk_ else R_ k_) (ht_ : (l_3 (Q_ (64 * n_)) 1 = 0 ∧ tu_ = l_3 row_ mk_) ∨ (l_3 (Q_ (64 * n_)) 1 ≠ 0 ∧ tu_ = l_3 (l_5 row_ (-1)) mk_)) : l_0 (l_2 hs_ 31) (l_5 tu_ (l_s2 tu_ 29)) = hsw (nrw mk_ Q_ n_) (w_ + 1) := by
  have e1_ : hsw (nrw mk_ Q_ n_) w_ = hs_ := by
    rw [hh_]
    refine hsw_cg (fun j_ hj_ => ?_)
    unfold nrw
    have q1_ : Q_ (64 * n_) = R_ (64 * n_) := by rw [e_, if_neg (by omega)]
    have q2_ : Q_ (64 * n_ + j_) = R_ (64 * n_ + j_) := by rw [e_, if_neg (by omega)]
    rw [q1_, q2_]
  have e2_ : nrw mk_ Q_ n_ w_ = tu_ := by
    unfold nrw
    rw [e_ (64 * n_ + w_), if_pos rfl]
    rcases ht_ with ⟨q1_, q2_⟩ | ⟨q1_, q2_⟩
    · rw [if_pos q1_, q2_]
    · rw [if_neg q1_, q2_, l3_tn hm_]
  show _ = l_0 (l_2 (hsw (nrw mk_ Q_ n_) w_) 31) (l_5 (nrw mk_ Q_ n_ w_) (l_s2 (nrw mk_ Q_ n_ w_) 29))
  rw [e1_, e2_]
/-- whom the_ nodes of_ a_ design stand for_ -/
def swp (dd_ F_ : Nat) (S_ : sm_S) : Prop := S_.2.2.1 44 (0 + dd_) 0 = 0 ∧ ∀ m_ : Nat, (m_ : Int) < S_.1 3 dd_ 4 → sfo F_ (S_.2.2.1 42 (0 + dd_)) (S_.2.2.1 43 (0 + dd_)) (S_.2.2.1 44 (0 + dd_)) m_
theorem fr_lon {W_ : ai_W} {S_ S'_ : sm_S} {t_ i_ : Nat} (h_ : ai_fr W_ S_ S'_) (ht_ : W_.2.1 t_ = false) : S'_.2.2.2 t_ i_ = S_.2.2.2 t_ i_ := funext fun k_ => (h_.2.2 t_ ht_ i_ k_).2
theorem glo_of {dd_ F_ N_ : Nat} {S_ : sm_S} (h_ : dgr dd_ F_ S_) (hN_ : (N_ : Int) ≤ S_.1 3 dd_ 4) : glo F_ N_ (S_.2.2.1 42 (0 + dd_)) (S_.2.2.1 43 (0 + dd_)) := fun k_ h1_ h2_ => h_.2.2 k_ h1_ (by omega)
/-! Builder.sweep -/
end
/-! 99.zg8a -/
section
/-! the class: tables and states; written by wip/p55/gen/vg -/

/-! tables and states -/
theorem l_bit {x_ : Int} : l_l2i (l_3 x_ 1) = 0 ∨ l_l2i (l_3 x_ 1) = 1 := by
  have e_ : l_3 x_ 1 = (Int64.ofInt x_ &&& 1).toInt := rfl
  have two_ : Int64.ofInt x_ &&& 1 = 0 ∨ Int64.ofInt x_ &&& 1 = 1 := i64_1 _
  rw [e_]
  rcases two_ with z_ | z_
  · rw [z_]; left; decide
  · rw [z_]; right; decide
theorem bsh {x_ e_ : Int} {k_ : Nat} (hx_ : x_ = 0 ∨ x_ = 1) (h0_ : 0 ≤ e_) (h1_ : e_ < (k_ : Int)) (hk_ : k_ ≤ 22) : 0 ≤ i_shl x_ e_ ∧ i_shl x_ e_ < 2 ^ k_ := by
  have p1_ : (2 : Int) ^ e_.toNat < 2 ^ k_ := by
    have q_ : (2 : Int) ^ (e_.toNat + 1) ≤ 2 ^ k_ := pw_le (by omega)
    have q2_ := pw_pos e_.toNat
    rw [pw_add] at q_
    omega
  have p2_ := pw_pos e_.toNat
  have p3_ : (2 : Int) ^ k_ ≤ 2 ^ 22 := pw_le hk_
  have v_ := i_shlv (x_ := x_) (e_ := e_) h0_ (by omega) (by omega) (by rcases hx_ with z_ | z_ <;> rw [z_] <;> omega)
  rw [v_]
  rcases hx_ with z_ | z_
  · rw [z_]; omega
  · rw [z_]; omega
/-- a_ design's tables -/
def dtb (dd_ : Nat) (S_ : sm_S) : Prop := ∀ p_ : Nat, p_ < 4096 → 0 ≤ S_.2.2.1 47 (0 + dd_) p_ ∧ S_.2.2.1 47 (0 + dd_) p_ < 2 ^ (16 + (S_.1 3 dd_ 2).toNat)
theorem shr16 {x_ : Int} {R_ : Nat} (h_ : 0 ≤ x_ ∧ x_ < 2 ^ (16 + R_)) : 0 ≤ x_ / 65536 ∧ x_ / 65536 < 2 ^ R_ := by
  rw [pw_add] at h_
  omega
/-! java/util/Arrays.fill -/
def vw_2t : sx_Wl := ([], [47], [])
def vq_2t (v0_ : Int) (dd_ : Nat) (S0_ : sm_S) (u_ : Option sm_V) (S1_ : sm_S) : Prop := u_ = none ∧ gi S1_ ∧ ai_fr (sx_W vw_2t) S0_ S1_ ∧ (idf dd_ S0_ S1_ ∧ (∀ j_, j_ < 4096 → S1_.2.2.1 47 (0 + dd_) j_ = v0_))
set_option maxHeartbeats 400000 in
theorem vl_2t {sc_ : Nat × (Nat → Int)} (v0_ : Int) (dd_ : Nat) (S0_ : sm_S) (hv_ : 0 ≤ v0_ ∧ v0_ ≤ 4194303) : ∀ nn_ : Nat, (∀ (k_ : Int) (S_ : sm_S), gi S_ → ai_fr (sx_W vw_2t) S0_ S_ → ((0 ≤ k_ ∧ k_ ≤ 4096) ∧ (∀ j_, j_ < k_.toNat → S_.2.2.1 47 (0 + dd_) j_ = v0_) ∧ (idf dd_ S0_ S_) ∧ True) → ((4096 - k_).toNat) < nn_ → sm_T (mt_P sc_) 0 2 (5, [some (.inr (.inr (some (47, (0 + dd_))))), some (.inl v0_), some (.inl k_), some (.inl 4096)], [], S_) (fun ro9_ => ∃ u_ S1_, ro9_ = (.inl u_, S1_, 0) ∧ vq_2t v0_ dd_ S0_ u_ S1_)) := by
  intro nn_
  induction nn_ with
  | zero => exact fun _ _ _ _ _ h_ => absurd h_ (Nat.not_lt_zero _)
  | succ nn_ ih_ =>
    rintro k_ S_ hI_ hF_ ⟨h0_, h1_, hD_, -⟩ hm_
    refine sm_T_go 2 (c1 := (7, [some (.inr (.inr (some (47, (0 + dd_))))), some (.inl v0_), some (.inl k_), some (.inl 4096)], [.inl 4096, .inl k_], S_)) rfl ?_
    refine sm_T_br (a := 3) (z := 13) rfl (fun cx1_ => ?_) (fun cx1_ => ?_)
    · have cx1_ : 4096 ≤ k_ := of_decide_eq_true cx1_
      refine sm_T_rv rfl ⟨_, _, rfl, rfl, hI_, hF_, ?_⟩
      refine ⟨hD_, ?_⟩
      exact fun j_ hj_ => h1_ j_ (by omega)
    · have cx1_ : ¬ (4096 ≤ k_) := of_decide_eq_false cx1_
      refine sm_T_go 3 (c1 := (13, [some (.inr (.inr (some (47, (0 + dd_))))), some (.inl v0_), some (.inl k_), some (.inl 4096)], [.inl v0_, .inl k_, .inr (.inr (some (47, (0 + dd_))))], S_)) rfl ?_
      refine sm_T_iast (n := 4096) rfl rfl (by omega) (by omega) ?_
      have hIx2_ : gi (sm_aI S_ 47 (0 + dd_) k_.toNat v0_) := gi_aI hI_ (show 0 ≤ v0_ ∧ v0_ ≤ 4194303 from ⟨by omega, by omega⟩)
      have hFx3_ : ai_fr (sx_W vw_2t) S0_ (sm_aI S_ 47 (0 + dd_) k_.toNat v0_) := ai_fr_tr hF_ (ai_fr_aI rfl)
      have hDx4_ : idf dd_ S0_ (sm_aI S_ 47 (0 + dd_) k_.toNat v0_) := idf_aI hD_ (Or.inr rfl)
      refine sm_T_inc (a := 2) (z := 1) (v := k_) (w := k_ + 1) rfl rfl (by omega) (by omega) (by omega) ?_
      refine sm_T_go 1 (c1 := (5, [some (.inr (.inr (some (47, (0 + dd_))))), some (.inl v0_), some (.inl (k_ + 1)), some (.inl 4096)], [], sm_aI S_ 47 (0 + dd_) k_.toNat v0_)) rfl ?_
      refine ih_ (k_ + 1) (sm_aI S_ 47 (0 + dd_) k_.toNat v0_) hIx2_ hFx3_ ⟨?_, ?_, ?_, trivial⟩ ?_
      · omega
      · intro j_ hj_
        rw [rd_eq]
        by_cases z_ : j_ = k_.toNat
        · rw [if_pos z_]
        · rw [if_neg z_]; exact h1_ j_ (by omega)
      · exact hDx4_
      · omega
set_option maxHeartbeats 400000 in
theorem vc_2t {sc_ : Nat × (Nat → Int)} (v0_ : Int) (dd_ : Nat) (S0_ : sm_S) (hI_ : gi S0_) (hv_ : 0 ≤ v0_ ∧ v0_ ≤ 4194303) : sm_T (mt_P sc_) 0 2 (0, [some (.inr (.inr (some (47, (0 + dd_))))), some (.inl v0_), none, none], [], S0_) (fun ro9_ => ∃ u_ S1_, ro9_ = (.inl u_, S1_, 0) ∧ vq_2t v0_ dd_ S0_ u_ S1_) := by
  have hF_ : ai_fr (sx_W vw_2t) S0_ S0_ := ai_fr_rf
  have hD_ : idf dd_ S0_ S0_ := idf_rf
  refine sm_T_go 5 (c1 := (5, [some (.inr (.inr (some (47, (0 + dd_))))), some (.inl v0_), some (.inl 0), some (.inl 4096)], [], S0_)) rfl ?_
  refine (vl_2t v0_ dd_ S0_ hv_ _) 0 S0_ hI_ hF_ ⟨?_, ?_, ?_, trivial⟩ (Nat.lt_succ_self _)
  · omega
  · (intro j_ hj_; exact absurd hj_ (Nat.not_lt_zero _))
  · exact hD_
end
/-! 99.zg8c -/
section
/-! Builder.countReached -/
def vw_52 : sx_Wl := ([], [33], [])
def vq_52 (dd_ : Nat) (F_ : Nat) (S0_ : sm_S) (u_ : Option sm_V) (S1_ : sm_S) : Prop := ∃ v_ : Int, u_ = some (.inl v_) ∧ gi S1_ ∧ ai_fr (sx_W vw_52) S0_ S1_ ∧ (idf dd_ S0_ S1_ ∧ (1 ≤ v_ ∧ v_ ≤ 64))
set_option maxHeartbeats 2000000 in
theorem vl_52 {sc_ : Nat × (Nat → Int)} (dd_ : Nat) (F_ : Nat) (S0_ : sm_S) (hd_ : S0_.2.1 1 0 1 = some dd_) (hg_ : dgr dd_ F_ S0_) (hr_ : S0_.1 3 dd_ 2 ≤ 6) (ht_ : dtb dd_ S0_) (hb_ : 0 ≤ S0_.1 3 dd_ 5 ∧ S0_.1 3 dd_ 5 < 2 ^ (S0_.1 3 dd_ 2).toNat) : ∀ nn_ : Nat, (∀ (st_ : Int) (tl_ : Int) (hd9_ : Int) (S_ : sm_S), gi S_ → ai_fr (sx_W vw_52) S0_ S_ → ((st_ = 2 ^ (S0_.1 3 dd_ 2).toNat) ∧ (∀ j9_ : Nat, (j9_ : Int) < st_ → S_.2.2.1 33 0 j9_ = 0 ∨ S_.2.2.1 33 0 j9_ = 1) ∧ (∀ j9_ : Nat, (j9_ : Int) < tl_ → 0 ≤ S_.2.2.1 33 0 (st_.toNat + j9_) ∧ S_.2.2.1 33 0 (st_.toNat + j9_) < st_) ∧ (tl_ = (cn1 (fun k9_ => S_.2.2.1 33 0 k9_) st_.toNat : Int)) ∧ (1 ≤ tl_ ∧ 0 ≤ hd9_) ∧ (idf dd_ S0_ S_) ∧ True) → ((10000 * (100 - hd9_) + 5000).toNat) < nn_ → sm_T (mt_P sc_) 1 52 (48, [some (.inr (.inr (some (1, 0)))), some (.inl st_), some (.inl tl_), some (.inl hd9_), none, none, none], [], S_) (fun ro9_ => ∃ u_ S1_, ro9_ = (.inl u_, S1_, 0) ∧ vq_52 dd_ F_ S0_ u_ S1_)) ∧ (∀ (st_ : Int) (tl_ : Int) (hd9_ : Int) (he_ : Int) (ip_ : Int) (sq_ : Int) (S_ : sm_S), gi S_ → ai_fr (sx_W vw_52) S0_ S_ → ((st_ = 2 ^ (S0_.1 3 dd_ 2).toNat) ∧ (∀ j9_ : Nat, (j9_ : Int) < st_ → S_.2.2.1 33 0 j9_ = 0 ∨ S_.2.2.1 33 0 j9_ = 1) ∧ (∀ j9_ : Nat, (j9_ : Int) < tl_ → 0 ≤ S_.2.2.1 33 0 (st_.toNat + j9_) ∧ S_.2.2.1 33 0 (st_.toNat + j9_) < st_) ∧ (tl_ = (cn1 (fun k9_ => S_.2.2.1 33 0 k9_) st_.toNat : Int)) ∧ (1 ≤ tl_ ∧ 0 ≤ hd9_ ∧ hd9_ < st_ ∧ 0 ≤ ip_ ∧ ip_ ≤ 4096 ∧ 0 ≤ sq_ ∧ sq_ < st_) ∧ (he_ = i_shl sq_ (S0_.1 3 dd_ 1)) ∧ (idf dd_ S0_ S_) ∧ True) → ((10000 * (100 - hd9_) + 4500 - ip_).toNat) < nn_ → sm_T (mt_P sc_) 1 52 (79, [some (.inr (.inr (some (1, 0)))), some (.inl st_), some (.inl tl_), some (.inl hd9_), some (.inl he_), some (.inl ip_), none], [], S_) (fun ro9_ => ∃ u_ S1_, ro9_ = (.inl u_, S1_, 0) ∧ vq_52 dd_ F_ S0_ u_ S1_)) := by
  intro nn_
  induction nn_ with
  | zero => exact ⟨fun _ _ _ _ _ _ _ h_ => absurd h_ (Nat.not_lt_zero _), fun _ _ _ _ _ _ _ _ _ _ h_ => absurd h_ (Nat.not_lt_zero _)⟩
  | succ nn_ ih_ =>
    refine ⟨?_, ?_⟩
    · rintro st_ tl_ hd9_ S_ hI_ hF_ ⟨hs_, hmz_, hq_, hc_, h0_, hD_, -⟩ hm_
      have e1_ : S_.1 3 dd_ 1 = S0_.1 3 dd_ 1 := hF_.1 3 dd_ 1 rfl
      have e2_ : S_.1 3 dd_ 2 = S0_.1 3 dd_ 2 := hF_.1 3 dd_ 2 rfl
      have f47_ : S_.2.2.1 47 (0 + dd_) = S0_.2.2.1 47 (0 + dd_) := fr_arr hF_ rfl
      have g1_ := hg_.1
      have st64_ := pw_le (n := (S0_.1 3 dd_ 2).toNat) (m := 6) (by omega)
      have st0_ := pw_pos (S0_.1 3 dd_ 2).toNat
      have cl9_ := cn1_le (fun k9_ => S_.2.2.1 33 0 k9_) st_.toNat
      refine sm_T_go 2 (c1 := (50, [some (.inr (.inr (some (1, 0)))), some (.inl st_), some (.inl tl_), some (.inl hd9_), none, none, none], [.inl tl_, .inl hd9_], S_)) rfl ?_
      refine sm_T_br (a := 3) (z := 104) rfl (fun cx1_ => ?_) (fun cx1_ => ?_)
      · have cx1_ : tl_ ≤ hd9_ := of_decide_eq_true cx1_
        refine sm_T_go 1 (c1 := (155, [some (.inr (.inr (some (1, 0)))), some (.inl st_), some (.inl tl_), some (.inl hd9_), none, none, none], [.inl tl_], S_)) rfl ?_
        refine sm_T_ri rfl ⟨_, _, rfl, _, rfl, hI_, hF_, ?_⟩
        refine ⟨hD_, ?_⟩
        omega
      · have cx1_ : ¬ (tl_ ≤ hd9_) := of_decide_eq_false cx1_
        refine sm_T_go 2 (c1 := (55, [some (.inr (.inr (some (1, 0)))), some (.inl st_), some (.inl tl_), some (.inl hd9_), none, none, none], [.inl st_, .inl hd9_], S_)) rfl ?_
        refine sm_T_br (a := 3) (z := 99) rfl (fun cx2_ => ?_) (fun cx2_ => ?_)
        · have cx2_ : st_ ≤ hd9_ := of_decide_eq_true cx2_
          refine sm_T_go 1 (c1 := (155, [some (.inr (.inr (some (1, 0)))), some (.inl st_), some (.inl tl_), some (.inl hd9_), none, none, none], [.inl tl_], S_)) rfl ?_
          refine sm_T_ri rfl ⟨_, _, rfl, _, rfl, hI_, hF_, ?_⟩
          refine ⟨hD_, ?_⟩
          omega
        · have cx2_ : ¬ (st_ ≤ hd9_) := of_decide_eq_false cx2_
          have hq9_ := hq_ hd9_.toNat (by omega)
          rw [show st_.toNat + hd9_.toNat = (st_ + hd9_).toNat by omega] at hq9_
          refine sm_T_go 4 (c1 := (64, [some (.inr (.inr (some (1, 0)))), some (.inl st_), some (.inl tl_), some (.inl hd9_), none, none, none], [.inl hd9_, .inl st_, .inr (.inr (some (33, 0)))], S_)) rfl ?_
          refine sm_T_bin (w := st_ + hd9_) rfl (bi_add (by omega) (by omega) (by omega)) ?_
          refine sm_T_iald (n := 1013) rfl rfl (by omega) (by omega) ?_
          have bx3_ : 0 ≤ S_.2.2.1 33 0 (st_ + hd9_).toNat ∧ S_.2.2.1 33 0 (st_ + hd9_).toNat ≤ 1012 := hI_.2 33 0 _
          refine sm_T_go 1 (c1 := (67, [some (.inr (.inr (some (1, 0)))), some (.inl st_), some (.inl tl_), some (.inl hd9_), none, none, none], [.inr (.inr (some (1, 0))), .inl (S_.2.2.1 33 0 (st_ + hd9_).toNat)], S_)) rfl ?_
          refine sm_T_gr rfl rfl ((hF_.2.1 1 0 1 rfl).trans hd_) ?_
          have bx4_ : 0 ≤ S_.1 3 dd_ 1 ∧ S_.1 3 dd_ 1 ≤ 320 := hI_.1 3 dd_ 1 rfl
          refine sm_T_go 1 (c1 := (73, [some (.inr (.inr (some (1, 0)))), some (.inl st_), some (.inl tl_), some (.inl hd9_), none, none, none], [.inl (S_.1 3 dd_ 1), .inl (S_.2.2.1 33 0 (st_ + hd9_).toNat)], S_)) rfl ?_
          refine sm_T_bin (w := (i_shl (S_.2.2.1 33 0 (st_ + hd9_).toNat) (S_.1 3 dd_ 1))) rfl rfl ?_
          refine sm_T_go 3 (c1 := (79, [some (.inr (.inr (some (1, 0)))), some (.inl st_), some (.inl tl_), some (.inl hd9_), some (.inl (i_shl (S_.2.2.1 33 0 (st_ + hd9_).toNat) (S_.1 3 dd_ 1))), some (.inl 0), none], [], S_)) rfl ?_
          refine ih_.2 st_ tl_ hd9_ (i_shl (S_.2.2.1 33 0 (st_ + hd9_).toNat) (S_.1 3 dd_ 1)) 0 (S_.2.2.1 33 0 (st_ + hd9_).toNat) S_ hI_ hF_ ⟨?_, ?_, ?_, ?_, ?_, ?_, ?_, trivial⟩ ?_
          · exact hs_
          · exact hmz_
          · exact hq_
          · exact hc_
          · omega
          · (rw [e1_])
          · exact hD_
          · omega
    · rintro st_ tl_ hd9_ he_ ip_ sq_ S_ hI_ hF_ ⟨hs_, hmz_, hq_, hc_, h0_, hh_, hD_, -⟩ hm_
      have e1_ : S_.1 3 dd_ 1 = S0_.1 3 dd_ 1 := hF_.1 3 dd_ 1 rfl
      have e2_ : S_.1 3 dd_ 2 = S0_.1 3 dd_ 2 := hF_.1 3 dd_ 2 rfl
      have f47_ : S_.2.2.1 47 (0 + dd_) = S0_.2.2.1 47 (0 + dd_) := fr_arr hF_ rfl
      have g1_ := hg_.1
      have st64_ := pw_le (n := (S0_.1 3 dd_ 2).toNat) (m := 6) (by omega)
      have st0_ := pw_pos (S0_.1 3 dd_ 2).toNat
      have cl9_ := cn1_le (fun k9_ => S_.2.2.1 33 0 k9_) st_.toNat
      refine sm_T_go 3 (c1 := (83, [some (.inr (.inr (some (1, 0)))), some (.inl st_), some (.inl tl_), some (.inl hd9_), some (.inl he_), some (.inl ip_), none], [.inr (.inr (some (1, 0))), .inl 1, .inl ip_], S_)) rfl ?_
      refine sm_T_gr rfl rfl ((hF_.2.1 1 0 1 rfl).trans hd_) ?_
      have bx1_ : 0 ≤ S_.1 3 dd_ 1 ∧ S_.1 3 dd_ 1 ≤ 320 := hI_.1 3 dd_ 1 rfl
      refine sm_T_go 1 (c1 := (89, [some (.inr (.inr (some (1, 0)))), some (.inl st_), some (.inl tl_), some (.inl hd9_), some (.inl he_), some (.inl ip_), none], [.inl (S_.1 3 dd_ 1), .inl 1, .inl ip_], S_)) rfl ?_
      refine sm_T_bin (w := (i_shl 1 (S_.1 3 dd_ 1))) rfl rfl ?_
      have bx2_ := i_shl1 (e := (S_.1 3 dd_ 1)) (by omega) (by omega)
      have hp_ := pw_le (n := ((S_.1 3 dd_ 1)).toNat) (m := 12) (by omega)
      have hp0_ := pw_pos ((S_.1 3 dd_ 1)).toNat
      have hk9_ : (2 : Int) ^ ((S_.1 3 dd_ 1)).toNat = 2 ^ (S0_.1 3 dd_ 1).toNat := by rw [e1_]
      refine sm_T_br (a := 3) (z := 58) rfl (fun cx6_ => ?_) (fun cx6_ => ?_)
      · have cx6_ : (i_shl 1 (S_.1 3 dd_ 1)) ≤ ip_ := of_decide_eq_true cx6_
        refine sm_T_inc (a := 3) (z := 1) (v := hd9_) (w := hd9_ + 1) rfl rfl (by omega) (by omega) (by omega) ?_
        refine sm_T_go 1 (c1 := (48, [some (.inr (.inr (some (1, 0)))), some (.inl st_), some (.inl tl_), some (.inl (hd9_ + 1)), some (.inl he_), some (.inl ip_), none], [], S_)) rfl ?_
        refine sm_T_wk [some (.inr (.inr (some (1, 0)))), some (.inl st_), some (.inl tl_), some (.inl (hd9_ + 1)), none, none, none] (by exact ⟨rfl, rfl, rfl, rfl, trivial⟩) ?_
        refine ih_.1 st_ tl_ (hd9_ + 1) S_ hI_ hF_ ⟨?_, ?_, ?_, ?_, ?_, ?_, trivial⟩ ?_
        · exact hs_
        · exact hmz_
        · exact hq_
        · exact hc_
        · omega
        · exact hD_
        · omega
      · have cx6_ : ¬ ((i_shl 1 (S_.1 3 dd_ 1)) ≤ ip_) := of_decide_eq_false cx6_
        have pt9_ := pat_b (s_ := sq_) (i_ := ip_) (R_ := (S0_.1 3 dd_ 2).toNat) (I_ := (S0_.1 3 dd_ 1).toNat) (by omega) (by omega) (by omega)
        have pt8_ := pw_le (n := (S0_.1 3 dd_ 2).toNat + (S0_.1 3 dd_ 1).toNat) (m := 12) (by omega)
        rw [show (((S0_.1 3 dd_ 1).toNat : Nat) : Int) = S0_.1 3 dd_ 1 by omega, ← hh_] at pt9_
        have tb9_ := ht_ (i_or he_ ip_).toNat (by omega)
        rw [← f47_] at tb9_
        have nx9_ := shr16 tb9_
        have hm9_ := hmz_ (S_.2.2.1 47 (0 + dd_) (i_or he_ ip_).toNat / 65536).toNat (by omega)
        refine sm_T_go 1 (c1 := (94, [some (.inr (.inr (some (1, 0)))), some (.inl st_), some (.inl tl_), some (.inl hd9_), some (.inl he_), some (.inl ip_), none], [.inr (.inr (some (1, 0)))], S_)) rfl ?_
        refine sm_T_gr rfl rfl ((hF_.2.1 1 0 1 rfl).trans hd_) ?_
        refine sm_T_go 3 (c1 := (104, [some (.inr (.inr (some (1, 0)))), some (.inl st_), some (.inl tl_), some (.inl hd9_), some (.inl he_), some (.inl ip_), none], [.inl ip_, .inl he_, .inr (.inr (some (47, (0 + dd_))))], S_)) rfl ?_
        refine sm_T_bin (w := (i_or he_ ip_)) rfl rfl ?_
        refine sm_T_iald (n := 4096) rfl rfl (by omega) (by omega) ?_
        have bx7_ : 0 ≤ S_.2.2.1 47 (0 + dd_) (i_or he_ ip_).toNat ∧ S_.2.2.1 47 (0 + dd_) (i_or he_ ip_).toNat ≤ 4194303 := hI_.2 47 (0 + dd_) _
        refine sm_T_go 1 (c1 := (108, [some (.inr (.inr (some (1, 0)))), some (.inl st_), some (.inl tl_), some (.inl hd9_), some (.inl he_), some (.inl ip_), none], [.inl 16, .inl (S_.2.2.1 47 (0 + dd_) (i_or he_ ip_).toNat)], S_)) rfl ?_
        refine sm_T_bin (w := ((S_.2.2.1 47 (0 + dd_) (i_or he_ ip_).toNat) / 65536)) rfl (bi_shr (k := 16) (by decide) (by omega) (by omega)) ?_
        refine sm_T_go 4 (c1 := (117, [some (.inr (.inr (some (1, 0)))), some (.inl st_), some (.inl tl_), some (.inl hd9_), some (.inl he_), some (.inl ip_), some (.inl ((S_.2.2.1 47 (0 + dd_) (i_or he_ ip_).toNat) / 65536))], [.inl ((S_.2.2.1 47 (0 + dd_) (i_or he_ ip_).toNat) / 65536), .inr (.inr (some (33, 0)))], S_)) rfl ?_
        refine sm_T_iald (n := 1013) rfl rfl (by omega) (by omega) ?_
        have bx8_ : 0 ≤ S_.2.2.1 33 0 ((S_.2.2.1 47 (0 + dd_) (i_or he_ ip_).toNat) / 65536).toNat ∧ S_.2.2.1 33 0 ((S_.2.2.1 47 (0 + dd_) (i_or he_ ip_).toNat) / 65536).toNat ≤ 1012 := hI_.2 33 0 _
        refine sm_T_b0 (a := 1) (z := 24) rfl (fun cx9_ => ?_) (fun cx9_ => ?_)
        · have cx9_ : (S_.2.2.1 33 0 ((S_.2.2.1 47 (0 + dd_) (i_or he_ ip_).toNat) / 65536).toNat) ≠ 0 := of_decide_eq_true cx9_
          refine sm_T_inc (a := 5) (z := 1) (v := ip_) (w := ip_ + 1) rfl rfl (by omega) (by omega) (by omega) ?_
          refine sm_T_go 1 (c1 := (79, [some (.inr (.inr (some (1, 0)))), some (.inl st_), some (.inl tl_), some (.inl hd9_), some (.inl he_), some (.inl (ip_ + 1)), some (.inl ((S_.2.2.1 47 (0 + dd_) (i_or he_ ip_).toNat) / 65536))], [], S_)) rfl ?_
          refine sm_T_wk [some (.inr (.inr (some (1, 0)))), some (.inl st_), some (.inl tl_), some (.inl hd9_), some (.inl he_), some (.inl (ip_ + 1)), none] (by exact ⟨rfl, rfl, rfl, rfl, rfl, rfl, trivial⟩) ?_
          refine ih_.2 st_ tl_ hd9_ he_ (ip_ + 1) sq_ S_ hI_ hF_ ⟨?_, ?_, ?_, ?_, ?_, ?_, ?_, trivial⟩ ?_
          · exact hs_
          · exact hmz_
          · exact hq_
          · exact hc_
          · omega
          · exact hh_
          · exact hD_
          · omega
        · have cx9_ : ¬ ((S_.2.2.1 33 0 ((S_.2.2.1 47 (0 + dd_) (i_or he_ ip_).toNat) / 65536).toNat) ≠ 0) := of_decide_eq_false cx9_
          refine sm_T_go 4 (c1 := (128, [some (.inr (.inr (some (1, 0)))), some (.inl st_), some (.inl tl_), some (.inl hd9_), some (.inl he_), some (.inl ip_), some (.inl ((S_.2.2.1 47 (0 + dd_) (i_or he_ ip_).toNat) / 65536))], [.inl 1, .inl ((S_.2.2.1 47 (0 + dd_) (i_or he_ ip_).toNat) / 65536), .inr (.inr (some (33, 0)))], S_)) rfl ?_
          refine sm_T_iast (n := 1013) rfl rfl (by omega) (by omega) ?_
          have hIx10_ : gi (sm_aI S_ 33 0 ((S_.2.2.1 47 (0 + dd_) (i_or he_ ip_).toNat) / 65536).toNat 1) := gi_aI hI_ (show 0 ≤ 1 ∧ 1 ≤ 1012 from ⟨by omega, by omega⟩)
          have hFx11_ : ai_fr (sx_W vw_52) S0_ (sm_aI S_ 33 0 ((S_.2.2.1 47 (0 + dd_) (i_or he_ ip_).toNat) / 65536).toNat 1) := ai_fr_tr hF_ (ai_fr_aI rfl)
          have hDx12_ : idf dd_ S0_ (sm_aI S_ 33 0 ((S_.2.2.1 47 (0 + dd_) (i_or he_ ip_).toNat) / 65536).toNat 1) := idf_aI hD_ (Or.inl (by decide))
          refine sm_T_go 4 (c1 := (135, [some (.inr (.inr (some (1, 0)))), some (.inl st_), some (.inl tl_), some (.inl hd9_), some (.inl he_), some (.inl ip_), some (.inl ((S_.2.2.1 47 (0 + dd_) (i_or he_ ip_).toNat) / 65536))], [.inl tl_, .inl st_, .inr (.inr (some (33, 0)))], sm_aI S_ 33 0 ((S_.2.2.1 47 (0 + dd_) (i_or he_ ip_).toNat) / 65536).toNat 1)) rfl ?_
          refine sm_T_bin (w := st_ + tl_) rfl (bi_add (by omega) (by omega) (by omega)) ?_
          refine sm_T_go 1 (c1 := (138, [some (.inr (.inr (some (1, 0)))), some (.inl st_), some (.inl tl_), some (.inl hd9_), some (.inl he_), some (.inl ip_), some (.inl ((S_.2.2.1 47 (0 + dd_) (i_or he_ ip_).toNat) / 65536))], [.inl ((S_.2.2.1 47 (0 + dd_) (i_or he_ ip_).toNat) / 65536), .inl (st_ + tl_), .inr (.inr (some (33, 0)))], sm_aI S_ 33 0 ((S_.2.2.1 47 (0 + dd_) (i_or he_ ip_).toNat) / 65536).toNat 1)) rfl ?_
          refine sm_T_iast (n := 1013) rfl rfl (by omega) (by omega) ?_
          have hIx13_ : gi (sm_aI (sm_aI S_ 33 0 ((S_.2.2.1 47 (0 + dd_) (i_or he_ ip_).toNat) / 65536).toNat 1) 33 0 (st_ + tl_).toNat ((S_.2.2.1 47 (0 + dd_) (i_or he_ ip_).toNat) / 65536)) := gi_aI hIx10_ (show 0 ≤ ((S_.2.2.1 47 (0 + dd_) (i_or he_ ip_).toNat) / 65536) ∧ ((S_.2.2.1 47 (0 + dd_) (i_or he_ ip_).toNat) / 65536) ≤ 1012 from ⟨by omega, by omega⟩)
          have hFx14_ : ai_fr (sx_W vw_52) S0_ (sm_aI (sm_aI S_ 33 0 ((S_.2.2.1 47 (0 + dd_) (i_or he_ ip_).toNat) / 65536).toNat 1) 33 0 (st_ + tl_).toNat ((S_.2.2.1 47 (0 + dd_) (i_or he_ ip_).toNat) / 65536)) := ai_fr_tr hFx11_ (ai_fr_aI rfl)
          have hDx15_ : idf dd_ S0_ (sm_aI (sm_aI S_ 33 0 ((S_.2.2.1 47 (0 + dd_) (i_or he_ ip_).toNat) / 65536).toNat 1) 33 0 (st_ + tl_).toNat ((S_.2.2.1 47 (0 + dd_) (i_or he_ ip_).toNat) / 65536)) := idf_aI hDx12_ (Or.inl (by decide))
          refine sm_T_inc (a := 2) (z := 1) (v := tl_) (w := tl_ + 1) rfl rfl (by omega) (by omega) (by omega) ?_
          refine sm_T_inc (a := 5) (z := 1) (v := ip_) (w := ip_ + 1) rfl rfl (by omega) (by omega) (by omega) ?_
          refine sm_T_go 1 (c1 := (79, [some (.inr (.inr (some (1, 0)))), some (.inl st_), some (.inl (tl_ + 1)), some (.inl hd9_), some (.inl he_), some (.inl (ip_ + 1)), some (.inl ((S_.2.2.1 47 (0 + dd_) (i_or he_ ip_).toNat) / 65536))], [], sm_aI (sm_aI S_ 33 0 ((S_.2.2.1 47 (0 + dd_) (i_or he_ ip_).toNat) / 65536).toNat 1) 33 0 (st_ + tl_).toNat ((S_.2.2.1 47 (0 + dd_) (i_or he_ ip_).toNat) / 65536))) rfl ?_
          refine sm_T_wk [some (.inr (.inr (some (1, 0)))), some (.inl st_), some (.inl (tl_ + 1)), some (.inl hd9_), some (.inl he_), some (.inl (ip_ + 1)), none] (by exact ⟨rfl, rfl, rfl, rfl, rfl, rfl, trivial⟩) ?_
          refine ih_.2 st_ (tl_ + 1) hd9_ he_ (ip_ + 1) sq_ (sm_aI (sm_aI S_ 33 0 ((S_.2.2.1 47 (0 + dd_) (i_or he_ ip_).toNat) / 65536).toNat 1) 33 0 (st_ + tl_).toNat ((S_.2.2.1 47 (0 + dd_) (i_or he_ ip_).toNat) / 65536)) hIx13_ hFx14_ ⟨?_, ?_, ?_, ?_, ?_, ?_, ?_, trivial⟩ ?_
          · exact hs_
          · intro j9_ hj9_
            (try simp only [rd_eq, rd_ne, rf_eq, rf_nk, rf_nt, rd_fa, rd_af, rd_fl, rd_al, rd_lf, rd_la, rd_leq, rd_lne, rd_fr, rd_ar, ne_eq, Nat.reduceEqDiff, not_false_eq_true])
            rw [if_neg (by omega)]
            split
            · right; rfl
            · exact hmz_ j9_ hj9_
          · intro j9_ hj9_
            (try simp only [rd_eq, rd_ne, rf_eq, rf_nk, rf_nt, rd_fa, rd_af, rd_fl, rd_al, rd_lf, rd_la, rd_leq, rd_lne, rd_fr, rd_ar, ne_eq, Nat.reduceEqDiff, not_false_eq_true])
            by_cases z9_ : (j9_ : Int) = tl_
            · rw [if_pos (by omega)]; omega
            · rw [if_neg (by omega), if_neg (by omega)]; exact hq_ j9_ (by omega)
          · have u9_ := cn1_up (f := fun k9_ => S_.2.2.1 33 0 k9_) (g := fun k9_ => (sm_aI S_ 33 0 (S_.2.2.1 47 (0 + dd_) (i_or he_ ip_).toNat / 65536).toNat 1).2.2.1 33 0 k9_) (j := (S_.2.2.1 47 (0 + dd_) (i_or he_ ip_).toNat / 65536).toNat) (by show S_.2.2.1 33 0 _ ≠ 1; omega) (by show _ = _; rw [rd_eq, if_pos rfl]) (by intro k9_ hk9_; show _ = _; rw [rd_eq, if_neg hk9_]) (n := st_.toNat) (by omega)
            rw [cn1_cg (g := fun k9_ => (sm_aI S_ 33 0 (S_.2.2.1 47 (0 + dd_) (i_or he_ ip_).toNat / 65536).toNat 1).2.2.1 33 0 k9_) (fun k9_ hk9_ => by show ((sm_aI (sm_aI S_ 33 0 ((S_.2.2.1 47 (0 + dd_) (i_or he_ ip_).toNat) / 65536).toNat 1) 33 0 (st_ + tl_).toNat ((S_.2.2.1 47 (0 + dd_) (i_or he_ ip_).toNat) / 65536))).2.2.1 33 0 k9_ = _; rw [rd_eq, if_neg (by omega)]), u9_]
            push_cast
            omega
          · omega
          · exact hh_
          · exact hDx15_
          · omega
set_option maxHeartbeats 2000000 in
theorem vc_52 {sc_ : Nat × (Nat → Int)} (dd_ : Nat) (F_ : Nat) (S0_ : sm_S) (hI_ : gi S0_) (hd_ : S0_.2.1 1 0 1 = some dd_) (hg_ : dgr dd_ F_ S0_) (hr_ : S0_.1 3 dd_ 2 ≤ 6) (ht_ : dtb dd_ S0_) (hb_ : 0 ≤ S0_.1 3 dd_ 5 ∧ S0_.1 3 dd_ 5 < 2 ^ (S0_.1 3 dd_ 2).toNat) : sm_T (mt_P sc_) 1 52 (0, [some (.inr (.inr (some (1, 0)))), none, none, none, none, none, none], [], S0_) (fun ro9_ => ∃ u_ S1_, ro9_ = (.inl u_, S1_, 0) ∧ vq_52 dd_ F_ S0_ u_ S1_) := by
  have hF_ : ai_fr (sx_W vw_52) S0_ S0_ := ai_fr_rf
  have hD_ : idf dd_ S0_ S0_ := idf_rf
  have g1_ := hg_.1
  have st64_ := pw_le (n := (S0_.1 3 dd_ 2).toNat) (m := 6) (by omega)
  have st0_ := pw_pos (S0_.1 3 dd_ 2).toNat
  refine sm_T_go 3 (c1 := (5, [some (.inr (.inr (some (1, 0)))), none, none, none, none, none, none], [.inl 0, .inr (.inr (some (33, 0)))], S0_)) rfl ?_
  refine sm_T_cal (d1 := 0) (Q1 := vq_2s 0 S0_) rfl rfl (by decide) (vc_2s 0 S0_ hI_ (by decide)) (fun u_ Sx1_ px4_ => ?_)
  obtain ⟨rfl, hIx2_, hFx3_, px4_⟩ := px4_
  have hFx5_ : ai_fr (sx_W vw_52) S0_ Sx1_ := ai_fr_tr hF_ (fr_le hFx3_ rfl)
  have hDx6_ : idf dd_ S0_ Sx1_ := idf_tr hD_ (idf_fr hFx3_ (by decide) (by decide))
  have e5_ := px4_
  have q1_ := hFx3_.1 3 dd_ 1 rfl
  have q2_ := hFx3_.1 3 dd_ 2 rfl
  have q5_ := hFx3_.1 3 dd_ 5 rfl
  have b9_ := hb_
  refine sm_T_go 2 (c1 := (10, [some (.inr (.inr (some (1, 0)))), none, none, none, none, none, none], [.inr (.inr (some (1, 0))), .inl 1], Sx1_)) rfl ?_
  refine sm_T_gr rfl rfl ((hFx5_.2.1 1 0 1 rfl).trans hd_) ?_
  have bx7_ : 0 ≤ Sx1_.1 3 dd_ 2 ∧ Sx1_.1 3 dd_ 2 ≤ 100000 := hIx2_.1 3 dd_ 2 rfl
  refine sm_T_go 1 (c1 := (16, [some (.inr (.inr (some (1, 0)))), none, none, none, none, none, none], [.inl (Sx1_.1 3 dd_ 2), .inl 1], Sx1_)) rfl ?_
  refine sm_T_bin (w := (i_shl 1 (Sx1_.1 3 dd_ 2))) rfl rfl ?_
  have bx8_ : i_shl 1 (Sx1_.1 3 dd_ 2) = 2 ^ (S0_.1 3 dd_ 2).toNat := by rw [q2_]; exact i_shl1 (by omega) (by omega)
  obtain ⟨st9_, hst9_⟩ : ∃ st9_, st9_ = i_shl 1 (Sx1_.1 3 dd_ 2) := ⟨_, rfl⟩
  refine sm_T_go 5 (c1 := (24, [some (.inr (.inr (some (1, 0)))), some (.inl (i_shl 1 (Sx1_.1 3 dd_ 2))), none, none, none, none, none], [.inr (.inr (some (1, 0))), .inl (i_shl 1 (Sx1_.1 3 dd_ 2)), .inr (.inr (some (33, 0)))], Sx1_)) rfl ?_
  refine sm_T_gr rfl rfl ((hFx5_.2.1 1 0 1 rfl).trans hd_) ?_
  have bx10_ : 0 ≤ Sx1_.1 3 dd_ 5 ∧ Sx1_.1 3 dd_ 5 ≤ 63 := hIx2_.1 3 dd_ 5 rfl
  refine sm_T_go 1 (c1 := (30, [some (.inr (.inr (some (1, 0)))), some (.inl (i_shl 1 (Sx1_.1 3 dd_ 2))), none, none, none, none, none], [.inl (Sx1_.1 3 dd_ 5), .inl (i_shl 1 (Sx1_.1 3 dd_ 2)), .inr (.inr (some (33, 0)))], Sx1_)) rfl ?_
  refine sm_T_iast (n := 1013) rfl rfl (by omega) (by omega) ?_
  have hIx11_ : gi (sm_aI Sx1_ 33 0 (i_shl 1 (Sx1_.1 3 dd_ 2)).toNat (Sx1_.1 3 dd_ 5)) := gi_aI hIx2_ (show 0 ≤ (Sx1_.1 3 dd_ 5) ∧ (Sx1_.1 3 dd_ 5) ≤ 1012 from ⟨by omega, by omega⟩)
  have hFx12_ : ai_fr (sx_W vw_52) S0_ (sm_aI Sx1_ 33 0 (i_shl 1 (Sx1_.1 3 dd_ 2)).toNat (Sx1_.1 3 dd_ 5)) := ai_fr_tr hFx5_ (ai_fr_aI rfl)
  have hDx13_ : idf dd_ S0_ (sm_aI Sx1_ 33 0 (i_shl 1 (Sx1_.1 3 dd_ 2)).toNat (Sx1_.1 3 dd_ 5)) := idf_aI hDx6_ (Or.inl (by decide))
  refine sm_T_go 3 (c1 := (36, [some (.inr (.inr (some (1, 0)))), some (.inl (i_shl 1 (Sx1_.1 3 dd_ 2))), none, none, none, none, none], [.inr (.inr (some (1, 0))), .inr (.inr (some (33, 0)))], sm_aI Sx1_ 33 0 (i_shl 1 (Sx1_.1 3 dd_ 2)).toNat (Sx1_.1 3 dd_ 5))) rfl ?_
  refine sm_T_gr rfl rfl ((hFx12_.2.1 1 0 1 rfl).trans hd_) ?_
  refine sm_T_go 2 (c1 := (43, [some (.inr (.inr (some (1, 0)))), some (.inl (i_shl 1 (Sx1_.1 3 dd_ 2))), none, none, none, none, none], [.inl 1, .inl (Sx1_.1 3 dd_ 5), .inr (.inr (some (33, 0)))], sm_aI Sx1_ 33 0 (i_shl 1 (Sx1_.1 3 dd_ 2)).toNat (Sx1_.1 3 dd_ 5))) rfl ?_
  refine sm_T_iast (n := 1013) rfl rfl (by omega) (by omega) ?_
  have hIx14_ : gi (sm_aI (sm_aI Sx1_ 33 0 (i_shl 1 (Sx1_.1 3 dd_ 2)).toNat (Sx1_.1 3 dd_ 5)) 33 0 (Sx1_.1 3 dd_ 5).toNat 1) := gi_aI hIx11_ (show 0 ≤ 1 ∧ 1 ≤ 1012 from ⟨by omega, by omega⟩)
  have hFx15_ : ai_fr (sx_W vw_52) S0_ (sm_aI (sm_aI Sx1_ 33 0 (i_shl 1 (Sx1_.1 3 dd_ 2)).toNat (Sx1_.1 3 dd_ 5)) 33 0 (Sx1_.1 3 dd_ 5).toNat 1) := ai_fr_tr hFx12_ (ai_fr_aI rfl)
  have hDx16_ : idf dd_ S0_ (sm_aI (sm_aI Sx1_ 33 0 (i_shl 1 (Sx1_.1 3 dd_ 2)).toNat (Sx1_.1 3 dd_ 5)) 33 0 (Sx1_.1 3 dd_ 5).toNat 1) := idf_aI hDx13_ (Or.inl (by decide))
  refine sm_T_go 4 (c1 := (48, [some (.inr (.inr (some (1, 0)))), some (.inl (i_shl 1 (Sx1_.1 3 dd_ 2))), some (.inl 1), some (.inl 0), none, none, none], [], sm_aI (sm_aI Sx1_ 33 0 (i_shl 1 (Sx1_.1 3 dd_ 2)).toNat (Sx1_.1 3 dd_ 5)) 33 0 (Sx1_.1 3 dd_ 5).toNat 1)) rfl ?_
  refine (vl_52 dd_ F_ S0_ hd_ hg_ hr_ ht_ hb_ _).1 (i_shl 1 (Sx1_.1 3 dd_ 2)) 1 0 (sm_aI (sm_aI Sx1_ 33 0 (i_shl 1 (Sx1_.1 3 dd_ 2)).toNat (Sx1_.1 3 dd_ 5)) 33 0 (Sx1_.1 3 dd_ 5).toNat 1) hIx14_ hFx15_ ⟨?_, ?_, ?_, ?_, ?_, ?_, trivial⟩ (Nat.lt_succ_self _)
  · omega
  · intro j9_ hj9_
    (try simp only [rd_eq, rd_ne, rf_eq, rf_nk, rf_nt, rd_fa, rd_af, rd_fl, rd_al, rd_lf, rd_la, rd_leq, rd_lne, rd_fr, rd_ar, ne_eq, Nat.reduceEqDiff, not_false_eq_true])
    split
    · right; rfl
    · split
      · exfalso; omega
      · left; exact e5_ j9_ (by omega)
  · intro j9_ hj9_
    (try simp only [rd_eq, rd_ne, rf_eq, rf_nk, rf_nt, rd_fa, rd_af, rd_fl, rd_al, rd_lf, rd_la, rd_leq, rd_lne, rd_fr, rd_ar, ne_eq, Nat.reduceEqDiff, not_false_eq_true])
    rw [if_neg (by omega), if_pos (by omega)]
    omega
  · rw [← hst9_]
    have c9_ := cn1_one (f := fun k9_ : Nat => if k9_ = (S0_.1 3 dd_ 5).toNat then (1 : Int) else 0) (j := (S0_.1 3 dd_ 5).toNat) (by intro k9_; constructor; (intro z9_; by_cases y9_ : k9_ = (S0_.1 3 dd_ 5).toNat; exact y9_; (rw [if_neg y9_] at z9_; exact absurd z9_ (by decide))); (intro z9_; exact if_pos z9_)) st9_.toNat
    rw [if_pos (by omega)] at c9_
    rw [cn1_cg (g := fun k9_ : Nat => if k9_ = (S0_.1 3 dd_ 5).toNat then (1 : Int) else 0) (fun k9_ hk9_ => ?_), c9_]
    · rfl
    · (try dsimp only)
      (try simp only [rd_eq, rd_ne, rf_eq, rf_nk, rf_nt, rd_fa, rd_af, rd_fl, rd_al, rd_lf, rd_la, rd_leq, rd_lne, rd_fr, rd_ar, ne_eq, Nat.reduceEqDiff, not_false_eq_true])
      by_cases z9_ : k9_ = (S0_.1 3 dd_ 5).toNat
      · rw [if_pos (by omega), if_pos z9_]
      · rw [if_neg (by omega), if_neg (by omega), if_neg z9_]; exact e5_ k9_ (by omega)
  · omega
  · exact hDx16_
end
/-! 99.zg9a -/
section
/-! the class: which nodes are needed; written by wip/p55/gen/vg -/

/-! which nodes are_ needed -/
/-- marks of_ nodes: those that stand for_ themselves, with all_ that they need -/
def mkd (dd_ F_ : Nat) (S_ : sm_S) (u_ : Nat → Int) : Prop := (∀ j_ : Nat, j_ < 1013 → u_ j_ = 0 ∨ (u_ j_ = 1 ∧ (j_ : Int) < S_.1 3 dd_ 4 ∧ S_.2.2.1 44 (0 + dd_) j_ = 2 * (j_ : Int))) ∧ (∀ i_ : Int, 0 ≤ i_ → i_ < S_.1 3 dd_ 3 + S_.1 3 dd_ 2 → u_ (srp dd_ S_ (rtv dd_ S_ i_)) = 1) ∧ ∀ j_ : Nat, F_ ≤ j_ → (j_ : Int) < S_.1 3 dd_ 4 → u_ j_ = 1 → u_ (srp dd_ S_ (S_.2.2.1 42 (0 + dd_) j_)) = 1 ∧ u_ (srp dd_ S_ (S_.2.2.1 43 (0 + dd_) j_)) = 1
theorem srp_b {dd_ F_ : Nat} {S_ : sm_S} {l_ : Int} (h_ : swp dd_ F_ S_) (h0_ : 0 ≤ l_) (h1_ : l_ < 2 * S_.1 3 dd_ 4) : (srp dd_ S_ l_ : Int) ≤ l_ / 2 ∧ S_.2.2.1 44 (0 + dd_) (srp dd_ S_ l_) = 2 * (srp dd_ S_ l_ : Int) ∧ 2 * (srp dd_ S_ l_ : Int) ≤ S_.2.2.1 44 (0 + dd_) (l_ / 2).toNat ∧ S_.2.2.1 44 (0 + dd_) (l_ / 2).toNat ≤ 2 * (srp dd_ S_ l_ : Int) + 1 := by
  have q_ := h_.2 (l_ / 2).toNat (by omega)
  obtain ⟨q1_, q2_, -⟩ := q_
  have e_ : (srp dd_ S_ l_ : Int) = S_.2.2.1 44 (0 + dd_) (l_ / 2).toNat / 2 := by unfold srp; omega
  refine ⟨by omega, ?_, by omega, by omega⟩
  have e2_ : srp dd_ S_ l_ = (S_.2.2.1 44 (0 + dd_) (l_ / 2).toNat / 2).toNat := rfl
  rw [e2_, q2_]
  omega
theorem swl_n {dd_ F_ : Nat} {S_ : sm_S} {l_ : Int} (h_ : swp dd_ F_ S_) (h0_ : 0 ≤ l_) (h1_ : l_ < 2 * S_.1 3 dd_ 4) (h2_ : S_.1 3 dd_ 4 ≤ 1013) : i_xor (S_.2.2.1 44 (0 + dd_) (l_ / 2).toNat) (l_ % 2) / 2 = (srp dd_ S_ l_ : Int) ∧ 0 ≤ i_xor (S_.2.2.1 44 (0 + dd_) (l_ / 2).toNat) (l_ % 2) ∧ i_xor (S_.2.2.1 44 (0 + dd_) (l_ / 2).toNat) (l_ % 2) ≤ 2025 := by
  have b_ := srp_b h_ h0_ h1_
  have x_ := i_xb (x_ := S_.2.2.1 44 (0 + dd_) (l_ / 2).toNat) (b_ := l_ % 2) (by omega) (by omega)
  omega
/-! Design.markNeeded -/
def vw_67s : sx_Wl := ([], [33], [])
def vq_67s (dd_ : Nat) (F_ : Nat) (S0_ : sm_S) (u_ : Option sm_V) (S1_ : sm_S) : Prop := ∃ v_ : Int, u_ = some (.inl v_) ∧ gi S1_ ∧ ai_fr (sx_W vw_67s) S0_ S1_ ∧ ((0 ≤ v_ ∧ v_ ≤ 1000) ∧ mkd dd_ F_ S1_ (S1_.2.2.1 33 0))
set_option maxHeartbeats 2000000 in
theorem vl_67s {sc_ : Nat × (Nat → Int)} (dd_ : Nat) (F_ : Nat) (S0_ : sm_S) (hg_ : dgr dd_ F_ S0_) (hr_ : drt dd_ S0_) (hs_ : swp dd_ F_ S0_) : ∀ nn_ : Nat, (∀ (k_ : Int) (S_ : sm_S), gi S_ → ai_fr (sx_W vw_67s) S0_ S_ → ((0 ≤ k_ ∧ k_ ≤ S0_.1 3 dd_ 3 + S0_.1 3 dd_ 2) ∧ (∀ j9_ : Nat, j9_ < 1013 → S_.2.2.1 33 0 j9_ = 0 ∨ (S_.2.2.1 33 0 j9_ = 1 ∧ (j9_ : Int) < S0_.1 3 dd_ 4 ∧ S0_.2.2.1 44 (0 + dd_) j9_ = 2 * (j9_ : Int))) ∧ (∀ i9_ : Int, 0 ≤ i9_ → i9_ < k_ → S_.2.2.1 33 0 (srp dd_ S0_ (rtv dd_ S0_ i9_)) = 1) ∧ True) → ((5000 + (100 - k_)).toNat) < nn_ → sm_T (mt_P sc_) 1 67 (7, [some (.inr (.inr (some (3, dd_)))), some (.inr (.inr (some (33, 0)))), some (.inl k_), none], [], S_) (fun ro9_ => ∃ u_ S1_, ro9_ = (.inl u_, S1_, 0) ∧ vq_67s dd_ F_ S0_ u_ S1_)) ∧ (∀ (c_ : Int) (n_ : Int) (S_ : sm_S), gi S_ → ai_fr (sx_W vw_67s) S0_ S_ → (((F_ : Int) - 1 ≤ n_ ∧ n_ < S0_.1 3 dd_ 4 ∧ 0 ≤ c_ ∧ c_ ≤ S0_.1 3 dd_ 4 - 1 - n_) ∧ (∀ j9_ : Nat, j9_ < 1013 → S_.2.2.1 33 0 j9_ = 0 ∨ (S_.2.2.1 33 0 j9_ = 1 ∧ (j9_ : Int) < S0_.1 3 dd_ 4 ∧ S0_.2.2.1 44 (0 + dd_) j9_ = 2 * (j9_ : Int))) ∧ (∀ i9_ : Int, 0 ≤ i9_ → i9_ < S0_.1 3 dd_ 3 + S0_.1 3 dd_ 2 → S_.2.2.1 33 0 (srp dd_ S0_ (rtv dd_ S0_ i9_)) = 1) ∧ (∀ j9_ : Nat, n_ < (j9_ : Int) → F_ ≤ j9_ → (j9_ : Int) < S0_.1 3 dd_ 4 → S_.2.2.1 33 0 j9_ = 1 → S_.2.2.1 33 0 (srp dd_ S0_ (S0_.2.2.1 42 (0 + dd_) j9_)) = 1 ∧ S_.2.2.1 33 0 (srp dd_ S0_ (S0_.2.2.1 43 (0 + dd_) j9_)) = 1) ∧ True) → ((n_ + 1).toNat) < nn_ → sm_T (mt_P sc_) 1 67 (44, [some (.inr (.inr (some (3, dd_)))), some (.inr (.inr (some (33, 0)))), some (.inl c_), some (.inl n_)], [], S_) (fun ro9_ => ∃ u_ S1_, ro9_ = (.inl u_, S1_, 0) ∧ vq_67s dd_ F_ S0_ u_ S1_)) := by
  intro nn_
  induction nn_ with
  | zero => exact ⟨fun _ _ _ _ _ h_ => absurd h_ (Nat.not_lt_zero _), fun _ _ _ _ _ _ h_ => absurd h_ (Nat.not_lt_zero _)⟩
  | succ nn_ ih_ =>
    refine ⟨?_, ?_⟩
    · rintro k_ S_ hI_ hF_ ⟨h0_, hz_, hq_, -⟩ hm_
      have g1_ := hg_.1
      have g2_ := hg_.2.1
      have r1_ := hr_.1
      have e2_ : S_.1 3 dd_ 2 = S0_.1 3 dd_ 2 := hF_.1 3 dd_ 2 rfl
      have e1_ : S_.1 3 dd_ 1 = S0_.1 3 dd_ 1 := hF_.1 3 dd_ 1 rfl
      have e3_ : S_.1 3 dd_ 3 = S0_.1 3 dd_ 3 := hF_.1 3 dd_ 3 rfl
      have e4_ : S_.1 3 dd_ 4 = S0_.1 3 dd_ 4 := hF_.1 3 dd_ 4 rfl
      have n13_ : S_.1 3 dd_ 4 ≤ 1013 := (hI_.1 3 dd_ 4 rfl).2
      have f44_ : S_.2.2.1 44 (0 + dd_) = S0_.2.2.1 44 (0 + dd_) := fr_arr hF_ rfl
      have f42_ : S_.2.2.1 42 (0 + dd_) = S0_.2.2.1 42 (0 + dd_) := fr_arr hF_ rfl
      have f43_ : S_.2.2.1 43 (0 + dd_) = S0_.2.2.1 43 (0 + dd_) := fr_arr hF_ rfl
      have f45_ : S_.2.2.1 45 (0 + dd_) = S0_.2.2.1 45 (0 + dd_) := fr_arr hF_ rfl
      have f46_ : S_.2.2.1 46 (0 + dd_) = S0_.2.2.1 46 (0 + dd_) := fr_arr hF_ rfl
      refine sm_T_go 2 (c1 := (9, [some (.inr (.inr (some (3, dd_)))), some (.inr (.inr (some (33, 0)))), some (.inl k_), none], [.inr (.inr (some (3, dd_))), .inl k_], S_)) rfl ?_
      refine sm_T_cal (d1 := 0) (Q1 := vq_66 dd_ S_) rfl rfl (by decide) (vc_66 dd_ S_ hI_ (by omega)) (fun u_ Sx1_ px4_ => ?_)
      obtain ⟨rfl, vx6_, rfl, px4_⟩ := px4_
      have e9_ := px4_
      refine sm_T_br (a := 3) (z := 23) rfl (fun cx7_ => ?_) (fun cx7_ => ?_)
      · have cx7_ : vx6_ ≤ k_ := of_decide_eq_true cx7_
        have bx8_ : 0 ≤ S_.1 3 dd_ 4 ∧ S_.1 3 dd_ 4 ≤ 1013 := hI_.1 3 dd_ 4 rfl
        refine sm_T_go 5 (c1 := (42, [some (.inr (.inr (some (3, dd_)))), some (.inr (.inr (some (33, 0)))), some (.inl 0), none], [.inl 1, .inl (S_.1 3 dd_ 4)], S_)) rfl ?_
        refine sm_T_bin (w := (S_.1 3 dd_ 4) - 1) rfl (bi_sub (by omega) (by omega) (by omega)) ?_
        refine sm_T_go 1 (c1 := (44, [some (.inr (.inr (some (3, dd_)))), some (.inr (.inr (some (33, 0)))), some (.inl 0), some (.inl ((S_.1 3 dd_ 4) - 1))], [], S_)) rfl ?_
        refine ih_.2 0 ((S_.1 3 dd_ 4) - 1) S_ hI_ hF_ ⟨?_, ?_, ?_, ?_, trivial⟩ ?_
        · omega
        · exact hz_
        · (intro i9_ q8_ q9_; exact hq_ i9_ q8_ (by omega))
        · (intro j9_ q7_ q8_ q9_; omega)
        · omega
      · have cx7_ : ¬ (vx6_ ≤ k_) := of_decide_eq_false cx7_
        refine sm_T_go 4 (c1 := (19, [some (.inr (.inr (some (3, dd_)))), some (.inr (.inr (some (33, 0)))), some (.inl k_), none], [.inl k_, .inr (.inr (some (3, dd_))), .inr (.inr (some (3, dd_))), .inr (.inr (some (33, 0)))], S_)) rfl ?_
        refine sm_T_cal (d1 := 0) (Q1 := vq_65 k_ dd_ S_) rfl rfl (by decide) (vc_65 k_ dd_ S_ hI_ (by exact drt_fr hr_ hF_ rfl rfl rfl rfl rfl) (by omega)) (fun u_ Sx9_ px12_ => ?_)
        obtain ⟨rfl, vx14_, rfl, px12_⟩ := px12_
        have e19_ := px12_
        have v19_ : vx14_ = rtv dd_ S0_ k_ := by rw [e19_.1]; unfold rtv; rw [e3_, f45_, f46_]
        refine sm_T_cal (d1 := 0) (Q1 := vq_64 vx14_ dd_ S_) rfl rfl (by decide) (vc_64 vx14_ dd_ S_ hI_ (by omega)) (fun u_ Sx15_ px18_ => ?_)
        obtain ⟨rfl, vx20_, rfl, px18_⟩ := px18_
        have e22_ := px18_
        rw [f44_] at e22_
        have sw9_ := swl_n hs_ (l_ := rtv dd_ S0_ k_) (by omega) (by omega) (by omega)
        rw [v19_] at e22_
        rw [← e22_] at sw9_
        have sb9_ := srp_b hs_ (l_ := rtv dd_ S0_ k_) (by omega) (by omega)
        have tn9_ : (vx20_ / 2).toNat = srp dd_ S0_ (rtv dd_ S0_ k_) := by omega
        refine sm_T_go 1 (c1 := (26, [some (.inr (.inr (some (3, dd_)))), some (.inr (.inr (some (33, 0)))), some (.inl k_), none], [.inl 1, .inl vx20_, .inr (.inr (some (33, 0)))], S_)) rfl ?_
        refine sm_T_bin (w := (vx20_ / 2)) rfl (bi_shr (k := 1) (by decide) (by omega) (by omega)) ?_
        refine sm_T_go 1 (c1 := (28, [some (.inr (.inr (some (3, dd_)))), some (.inr (.inr (some (33, 0)))), some (.inl k_), none], [.inl 1, .inl (vx20_ / 2), .inr (.inr (some (33, 0)))], S_)) rfl ?_
        refine sm_T_iast (n := 1013) rfl rfl (by omega) (by omega) ?_
        have hIx21_ : gi (sm_aI S_ 33 0 (vx20_ / 2).toNat 1) := gi_aI hI_ (show 0 ≤ 1 ∧ 1 ≤ 1012 from ⟨by omega, by omega⟩)
        have hFx22_ : ai_fr (sx_W vw_67s) S0_ (sm_aI S_ 33 0 (vx20_ / 2).toNat 1) := ai_fr_tr hF_ (ai_fr_aI rfl)
        refine sm_T_inc (a := 2) (z := 1) (v := k_) (w := k_ + 1) rfl rfl (by omega) (by omega) (by omega) ?_
        refine sm_T_go 1 (c1 := (7, [some (.inr (.inr (some (3, dd_)))), some (.inr (.inr (some (33, 0)))), some (.inl (k_ + 1)), none], [], sm_aI S_ 33 0 (vx20_ / 2).toNat 1)) rfl ?_
        refine ih_.1 (k_ + 1) (sm_aI S_ 33 0 (vx20_ / 2).toNat 1) hIx21_ hFx22_ ⟨?_, ?_, ?_, trivial⟩ ?_
        · omega
        · intro j9_ hj9_
          rw [rd_eq]
          by_cases z9_ : j9_ = srp dd_ S0_ (rtv dd_ S0_ k_)
          · rw [if_pos (by omega)]; right; rw [z9_]; exact ⟨rfl, by omega, sb9_.2.1⟩
          · rw [if_neg (by omega)]; exact hz_ j9_ hj9_
        · intro i9_ q8_ q9_
          rw [rd_eq]
          by_cases z9_ : srp dd_ S0_ (rtv dd_ S0_ i9_) = srp dd_ S0_ (rtv dd_ S0_ k_)
          · rw [if_pos (by omega)]
          · rw [if_neg (by omega)]; exact hq_ i9_ q8_ (by by_cases y9_ : i9_ = k_; (exact absurd (by rw [y9_]) z9_); omega)
        · omega
    · rintro c_ n_ S_ hI_ hF_ ⟨h0_, hz_, hq_, hc_, -⟩ hm_
      have g1_ := hg_.1
      have g2_ := hg_.2.1
      have r1_ := hr_.1
      have e2_ : S_.1 3 dd_ 2 = S0_.1 3 dd_ 2 := hF_.1 3 dd_ 2 rfl
      have e1_ : S_.1 3 dd_ 1 = S0_.1 3 dd_ 1 := hF_.1 3 dd_ 1 rfl
      have e3_ : S_.1 3 dd_ 3 = S0_.1 3 dd_ 3 := hF_.1 3 dd_ 3 rfl
      have e4_ : S_.1 3 dd_ 4 = S0_.1 3 dd_ 4 := hF_.1 3 dd_ 4 rfl
      have n13_ : S_.1 3 dd_ 4 ≤ 1013 := (hI_.1 3 dd_ 4 rfl).2
      have f44_ : S_.2.2.1 44 (0 + dd_) = S0_.2.2.1 44 (0 + dd_) := fr_arr hF_ rfl
      have f42_ : S_.2.2.1 42 (0 + dd_) = S0_.2.2.1 42 (0 + dd_) := fr_arr hF_ rfl
      have f43_ : S_.2.2.1 43 (0 + dd_) = S0_.2.2.1 43 (0 + dd_) := fr_arr hF_ rfl
      have f45_ : S_.2.2.1 45 (0 + dd_) = S0_.2.2.1 45 (0 + dd_) := fr_arr hF_ rfl
      have f46_ : S_.2.2.1 46 (0 + dd_) = S0_.2.2.1 46 (0 + dd_) := fr_arr hF_ rfl
      refine sm_T_go 2 (c1 := (46, [some (.inr (.inr (some (3, dd_)))), some (.inr (.inr (some (33, 0)))), some (.inl c_), some (.inl n_)], [.inr (.inr (some (3, dd_))), .inl n_], S_)) rfl ?_
      refine sm_T_cal (d1 := 0) (Q1 := vq_63 dd_ S_) rfl rfl (by decide) (vc_63 dd_ S_ hI_ (by omega)) (fun u_ Sx1_ px4_ => ?_)
      obtain ⟨rfl, vx6_, rfl, px4_⟩ := px4_
      have e46_ := px4_
      refine sm_T_br (a := 2) (z := 48) rfl (fun cx7_ => ?_) (fun cx7_ => ?_)
      · have cx7_ : n_ < vx6_ := of_decide_eq_true cx7_
        refine sm_T_go 1 (c1 := (98, [some (.inr (.inr (some (3, dd_)))), some (.inr (.inr (some (33, 0)))), some (.inl c_), some (.inl n_)], [.inl c_], S_)) rfl ?_
        refine sm_T_ri rfl ⟨_, _, rfl, _, rfl, hI_, hF_, ?_⟩
        refine ⟨by omega, fun j9_ hj9_ => ?_, fun i9_ q8_ q9_ => ?_, fun j9_ q7_ q8_ q9_ => ?_⟩
        · have q9_ := hz_ j9_ hj9_; rw [e4_, f44_]; exact q9_
        · have q7_ := hq_ i9_ q8_ (by omega); unfold srp rtv; rw [e3_, f44_, f45_, f46_]; exact q7_
        · have q6_ := hc_ j9_ (by omega) q7_ (by omega) q9_; unfold srp; rw [f42_, f43_, f44_]; exact q6_
      · have cx7_ : ¬ (n_ < vx6_) := of_decide_eq_false cx7_
        have gn_ := hg_.2.2 n_.toNat (by omega) (by omega)
        rw [← f42_, ← f43_] at gn_
        refine sm_T_go 2 (c1 := (54, [some (.inr (.inr (some (3, dd_)))), some (.inr (.inr (some (33, 0)))), some (.inl c_), some (.inl n_)], [.inl n_, .inr (.inr (some (33, 0)))], S_)) rfl ?_
        refine sm_T_iald (n := 1013) rfl rfl (by omega) (by omega) ?_
        have bx8_ : 0 ≤ S_.2.2.1 33 0 n_.toNat ∧ S_.2.2.1 33 0 n_.toNat ≤ 1012 := hI_.2 33 0 _
        refine sm_T_b0 (a := 0) (z := 36) rfl (fun cx9_ => ?_) (fun cx9_ => ?_)
        · have cx9_ : (S_.2.2.1 33 0 n_.toNat) = 0 := of_decide_eq_true cx9_
          refine sm_T_inc (a := 3) (z := (-1)) (v := n_) (w := n_ - 1) rfl rfl (by omega) (by omega) (by omega) ?_
          refine sm_T_go 1 (c1 := (44, [some (.inr (.inr (some (3, dd_)))), some (.inr (.inr (some (33, 0)))), some (.inl c_), some (.inl (n_ - 1))], [], S_)) rfl ?_
          refine ih_.2 c_ (n_ - 1) S_ hI_ hF_ ⟨?_, ?_, ?_, ?_, trivial⟩ ?_
          · omega
          · exact hz_
          · exact hq_
          · intro j9_ q6_ q7_ q8_ q9_
            by_cases z9_ : (j9_ : Int) = n_
            · exfalso; rw [show j9_ = n_.toNat by omega] at q9_; omega
            · exact hc_ j9_ (by omega) q7_ q8_ q9_
          · omega
        · have cx9_ : ¬ ((S_.2.2.1 33 0 n_.toNat) = 0) := of_decide_eq_false cx9_
          refine sm_T_inc (a := 2) (z := 1) (v := c_) (w := c_ + 1) rfl rfl (by omega) (by omega) (by omega) ?_
          refine sm_T_go 5 (c1 := (68, [some (.inr (.inr (some (3, dd_)))), some (.inr (.inr (some (33, 0)))), some (.inl (c_ + 1)), some (.inl n_)], [.inl n_, .inr (.inr (some (42, (0 + dd_)))), .inr (.inr (some (3, dd_))), .inr (.inr (some (33, 0)))], S_)) rfl ?_
          refine sm_T_iald (n := 1013) rfl rfl (by omega) (by omega) ?_
          have bx10_ : 0 ≤ S_.2.2.1 42 (0 + dd_) n_.toNat ∧ S_.2.2.1 42 (0 + dd_) n_.toNat ≤ 2025 := hI_.2 42 (0 + dd_) _
          refine sm_T_cal (d1 := 0) (Q1 := vq_64 (S_.2.2.1 42 (0 + dd_) n_.toNat) dd_ S_) rfl rfl (by decide) (vc_64 (S_.2.2.1 42 (0 + dd_) n_.toNat) dd_ S_ hI_ (by omega)) (fun u_ Sx11_ px14_ => ?_)
          obtain ⟨rfl, vx16_, rfl, px14_⟩ := px14_
          have e69_ := px14_
          rw [f44_, f42_] at e69_
          rw [f42_, f43_] at gn_
          have sw9_ := swl_n hs_ (l_ := S0_.2.2.1 42 (0 + dd_) n_.toNat) (by omega) (by omega) (by omega)
          rw [← e69_] at sw9_
          have sb9_ := srp_b hs_ (l_ := S0_.2.2.1 42 (0 + dd_) n_.toNat) (by omega) (by omega)
          have tl9_ : (vx16_ / 2).toNat = srp dd_ S0_ (S0_.2.2.1 42 (0 + dd_) n_.toNat) := by omega
          refine sm_T_go 1 (c1 := (73, [some (.inr (.inr (some (3, dd_)))), some (.inr (.inr (some (33, 0)))), some (.inl (c_ + 1)), some (.inl n_)], [.inl 1, .inl vx16_, .inr (.inr (some (33, 0)))], S_)) rfl ?_
          refine sm_T_bin (w := (vx16_ / 2)) rfl (bi_shr (k := 1) (by decide) (by omega) (by omega)) ?_
          refine sm_T_go 1 (c1 := (75, [some (.inr (.inr (some (3, dd_)))), some (.inr (.inr (some (33, 0)))), some (.inl (c_ + 1)), some (.inl n_)], [.inl 1, .inl (vx16_ / 2), .inr (.inr (some (33, 0)))], S_)) rfl ?_
          refine sm_T_iast (n := 1013) rfl rfl (by omega) (by omega) ?_
          have hIx17_ : gi (sm_aI S_ 33 0 (vx16_ / 2).toNat 1) := gi_aI hI_ (show 0 ≤ 1 ∧ 1 ≤ 1012 from ⟨by omega, by omega⟩)
          have hFx18_ : ai_fr (sx_W vw_67s) S0_ (sm_aI S_ 33 0 (vx16_ / 2).toNat 1) := ai_fr_tr hF_ (ai_fr_aI rfl)
          refine sm_T_go 5 (c1 := (83, [some (.inr (.inr (some (3, dd_)))), some (.inr (.inr (some (33, 0)))), some (.inl (c_ + 1)), some (.inl n_)], [.inl n_, .inr (.inr (some (43, (0 + dd_)))), .inr (.inr (some (3, dd_))), .inr (.inr (some (33, 0)))], sm_aI S_ 33 0 (vx16_ / 2).toNat 1)) rfl ?_
          refine sm_T_iald (n := 1013) rfl rfl (by omega) (by omega) ?_
          have bx19_ : 0 ≤ S_.2.2.1 43 (0 + dd_) n_.toNat ∧ S_.2.2.1 43 (0 + dd_) n_.toNat ≤ 2025 := hI_.2 43 (0 + dd_) _
          refine sm_T_go 0 (c1 := (84, [some (.inr (.inr (some (3, dd_)))), some (.inr (.inr (some (33, 0)))), some (.inl (c_ + 1)), some (.inl n_)], [.inl (S_.2.2.1 43 (0 + dd_) n_.toNat), .inr (.inr (some (3, dd_))), .inr (.inr (some (33, 0)))], sm_aI S_ 33 0 (vx16_ / 2).toNat 1)) rfl ?_
          refine sm_T_cal (d1 := 0) (Q1 := vq_64 (S_.2.2.1 43 (0 + dd_) n_.toNat) dd_ (sm_aI S_ 33 0 (vx16_ / 2).toNat 1)) rfl rfl (by decide) (vc_64 (S_.2.2.1 43 (0 + dd_) n_.toNat) dd_ (sm_aI S_ 33 0 (vx16_ / 2).toNat 1) hIx17_ (by (rw [f43_]; omega))) (fun u_ Sx20_ px23_ => ?_)
          obtain ⟨rfl, vx25_, rfl, px23_⟩ := px23_
          have e84_ := px23_
          simp only [rd_ne, ne_eq, Nat.reduceEqDiff, not_false_eq_true] at e84_
          rw [f44_, f43_] at e84_
          have sw8_ := swl_n hs_ (l_ := S0_.2.2.1 43 (0 + dd_) n_.toNat) (by omega) (by omega) (by omega)
          rw [← e84_] at sw8_
          have sb8_ := srp_b hs_ (l_ := S0_.2.2.1 43 (0 + dd_) n_.toNat) (by omega) (by omega)
          have th9_ : (vx25_ / 2).toNat = srp dd_ S0_ (S0_.2.2.1 43 (0 + dd_) n_.toNat) := by omega
          refine sm_T_go 1 (c1 := (88, [some (.inr (.inr (some (3, dd_)))), some (.inr (.inr (some (33, 0)))), some (.inl (c_ + 1)), some (.inl n_)], [.inl 1, .inl vx25_, .inr (.inr (some (33, 0)))], sm_aI S_ 33 0 (vx16_ / 2).toNat 1)) rfl ?_
          refine sm_T_bin (w := (vx25_ / 2)) rfl (bi_shr (k := 1) (by decide) (by omega) (by omega)) ?_
          refine sm_T_go 1 (c1 := (90, [some (.inr (.inr (some (3, dd_)))), some (.inr (.inr (some (33, 0)))), some (.inl (c_ + 1)), some (.inl n_)], [.inl 1, .inl (vx25_ / 2), .inr (.inr (some (33, 0)))], sm_aI S_ 33 0 (vx16_ / 2).toNat 1)) rfl ?_
          refine sm_T_iast (n := 1013) rfl rfl (by omega) (by omega) ?_
          have hIx26_ : gi (sm_aI (sm_aI S_ 33 0 (vx16_ / 2).toNat 1) 33 0 (vx25_ / 2).toNat 1) := gi_aI hIx17_ (show 0 ≤ 1 ∧ 1 ≤ 1012 from ⟨by omega, by omega⟩)
          have hFx27_ : ai_fr (sx_W vw_67s) S0_ (sm_aI (sm_aI S_ 33 0 (vx16_ / 2).toNat 1) 33 0 (vx25_ / 2).toNat 1) := ai_fr_tr hFx18_ (ai_fr_aI rfl)
          refine sm_T_inc (a := 3) (z := (-1)) (v := n_) (w := n_ - 1) rfl rfl (by omega) (by omega) (by omega) ?_
          refine sm_T_go 1 (c1 := (44, [some (.inr (.inr (some (3, dd_)))), some (.inr (.inr (some (33, 0)))), some (.inl (c_ + 1)), some (.inl (n_ - 1))], [], sm_aI (sm_aI S_ 33 0 (vx16_ / 2).toNat 1) 33 0 (vx25_ / 2).toNat 1)) rfl ?_
          refine ih_.2 (c_ + 1) (n_ - 1) (sm_aI (sm_aI S_ 33 0 (vx16_ / 2).toNat 1) 33 0 (vx25_ / 2).toNat 1) hIx26_ hFx27_ ⟨?_, ?_, ?_, ?_, trivial⟩ ?_
          · omega
          · intro j9_ hj9_
            rw [rd_eq]
            by_cases z9_ : j9_ = srp dd_ S0_ (S0_.2.2.1 43 (0 + dd_) n_.toNat)
            · rw [if_pos (by omega)]; right; rw [z9_]; exact ⟨rfl, by omega, sb8_.2.1⟩
            · rw [if_neg (by omega), rd_eq]
              by_cases y9_ : j9_ = srp dd_ S0_ (S0_.2.2.1 42 (0 + dd_) n_.toNat)
              · rw [if_pos (by omega)]; right; rw [y9_]; exact ⟨rfl, by omega, sb9_.2.1⟩
              · rw [if_neg (by omega)]; exact hz_ j9_ hj9_
          · intro i9_ q8_ q9_
            rw [rd_eq]
            split
            · rfl
            · rw [rd_eq]; split; rfl; exact hq_ i9_ q8_ q9_
          · have mono : ∀ j8_ : Nat, S_.2.2.1 33 0 j8_ = 1 → ((sm_aI (sm_aI S_ 33 0 (vx16_ / 2).toNat 1) 33 0 (vx25_ / 2).toNat 1)).2.2.1 33 0 j8_ = 1 := fun j8_ w8_ => by rw [rd_eq]; split; rfl; (rw [rd_eq]; split; rfl; exact w8_)
            intro j9_ q6_ q7_ q8_ q9_
            by_cases z9_ : (j9_ : Int) = n_
            · rw [show j9_ = n_.toNat by omega]
              refine ⟨?_, ?_⟩
              · rw [rd_eq]; split; rfl; (rw [rd_eq, if_pos (by omega)])
              · rw [rd_eq, if_pos (by omega)]
            · have lt9_ := hg_.2.2 j9_ q7_ q8_
              have q5_ : S_.2.2.1 33 0 j9_ = 1 := by rw [rd_eq, if_neg (by omega), rd_eq, if_neg (by omega)] at q9_; exact q9_
              have w9_ := hc_ j9_ (by omega) q7_ q8_ q5_
              exact ⟨mono _ w9_.1, mono _ w9_.2⟩
          · omega
set_option maxHeartbeats 2000000 in
theorem vc_67s {sc_ : Nat × (Nat → Int)} (dd_ : Nat) (F_ : Nat) (S0_ : sm_S) (hI_ : gi S0_) (hg_ : dgr dd_ F_ S0_) (hr_ : drt dd_ S0_) (hs_ : swp dd_ F_ S0_) : sm_T (mt_P sc_) 1 67 (0, [some (.inr (.inr (some (3, dd_)))), some (.inr (.inr (some (33, 0)))), none, none], [], S0_) (fun ro9_ => ∃ u_ S1_, ro9_ = (.inl u_, S1_, 0) ∧ vq_67s dd_ F_ S0_ u_ S1_) := by
  have hF_ : ai_fr (sx_W vw_67s) S0_ S0_ := ai_fr_rf
  refine sm_T_go 2 (c1 := (2, [some (.inr (.inr (some (3, dd_)))), some (.inr (.inr (some (33, 0)))), none, none], [.inl 0, .inr (.inr (some (33, 0)))], S0_)) rfl ?_
  refine sm_T_cal (d1 := 0) (Q1 := vq_2s 0 S0_) rfl rfl (by decide) (vc_2s 0 S0_ hI_ (by decide)) (fun u_ Sx1_ px4_ => ?_)
  obtain ⟨rfl, hIx2_, hFx3_, px4_⟩ := px4_
  have hFx5_ : ai_fr (sx_W vw_67s) S0_ Sx1_ := ai_fr_tr hF_ (fr_le hFx3_ rfl)
  have e0_ := px4_
  refine sm_T_go 2 (c1 := (7, [some (.inr (.inr (some (3, dd_)))), some (.inr (.inr (some (33, 0)))), some (.inl 0), none], [], Sx1_)) rfl ?_
  refine (vl_67s dd_ F_ S0_ hg_ hr_ hs_ _).1 0 Sx1_ hIx2_ hFx5_ ⟨?_, ?_, ?_, trivial⟩ (Nat.lt_succ_self _)
  · (have r1_ := hr_.1; omega)
  · (intro j9_ hj9_; left; exact e0_ j9_ hj9_)
  · (intro i9_ q8_ q9_; omega)
end
/-! 99.zh1a -/
section
/-! the class: a design is built; written by wip/p55/gen/vg -/

/-! a_ design is_ built -/
theorem stk_suf {f_ : Nat → Int} : ∀ {l_ s_ : List Int}, stk f_ (l_ ++ s_) → stk f_ s_
  | [], _, h_ => h_
  | _ :: l_, _, h_ => stk_suf (l_ := l_) h_.2
theorem stk_rw {f_ : Nat → Int} {l_ w_ c_ : List Int} (h_ : stk f_ (l_ ++ (w_.reverse ++ c_))) : rwv f_ c_.length w_ := by
  intro k_ z_ e_
  have h1_ := stk_suf h_
  obtain ⟨hk_, hz_⟩ := List.getElem?_eq_some_iff.mp e_
  have e2_ : w_ = w_.take k_ ++ z_ :: w_.drop (k_ + 1) := by
    rw [← hz_, List.getElem_cons_drop, List.take_append_drop]
  rw [e2_, List.reverse_append, List.reverse_cons, List.append_assoc, List.append_assoc] at h1_
  have h2_ := stk_suf h1_
  have h3_ : f_ ((w_.take k_).reverse ++ c_).length = z_ := h2_.1
  rw [← h3_]
  congr 1
  rw [List.length_append, List.length_reverse, List.length_take]
  omega
theorem ccd_of {b_ : Nat → Int} {n_ : Nat} {r_ : pD} {S_ : sm_S} (hn_ : n_ ≤ 1280) (hr_ : p_de b_ n_ = .inr r_) (hc_ : cr r_.2.2.2.2 S_) (hg_ : gi S_) (hm_ : ∀ k_ : Nat, k_ ≤ r_.2.2.1 → S_.2.2.1 76 0 k_ = (r_.2.2.2.1 k_ : Int)) : ccd (dC r_) (d_tp r_) S_ := by
  obtain ⟨h1_, h2_⟩ := de_ch hn_ hr_
  intro k_ hk_
  have kM_ : k_ < r_.2.2.1 := by unfold d_tp at hk_; omega
  obtain ⟨f_, A_, c0_, u_, ce_, l_, w1_, w2_, w3_, w4_, w5_, w6_, w7_⟩ := dC_r hn_ (h1_ k_ kM_).1
  refine ⟨c0_.length, by rw [hm_ k_ (by omega), w5_], by rw [hm_ (k_ + 1) (by omega), w6_], ?_, ?_⟩
  · have q_ := hc_.2.1
    have q2_ : S_.1 7 0 2 ≤ 65536 := (hg_.1 7 0 2 rfl).2
    have q3_ : r_.2.2.2.2.length = l_.length + ((dC r_ k_).length + c0_.length) := by rw [w7_, w3_, List.length_append, List.length_append, List.length_reverse]
    omega
  · have q_ := hc_.2.2
    rw [w7_, w3_] at q_
    exact stk_rw q_
theorem d_zz {b_ : Nat → Int} {n_ : Nat} {r_ : pD} (hn_ : n_ ≤ 1280) (h_ : p_de b_ n_ = .inr r_) (hl_ : d_lm r_ = 0) : ∃ z_, exm (1 + d_I r_ + d_R r_) (d_I r_) r_.1 (dC r_) 16 (d_tp r_) ([], 0, 1) (ein r_.1 (d_tp r_)) = some z_ ∧ z_.1.2.1 = d_R r_ ∧ ∀ s_, s_ < r_.1.1 (d_tp r_) → r_.1.2.2.1 (40 * d_tp r_ + s_) ≠ 5 → ((z_.2 s_).length : Int) = r_.1.2.2.2.1 (40 * d_tp r_ + s_) := by
  obtain ⟨h1_, h2_⟩ := de_ch hn_ h_
  obtain ⟨i1_, i2_, i3_, i4_, i5_⟩ := d_in hn_ h_
  have l_ := lm_0 hl_
  have g_ := g_sum (fun m_ hm_ => (h1_ m_ hm_).2)
  obtain ⟨G'_, e'_, w_, w2_⟩ := exm_tot (F_ := 1 + d_I r_ + d_R r_) (I_ := d_I r_) (C_ := dC r_) (N_ := r_.2.1) hn_ (fun m_ hm_ => (h1_ m_ hm_).2) g_.1 g_.2 (fun m_ hm_ => by
    obtain ⟨f_, A_, c0_, u_, ce_, l_, w1_, w2_, w3_, -⟩ := dC_r hn_ (h1_ m_ hm_).1
    exact ⟨f_, A_, c0_, u_, ce_, w1_, w2_, w3_⟩) (d_tp r_ + 1) (d_tp r_) (by omega) i3_ l_.2.2.1 l_.1 16 [] 0 1 (ein r_.1 (d_tp r_)) (by omega) (by simpa using l_.2.2.1) (by have := l_.1; push_cast; omega) (ein_o (h1_ (d_tp r_) i3_).2)
  refine ⟨_, w_, ?_, w2_⟩
  show 0 + (gR r_.1 r_.2.2.1 (d_tp r_)).toNat = d_R r_
  unfold d_R
  omega
theorem swp_fr {w_ : sx_Wl} {dd_ F_ : Nat} {S_ S'_ : sm_S} (h_ : swp dd_ F_ S_) (g_ : ai_fr (sx_W w_) S_ S'_) (h3_ : (sx_W w_).1 3 4 = false) (h4_ : (sx_W w_).2.1 42 = false) (h5_ : (sx_W w_).2.1 43 = false) (h6_ : (sx_W w_).2.1 44 = false) : swp dd_ F_ S'_ := by
  unfold swp
  rw [g_.1 3 dd_ 4 h3_, fr_arr (t := 42) g_ h4_, fr_arr (t := 43) g_ h5_, fr_arr (t := 44) g_ h6_]
  exact h_
theorem dtb_fr {w_ : sx_Wl} {dd_ : Nat} {S_ S'_ : sm_S} (h_ : dtb dd_ S_) (g_ : ai_fr (sx_W w_) S_ S'_) (h3_ : (sx_W w_).1 3 2 = false) (h4_ : (sx_W w_).2.1 47 = false) : dtb dd_ S'_ := by
  unfold dtb
  rw [g_.1 3 dd_ 2 h3_, fr_arr (t := 47) g_ h4_]
  exact h_
theorem lm_b {r_ : pD} : 0 ≤ d_lm r_ ∧ d_lm r_ ≤ 22 := by
  unfold d_lm p_lm
  repeat' split
  all_goals omega
theorem cgl_x {dd_ F_ : Nat} {G_ : pGr} {S_ : sm_S} (h_ : cgl dd_ F_ G_ S_) (hl_ : G_.length ≤ 1000) : cgx dd_ F_ G_ S_ := by
  obtain ⟨G1_, x_, y_⟩ := h_
  rcases y_ with y_ | y_
  · rw [← y_.2.1]; exact x_
  · omega
/-- a_ design that is_ there -/
def dOk (dd_ : Nat) (S_ : sm_S) : Prop := ∃ F_, dgr dd_ F_ S_ ∧ drt dd_ S_ ∧ swp dd_ F_ S_ ∧ dtb dd_ S_ ∧ (0 ≤ S_.1 3 dd_ 5 ∧ S_.1 3 dd_ 5 < 2 ^ (S_.1 3 dd_ 2).toNat) ∧ 0 ≤ S_.1 3 dd_ 6 ∧ S_.1 3 dd_ 6 < 2 ^ (S_.1 3 dd_ 2).toNat
theorem idf_ds {dd_ j_ : Nat} {S_ S'_ : sm_S} (h_ : idf dd_ S_ S'_) (hj_ : j_ ≠ dd_) (hd_ : S_.1 3 j_ 0 = 1 → dOk j_ S_) : S'_.1 3 j_ 0 = 1 → dOk j_ S'_ := by
  intro q_
  have e_ := (h_ j_ hj_).1
  have a_ := (h_ j_ hj_).2
  rw [e_ 0 (by decide)] at q_
  obtain ⟨F_, h1_, h2_, h3_, h4_, h5_, h6_⟩ := hd_ q_
  refine ⟨F_, ?_, ?_, ?_, ?_, ?_⟩
  · unfold dgr
    rw [e_ 1 (by decide), e_ 2 (by decide), e_ 4 (by decide), a_ 42 (by decide) (by decide), a_ 43 (by decide) (by decide)]
    exact h1_
  · unfold drt
    rw [e_ 3 (by decide), e_ 2 (by decide), e_ 4 (by decide), a_ 45 (by decide) (by decide), a_ 46 (by decide) (by decide)]
    exact h2_
  · unfold swp
    rw [e_ 4 (by decide), a_ 42 (by decide) (by decide), a_ 43 (by decide) (by decide), a_ 44 (by decide) (by decide)]
    exact h3_
  · unfold dtb
    rw [e_ 2 (by decide), a_ 47 (by decide) (by decide)]
    exact h4_
  · rw [e_ 2 (by decide), e_ 5 (by decide), e_ 6 (by decide)]
    exact ⟨h5_, h6_⟩
/-- what a_ right design comes to_: 0, or the_ number of_ a_ fault -/
def d_gr (r_ : pD) (z_ : gQ × gE) : Prop := exm (1 + d_I r_ + d_R r_) (d_I r_) r_.1 (dC r_) 16 (d_tp r_) ([], 0, 1) (ein r_.1 (d_tp r_)) = some z_
/-! Builder.build -/
end
/-! 99.zh2a -/
section
/-! the class: design; written by wip/p55/gen/vg -/

/-! the_ class: a_ text becomes a_ design -/
/-- a_ text that is_ a_ design -/
def dacc (b_ : Nat → Int) (n_ : Nat) : Prop := ∃ r_ z_, p_de b_ n_ = .inr r_ ∧ d_lm r_ = 0 ∧ d_gr r_ z_ ∧ z_.1.1.length ≤ 1000
theorem dacc_l {b_ : Nat → Int} {n_ : Nat} {e_ : Int × Nat} (h_ : p_de b_ n_ = .inl e_) : ¬ dacc b_ n_ := by
  rintro ⟨r_, z_, h1_, -⟩
  rw [h_] at h1_
  cases h1_
theorem dacc_r {b_ : Nat → Int} {n_ : Nat} {r_ : pD} (h_ : p_de b_ n_ = .inr r_) (hq_ : d_lm r_ ≠ 0 ∨ (d_lm r_ = 0 ∧ ∃ z_, d_gr r_ z_ ∧ 1000 < z_.1.1.length)) : ¬ dacc b_ n_ := by
  rintro ⟨r1_, z1_, h1_, h2_, h3_, h4_⟩
  rw [h_] at h1_
  cases h1_
  rcases hq_ with q_ | ⟨-, z_, q1_, q2_⟩
  · exact q_ h2_
  · unfold d_gr at q1_ h3_
    rw [q1_] at h3_
    cases h3_
    omega
/-! ChipFlow.design -/
def vw_213 : sx_Wl := ([(1, 3), (1, 6), (1, 8), (1, 9), (1, 13), (3, 0), (3, 1), (3, 2), (3, 3), (3, 4), (3, 5), (3, 6), (3, 7), (3, 8), (3, 9), (7, 2), (7, 3), (7, 14), (7, 16), (7, 17), (10, 1), (10, 2), (10, 3), (10, 4), (10, 5), (10, 6), (10, 7), (10, 8), (12, 10)], [26, 27, 28, 29, 30, 31, 32, 33, 42, 43, 44, 45, 46, 47, 74, 75, 76, 77, 78, 79, 80, 81, 82, 83, 84], [(1, 1), (7, 11)])
def vq_213 (b_ : Nat → Int) (n_ : Nat) (S0_ : sm_S) (u_ : Option sm_V) (S1_ : sm_S) : Prop := ∃ v_ : Int, u_ = some (.inl v_) ∧ gi S1_ ∧ ai_fr (sx_W vw_213) S0_ S1_ ∧ (∃ sl_ : Nat, sl_ < 6 ∧ S0_.1 3 sl_ 0 = 0 ∧ (∀ j_ : Nat, j_ < sl_ → S0_.1 3 j_ 0 = 1) ∧ (S1_.1 10 0 1) = 0 ∧ idf sl_ S0_ S1_ ∧ ((dacc b_ n_ ∧ S1_.1 3 sl_ 0 = 1 ∧ dOk sl_ S1_) ∨ (¬ dacc b_ n_ ∧ S1_.1 3 sl_ 0 = 0)))
end
/-! 99.zi1a -/
section
/-! the reference: rows of values; written by wip/p55/gen/vg -/

/-! the_ reference's graph as_ it_ stands -/
def rgr (F_ : Nat) (S_ : sm_S) : Prop := (S_.1 13 0 38 = (F_ : Int) ∧ (1 ≤ F_ ∧ F_ ≤ 13)) ∧ ((F_ : Int) ≤ S_.1 13 0 37 ∧ S_.1 13 0 37 ≤ F_ + 1000) ∧ ∀ n_ : Nat, F_ ≤ n_ → (n_ : Int) < S_.1 13 0 37 → 2 ≤ S_.2.2.1 140 0 n_ ∧ S_.2.2.1 140 0 n_ < S_.2.2.1 141 0 n_ ∧ S_.2.2.1 141 0 n_ < 2 * (n_ : Int)
theorem rgr_fr {w_ : sx_Wl} {F_ : Nat} {S_ S'_ : sm_S} (h_ : rgr F_ S_) (g_ : ai_fr (sx_W w_) S_ S'_) (h1_ : (sx_W w_).1 13 38 = false) (h2_ : (sx_W w_).1 13 37 = false) (h4_ : (sx_W w_).2.1 140 = false) (h5_ : (sx_W w_).2.1 141 = false) : rgr F_ S'_ := by
  unfold rgr
  rw [g_.1 13 0 38 h1_, g_.1 13 0 37 h2_, fr_arr (t := 140) g_ h4_, fr_arr (t := 141) g_ h5_]
  exact h_
theorem rgl_rgr {F_ : Nat} {G_ : pGr} {S_ : sm_S} (h_ : rgl F_ G_ S_) (hw_ : gwf F_ G_) (hl_ : G_.length ≤ 1000) : rgr F_ S_ := by
  obtain ⟨G1_, x_, y_⟩ := h_
  have e_ : G1_ = G_ := by
    rcases y_ with y_ | y_
    · exact y_.2
    · omega
  rw [e_] at x_
  obtain ⟨x1_, x2_, x3_, x4_, x5_, -, -⟩ := x_
  refine ⟨⟨x1_, x2_⟩, by rw [x3_]; push_cast; omega, fun n_ hn_ hN_ => ?_⟩
  rw [x3_] at hN_
  have l_ : n_ - F_ < G_.length := by omega
  have e_ := List.getElem?_eq_getElem l_
  have q_ := x5_ (n_ - F_) G_[n_ - F_].1 G_[n_ - F_].2 e_
  have w_ := hw_.2 (n_ - F_) G_[n_ - F_].1 G_[n_ - F_].2 e_
  rw [show F_ + (n_ - F_) = n_ by omega] at q_ w_
  rw [q_.1, q_.2]
  exact w_
theorem l3_m1 {x_ : Int} (h_ : lcn x_) : l_3 x_ (-1) = x_ := by
  unfold l_3
  rw [show Int64.ofInt (-1) = -1 from rfl, Int64.and_neg_one]
  exact h_
theorem srw_cg {F_ n_ : Nat} {mk_ : Int} {lo_ hi_ R_ Q_ : Nat → Int} (hg_ : F_ ≤ n_ → 2 ≤ lo_ n_ ∧ lo_ n_ < hi_ n_ ∧ hi_ n_ < 2 * (n_ : Int)) (h_ : srw F_ n_ 64 mk_ lo_ hi_ R_) (e_ : ∀ k_, k_ < 64 * (n_ + 1) → Q_ k_ = R_ k_) : srw F_ n_ 64 mk_ lo_ hi_ Q_ := by
  intro j_ hj_
  have q_ := h_ j_ hj_
  rw [e_ _ (by omega)]
  refine ⟨q_.1, fun a_ => ?_, q_.2.2⟩
  have g_ := hg_ a_
  rw [wlt_cg (R_ := R_) (e_ _ (by omega)), wlt_cg (R_ := R_) (e_ _ (by omega))]
  exact q_.2.1 a_
theorem lcn_c : lcn 0 ∧ lcn (-1) ∧ lcn (-6148914691236517206) ∧ lcn (-3689348814741910324) ∧ lcn (-1085102592571150096) ∧ lcn (-71777214294589696) ∧ lcn (-281470681808896) ∧ lcn (-4294967296) := by
  unfold lcn
  decide
/-! M_.function -/
def vw_351 : sx_Wl := ([], [], [])
def vq_351 (l_ : Int) (w_ : Int) (S0_ : sm_S) (u_ : Option sm_V) (S1_ : sm_S) : Prop := S0_ = S1_ ∧ ∃ v_ : Int, u_ = some (.inr (.inl v_)) ∧ (v_ = wlt (S0_.2.2.2 171 0) l_ w_.toNat)
set_option maxHeartbeats 400000 in
theorem vc_351 {sc_ : Nat × (Nat → Int)} (l_ : Int) (w_ : Int) (S0_ : sm_S) (hI_ : gi S0_) (hl_ : 0 ≤ l_ ∧ l_ ≤ 2047) (hw_ : 0 ≤ w_ ∧ w_ ≤ 63) : sm_T (mt_P sc_) 0 351 (0, [some (.inr (.inr (some (13, 0)))), some (.inl l_), some (.inl w_), none, none], [], S0_) (fun ro9_ => ∃ u_ S1_, ro9_ = (.inl u_, S1_, 0) ∧ vq_351 l_ w_ S0_ u_ S1_) := by
  have hF_ : ai_fr (sx_W vw_351) S0_ S0_ := ai_fr_rf
  refine sm_T_go 5 (c1 := (8, [some (.inr (.inr (some (13, 0)))), some (.inl l_), some (.inl w_), none, none], [.inl 1, .inl l_, .inl 64, .inr (.inr (some (171, 0)))], S0_)) rfl ?_
  refine sm_T_bin (w := (l_ / 2)) rfl (bi_shr (k := 1) (by decide) (by omega) (by omega)) ?_
  refine sm_T_bin (w := 64 * (l_ / 2)) rfl (bi_mul (by omega) (by omega) (by omega)) ?_
  refine sm_T_go 1 (c1 := (11, [some (.inr (.inr (some (13, 0)))), some (.inl l_), some (.inl w_), none, none], [.inl w_, .inl (64 * (l_ / 2)), .inr (.inr (some (171, 0)))], S0_)) rfl ?_
  refine sm_T_bin (w := 64 * (l_ / 2) + w_) rfl (bi_add (by omega) (by omega) (by omega)) ?_
  refine sm_T_lald (n := 131072) rfl rfl (by omega) (by omega) ?_
  refine sm_T_go 3 (c1 := (16, [some (.inr (.inr (some (13, 0)))), some (.inl l_), some (.inl w_), some (.inr (.inl (S0_.2.2.2 171 0 (64 * (l_ / 2) + w_).toNat))), none], [.inl 1, .inl l_], S0_)) rfl ?_
  refine sm_T_bin (w := (l_ % 2)) rfl (bi_msk (k := 1) (by decide)) ?_
  refine sm_T_go 1 (c1 := (18, [some (.inr (.inr (some (13, 0)))), some (.inl l_), some (.inl w_), some (.inr (.inl (S0_.2.2.2 171 0 (64 * (l_ / 2) + w_).toNat))), none], [.inl 1, .inl (l_ % 2)], S0_)) rfl ?_
  refine sm_T_br (a := 1) (z := 11) rfl (fun cx1_ => ?_) (fun cx1_ => ?_)
  · have cx1_ : (l_ % 2) ≠ 1 := of_decide_eq_true cx1_
    refine sm_T_go 1 (c1 := (30, [some (.inr (.inr (some (13, 0)))), some (.inl l_), some (.inl w_), some (.inr (.inl (S0_.2.2.2 171 0 (64 * (l_ / 2) + w_).toNat))), none], [.inr (.inl (S0_.2.2.2 171 0 (64 * (l_ / 2) + w_).toNat))], S0_)) rfl ?_
    refine sm_T_rl rfl ⟨_, _, rfl, rfl, _, rfl, ?_⟩
    unfold wlt
    rw [show 64 * (l_ / 2).toNat + w_.toNat = (64 * (l_ / 2) + w_).toNat by omega]
    first | rw [if_pos (by omega)] | rw [if_neg (by omega)]
  · have cx1_ : ¬ ((l_ % 2) ≠ 1) := of_decide_eq_false cx1_
    refine sm_T_go 1 (c1 := (22, [some (.inr (.inr (some (13, 0)))), some (.inl l_), some (.inl w_), some (.inr (.inl (S0_.2.2.2 171 0 (64 * (l_ / 2) + w_).toNat))), none], [.inr (.inl (S0_.2.2.2 171 0 (64 * (l_ / 2) + w_).toNat))], S0_)) rfl ?_
    refine sm_T_nt (u := some (.inr (.inl (-1)))) (S1 := S0_) rfl rfl rfl ?_
    refine sm_T_go 2 (c1 := (30, [some (.inr (.inr (some (13, 0)))), some (.inl l_), some (.inl w_), some (.inr (.inl (S0_.2.2.2 171 0 (64 * (l_ / 2) + w_).toNat))), none], [.inr (.inl (l_5 ((S0_.2.2.2 171 0 (64 * (l_ / 2) + w_).toNat)) (-1)))], S0_)) rfl ?_
    refine sm_T_rl rfl ⟨_, _, rfl, rfl, _, rfl, ?_⟩
    unfold wlt
    rw [show 64 * (l_ / 2).toNat + w_.toNat = (64 * (l_ / 2) + w_).toNat by omega]
    first | rw [if_pos (by omega)] | rw [if_neg (by omega)]
end
/-! 99.zi1b -/
section
/-! M_.base -/
def vw_350 : sx_Wl := ([], [], [])
def vq_350 (k_ : Int) (w_ : Int) (S0_ : sm_S) (u_ : Option sm_V) (S1_ : sm_S) : Prop := S0_ = S1_ ∧ ∃ v_ : Int, u_ = some (.inr (.inl v_)) ∧ (lcn v_)
set_option maxHeartbeats 400000 in
theorem vc_350 {sc_ : Nat × (Nat → Int)} (k_ : Int) (w_ : Int) (S0_ : sm_S) (hI_ : gi S0_) (hb_ : 0 ≤ k_ ∧ k_ ≤ 11) (hw_ : 0 ≤ w_ ∧ w_ ≤ 63) : sm_T (mt_P sc_) 0 350 (0, [some (.inl k_), some (.inl w_)], [], S0_) (fun ro9_ => ∃ u_ S1_, ro9_ = (.inl u_, S1_, 0) ∧ vq_350 k_ w_ S0_ u_ S1_) := by
  have hF_ : ai_fr (sx_W vw_350) S0_ S0_ := ai_fr_rf
  refine sm_T_go 1 (c1 := (1, [some (.inl k_), some (.inl w_)], [.inl k_], S0_)) rfl ?_
  by_cases cx1_ : k_ = 0
  · refine sm_T_sw (t := 40) rfl rfl (by rw [cx1_]; rfl) ?_
    refine sm_T_nt (u := some (.inr (.inl (-6148914691236517206)))) (S1 := S0_) rfl rfl rfl ?_
    refine sm_T_rl rfl ⟨_, _, rfl, rfl, _, rfl, ?_⟩
    first | exact lcn_c.1 | exact lcn_c.2.1 | exact lcn_c.2.2.1 | exact lcn_c.2.2.2.1 | exact lcn_c.2.2.2.2.1 | exact lcn_c.2.2.2.2.2.1 | exact lcn_c.2.2.2.2.2.2.1 | exact lcn_c.2.2.2.2.2.2.2
  by_cases cx2_ : k_ = 1
  · refine sm_T_sw (t := 44) rfl rfl (by rw [cx2_]; rfl) ?_
    refine sm_T_nt (u := some (.inr (.inl (-3689348814741910324)))) (S1 := S0_) rfl rfl rfl ?_
    refine sm_T_rl rfl ⟨_, _, rfl, rfl, _, rfl, ?_⟩
    first | exact lcn_c.1 | exact lcn_c.2.1 | exact lcn_c.2.2.1 | exact lcn_c.2.2.2.1 | exact lcn_c.2.2.2.2.1 | exact lcn_c.2.2.2.2.2.1 | exact lcn_c.2.2.2.2.2.2.1 | exact lcn_c.2.2.2.2.2.2.2
  by_cases cx3_ : k_ = 2
  · refine sm_T_sw (t := 48) rfl rfl (by rw [cx3_]; rfl) ?_
    refine sm_T_nt (u := some (.inr (.inl (-1085102592571150096)))) (S1 := S0_) rfl rfl rfl ?_
    refine sm_T_rl rfl ⟨_, _, rfl, rfl, _, rfl, ?_⟩
    first | exact lcn_c.1 | exact lcn_c.2.1 | exact lcn_c.2.2.1 | exact lcn_c.2.2.2.1 | exact lcn_c.2.2.2.2.1 | exact lcn_c.2.2.2.2.2.1 | exact lcn_c.2.2.2.2.2.2.1 | exact lcn_c.2.2.2.2.2.2.2
  by_cases cx4_ : k_ = 3
  · refine sm_T_sw (t := 52) rfl rfl (by rw [cx4_]; rfl) ?_
    refine sm_T_nt (u := some (.inr (.inl (-71777214294589696)))) (S1 := S0_) rfl rfl rfl ?_
    refine sm_T_rl rfl ⟨_, _, rfl, rfl, _, rfl, ?_⟩
    first | exact lcn_c.1 | exact lcn_c.2.1 | exact lcn_c.2.2.1 | exact lcn_c.2.2.2.1 | exact lcn_c.2.2.2.2.1 | exact lcn_c.2.2.2.2.2.1 | exact lcn_c.2.2.2.2.2.2.1 | exact lcn_c.2.2.2.2.2.2.2
  by_cases cx5_ : k_ = 4
  · refine sm_T_sw (t := 56) rfl rfl (by rw [cx5_]; rfl) ?_
    refine sm_T_nt (u := some (.inr (.inl (-281470681808896)))) (S1 := S0_) rfl rfl rfl ?_
    refine sm_T_rl rfl ⟨_, _, rfl, rfl, _, rfl, ?_⟩
    first | exact lcn_c.1 | exact lcn_c.2.1 | exact lcn_c.2.2.1 | exact lcn_c.2.2.2.1 | exact lcn_c.2.2.2.2.1 | exact lcn_c.2.2.2.2.2.1 | exact lcn_c.2.2.2.2.2.2.1 | exact lcn_c.2.2.2.2.2.2.2
  by_cases cx6_ : k_ = 5
  · refine sm_T_sw (t := 60) rfl rfl (by rw [cx6_]; rfl) ?_
    refine sm_T_nt (u := some (.inr (.inl (-4294967296)))) (S1 := S0_) rfl rfl rfl ?_
    refine sm_T_rl rfl ⟨_, _, rfl, rfl, _, rfl, ?_⟩
    first | exact lcn_c.1 | exact lcn_c.2.1 | exact lcn_c.2.2.1 | exact lcn_c.2.2.2.1 | exact lcn_c.2.2.2.2.1 | exact lcn_c.2.2.2.2.2.1 | exact lcn_c.2.2.2.2.2.2.1 | exact lcn_c.2.2.2.2.2.2.2
  refine sm_T_sw (t := 64) rfl rfl (by (have hh_ : k_ < 0 ∨ 6 ≤ k_ := by omega); rcases hh_ with hh_ | hh_; (exact sm_swd (Or.inl hh_)); (exact sm_swd (Or.inr (by simp only [List.length_cons, List.length_nil]; omega)))) ?_
  refine sm_T_go 3 (c1 := (68, [some (.inl k_), some (.inl w_)], [.inl 6, .inl k_, .inl w_], S0_)) rfl ?_
  refine sm_T_bin (w := k_ - 6) rfl (bi_sub (by omega) (by omega) (by omega)) ?_
  refine sm_T_bin (w := (i_shr w_ (k_ - 6))) rfl rfl ?_
  refine sm_T_go 1 (c1 := (71, [some (.inl k_), some (.inl w_)], [.inl 1, .inl (i_shr w_ (k_ - 6))], S0_)) rfl ?_
  refine sm_T_bin (w := ((i_shr w_ (k_ - 6)) % 2)) rfl (bi_msk (k := 1) (by decide)) ?_
  refine sm_T_go 1 (c1 := (73, [some (.inl k_), some (.inl w_)], [.inl 1, .inl ((i_shr w_ (k_ - 6)) % 2)], S0_)) rfl ?_
  refine sm_T_br (a := 1) (z := 9) rfl (fun cx7_ => ?_) (fun cx7_ => ?_)
  · have cx7_ : ((i_shr w_ (k_ - 6)) % 2) ≠ 1 := of_decide_eq_true cx7_
    refine sm_T_go 1 (c1 := (83, [some (.inl k_), some (.inl w_)], [.inr (.inl 0)], S0_)) rfl ?_
    refine sm_T_rl rfl ⟨_, _, rfl, rfl, _, rfl, ?_⟩
    first | exact lcn_c.1 | exact lcn_c.2.1 | exact lcn_c.2.2.1 | exact lcn_c.2.2.2.1 | exact lcn_c.2.2.2.2.1 | exact lcn_c.2.2.2.2.2.1 | exact lcn_c.2.2.2.2.2.2.1 | exact lcn_c.2.2.2.2.2.2.2
  · have cx7_ : ¬ (((i_shr w_ (k_ - 6)) % 2) ≠ 1) := of_decide_eq_false cx7_
    refine sm_T_nt (u := some (.inr (.inl (-1)))) (S1 := S0_) rfl rfl rfl ?_
    refine sm_T_go 1 (c1 := (83, [some (.inl k_), some (.inl w_)], [.inr (.inl (-1))], S0_)) rfl ?_
    refine sm_T_rl rfl ⟨_, _, rfl, rfl, _, rfl, ?_⟩
    first | exact lcn_c.1 | exact lcn_c.2.1 | exact lcn_c.2.2.1 | exact lcn_c.2.2.2.1 | exact lcn_c.2.2.2.2.1 | exact lcn_c.2.2.2.2.2.1 | exact lcn_c.2.2.2.2.2.2.1 | exact lcn_c.2.2.2.2.2.2.2
end
/-! 99.zi2a -/
section
/-! the reference: the sweep; written by wip/p55/gen/vg -/

/-! the_ reference's sweep -/
/-- how_ far_ two_ rows are_ the_ same -/
def alk (R_ : Nat → Int) (a_ b_ : Nat) (t_ f_ w_ : Int) : Prop := (f_ = 0 ∨ f_ = 1) ∧ imq (f_ = 1) (∀ j_, j_ < w_.toNat → R_ (64 * a_ + j_) = l_5 (R_ (64 * b_ + j_)) t_) ∧ imq (f_ = 0) (∃ j_, j_ < 64 ∧ R_ (64 * a_ + j_) ≠ l_5 (R_ (64 * b_ + j_)) t_)
theorem alk_0 {R_ : Nat → Int} {a_ b_ : Nat} {t_ : Int} : alk R_ a_ b_ t_ 1 0 := ⟨Or.inr rfl, fun _ j_ hj_ => absurd hj_ (Nat.not_lt_zero _), fun h_ => absurd h_ (by decide)⟩
theorem alk_y {R_ : Nat → Int} {a_ b_ : Nat} {t_ w_ : Int} (h_ : alk R_ a_ b_ t_ 1 w_) (hw_ : 0 ≤ w_) (e_ : R_ (64 * a_ + w_.toNat) = l_5 (R_ (64 * b_ + w_.toNat)) t_) : alk R_ a_ b_ t_ 1 (w_ + 1) := by
  refine ⟨Or.inr rfl, fun _ j_ hj_ => ?_, fun h_ => absurd h_ (by decide)⟩
  by_cases z_ : j_ < w_.toNat
  · exact h_.2.1 rfl j_ z_
  · rw [show j_ = w_.toNat by omega]; exact e_
theorem alk_n {R_ : Nat → Int} {a_ b_ : Nat} {t_ w_ w'_ : Int} (hw_ : 0 ≤ w_ ∧ w_ < 64) (e_ : R_ (64 * a_ + w_.toNat) ≠ l_5 (R_ (64 * b_ + w_.toNat)) t_) : alk R_ a_ b_ t_ 0 w'_ := ⟨Or.inl rfl, fun h_ => absurd h_ (by decide), fun _ => ⟨w_.toNat, by omega, e_⟩⟩
theorem alk_z {R_ : Nat → Int} {a_ b_ : Nat} {t_ w_ w'_ : Int} (h_ : alk R_ a_ b_ t_ 0 w_) : alk R_ a_ b_ t_ 0 w'_ := ⟨Or.inl rfl, fun h_ => absurd h_ (by decide), h_.2.2⟩
theorem alk_l {R_ : Nat → Int} {a_ b_ : Nat} {t_ w_ : Int} (h_ : alk R_ a_ b_ t_ 1 w_) (hw_ : 64 ≤ w_) : lik 64 R_ a_ b_ t_ := fun j_ hj_ => h_.2.1 rfl j_ (by omega)
theorem alk_x {R_ : Nat → Int} {a_ b_ : Nat} {t_ w_ : Int} (h_ : alk R_ a_ b_ t_ 0 w_) : ¬ lik 64 R_ a_ b_ t_ := fun q_ => by
  obtain ⟨j_, h1_, h2_⟩ := h_.2.2 rfl
  exact h2_ (q_ j_ h1_)
theorem lik_sy {W_ a_ b_ : Nat} {t_ : Int} {R_ : Nat → Int} (hb_ : ∀ w_, w_ < W_ → lcn (R_ (64 * b_ + w_))) (h_ : lik W_ R_ a_ b_ t_) : lik W_ R_ b_ a_ t_ := fun w_ hw_ => by
  rw [h_ w_ hw_, l5_5 (hb_ w_ hw_)]
theorem sw1_sf {F_ W_ n_ N_ : Nat} {mk_ : Int} {lo_ hi_ sf_ sg_ R_ : Nat → Int} (hg_ : glo F_ N_ lo_ hi_) (hN_ : n_ ≤ N_) (h_ : sw1 F_ W_ n_ mk_ lo_ hi_ sf_ R_) (e_ : ∀ k_, k_ < n_ → sg_ k_ = sf_ k_) : sw1 F_ W_ n_ mk_ lo_ hi_ sg_ R_ := fun m_ hm_ => by
  obtain ⟨q1_, q2_, t_, q3_, q4_⟩ := h_ m_ hm_
  refine ⟨sfo_cg (fun a_ => hg_ m_ a_ (by omega)) hm_ q1_ e_, q2_, t_, q3_, ?_⟩
  rw [e_ m_ hm_]
  exact q4_
theorem sPn_sf {sf_ sg_ : Nat → Int} {n_ m_ : Nat} (e_ : ∀ k_, k_ < n_ → sg_ k_ = sf_ k_) : sPn sg_ n_ m_ ↔ sPn sf_ n_ m_ := by
  unfold sPn
  constructor
  · rintro ⟨h1_, h2_⟩; exact ⟨h1_, by rw [← e_ m_ h1_]; exact h2_⟩
  · rintro ⟨h1_, h2_⟩; exact ⟨h1_, by rw [e_ m_ h1_]; exact h2_⟩
/-- the_ search for_ a_ row_ that is_ like the_ row_ of_ n_: how_ far_ it_ is_, what it_ found -/
def rfn (n_ m_ : Nat) (sf_ R_ : Nat → Int) (f_ : Int) : Prop := (f_ = 0 ∧ sf_ n_ = 2 * (n_ : Int) ∧ ∀ p_, p_ < m_ → sPn sf_ n_ p_ → ∀ t_, tmk (-1) t_ → ¬ lik 64 R_ n_ p_ t_) ∨ (f_ = 1 ∧ ∃ p_ t_, sPn sf_ n_ p_ ∧ tmk (-1) t_ ∧ lik 64 R_ n_ p_ t_ ∧ sf_ n_ = 2 * (p_ : Int) + (if t_ = 0 then 0 else 1))
theorem rfn_b {n_ m_ : Nat} {sf_ R_ : Nat → Int} {f_ : Int} (h_ : rfn n_ m_ sf_ R_ f_) : 0 ≤ sf_ n_ ∧ sf_ n_ ≤ 2 * (n_ : Int) + 1 := by
  rcases h_ with ⟨-, h_, -⟩ | ⟨-, p_, t_, h1_, -, -, h4_⟩
  · omega
  · have := h1_.1
    rw [h4_]
    split <;> omega
theorem sw_rf {F_ n_ N_ : Nat} {lo_ hi_ sf_ R_ : Nat → Int} (hg_ : glo F_ N_ lo_ hi_) (hF_ : 1 ≤ F_) (hN_ : n_ < N_) (h_ : sw1 F_ 64 n_ (-1) lo_ hi_ sf_ R_) (hz_ : 0 < n_ → sf_ 0 = 0) (hr_ : ∀ m_, m_ ≤ n_ → srw F_ m_ 64 (-1) lo_ hi_ R_) {f_ : Int} (hf_ : rfn n_ n_ sf_ R_ f_) : sw1 F_ 64 (n_ + 1) (-1) lo_ hi_ sf_ R_ := by
  have rk_ : rok 64 (-1) R_ n_ := fun w_ hw_ => (hr_ n_ (Nat.le_refl _) w_ hw_).1
  rcases hf_ with ⟨-, h1_, h2_⟩ | ⟨-, p_, t_, h1_, h2_, h3_, h4_⟩
  · exact sw_nw (N_ := N_) hg_ hF_ hN_ (by decide) lcn_c.2.1 h_ (fun z_ w_ hw_ => by
      have q_ := (hr_ 0 (by omega) w_ hw_).2.2 rfl
      rw [Nat.mul_zero, Nat.zero_add] at q_
      exact q_) rk_ (fun a_ w_ hw_ => (hr_ n_ (Nat.le_refl _) w_ hw_).2.1 a_) (fun p_ hp_ => h2_ p_ hp_.1 hp_) (fun k_ => by
      by_cases z_ : k_ = n_
      · rw [if_pos z_, z_]; exact h1_
      · rw [if_neg z_]) hz_
  · exact sw_fd (N_ := N_) hg_ hN_ h_ rk_ h1_ h2_ h3_ h4_ (fun k_ => by
      by_cases z_ : k_ = n_
      · rw [if_pos z_, z_]
      · rw [if_neg z_])
/-! M_.alike -/
def vw_353 : sx_Wl := ([], [], [])
def vq_353 (a_ : Int) (b_ : Int) (aa_ : Nat) (bb_ : Nat) (S0_ : sm_S) (u_ : Option sm_V) (S1_ : sm_S) : Prop := S0_ = S1_ ∧ ∃ v_ : Int, u_ = some (.inl v_) ∧ ((v_ = 0 ∧ lik 64 (S0_.2.2.2 171 0) aa_ bb_ 0) ∨ (v_ = 1 ∧ lik 64 (S0_.2.2.2 171 0) aa_ bb_ (-1)) ∨ (v_ = 2 ∧ ¬ lik 64 (S0_.2.2.2 171 0) aa_ bb_ 0 ∧ ¬ lik 64 (S0_.2.2.2 171 0) aa_ bb_ (-1)))
set_option maxHeartbeats 3000000 in
theorem vl_353 {sc_ : Nat × (Nat → Int)} (a_ : Int) (b_ : Int) (aa_ : Nat) (bb_ : Nat) (S0_ : sm_S) (ha_ : a_ = (aa_ : Int) ∧ aa_ ≤ 1012) (hb_ : b_ = (bb_ : Int) ∧ bb_ ≤ 1012) (hrb_ : rok 64 (-1) (S0_.2.2.2 171 0) bb_) : ∀ nn_ : Nat, (∀ (sa_ : Int) (tu_ : Int) (w_ : Int) (S_ : sm_S), gi S_ → ai_fr (sx_W vw_353) S0_ S_ → ((0 ≤ w_ ∧ w_ ≤ 64) ∧ (alk (S0_.2.2.2 171 0) aa_ bb_ 0 sa_ w_) ∧ (alk (S0_.2.2.2 171 0) aa_ bb_ (-1) tu_ w_) ∧ (S_ = S0_) ∧ True) → ((65 - w_).toNat) < nn_ → sm_T (mt_P sc_) 0 353 (8, [some (.inr (.inr (some (13, 0)))), some (.inl a_), some (.inl b_), some (.inl sa_), some (.inl tu_), some (.inl w_)], [], S_) (fun ro9_ => ∃ u_ S1_, ro9_ = (.inl u_, S1_, 0) ∧ vq_353 a_ b_ aa_ bb_ S0_ u_ S1_)) := by
  intro nn_
  induction nn_ with
  | zero => exact fun _ _ _ _ _ _ _ h_ => absurd h_ (Nat.not_lt_zero _)
  | succ nn_ ih_ =>
    rintro sa_ tu_ w_ S_ hI_ hF_ ⟨h0_, h1_, h2_, hS_, -⟩ hm_
    have s01_ := h1_.1
    have t01_ := h2_.1
    refine sm_T_go 2 (c1 := (12, [some (.inr (.inr (some (13, 0)))), some (.inl a_), some (.inl b_), some (.inl sa_), some (.inl tu_), some (.inl w_)], [.inl 64, .inl w_], S_)) rfl ?_
    refine sm_T_br (a := 3) (z := 100) rfl (fun cx1_ => ?_) (fun cx1_ => ?_)
    · have cx1_ : 64 ≤ w_ := of_decide_eq_true cx1_
      refine sm_T_go 1 (c1 := (113, [some (.inr (.inr (some (13, 0)))), some (.inl a_), some (.inl b_), some (.inl sa_), some (.inl tu_), some (.inl w_)], [.inl sa_], S_)) rfl ?_
      refine sm_T_b0 (a := 0) (z := 7) rfl (fun cx2_ => ?_) (fun cx2_ => ?_)
      · have cx2_ : sa_ = 0 := of_decide_eq_true cx2_
        refine sm_T_go 1 (c1 := (122, [some (.inr (.inr (some (13, 0)))), some (.inl a_), some (.inl b_), some (.inl sa_), some (.inl tu_), some (.inl w_)], [.inl tu_], S_)) rfl ?_
        refine sm_T_b0 (a := 0) (z := 7) rfl (fun cx3_ => ?_) (fun cx3_ => ?_)
        · have cx3_ : tu_ = 0 := of_decide_eq_true cx3_
          refine sm_T_go 1 (c1 := (130, [some (.inr (.inr (some (13, 0)))), some (.inl a_), some (.inl b_), some (.inl sa_), some (.inl tu_), some (.inl w_)], [.inl 2], S_)) rfl ?_
          refine sm_T_ri rfl ⟨_, _, rfl, (by first | rfl | exact hS_.symm), _, rfl, ?_⟩
          first | (have s1_ : sa_ = 1 := (by omega); rw [s1_] at h1_; exact Or.inl ⟨rfl, alk_l h1_ (by omega)⟩) | (have t1_ : tu_ = 1 := (by omega); rw [t1_] at h2_; exact Or.inr (Or.inl ⟨rfl, alk_l h2_ (by omega)⟩)) | (have s0_ : sa_ = 0 := (by omega); have t0_ : tu_ = 0 := (by omega); rw [s0_] at h1_; rw [t0_] at h2_; exact Or.inr (Or.inr ⟨rfl, alk_x h1_, alk_x h2_⟩))
        · have cx3_ : ¬ (tu_ = 0) := of_decide_eq_false cx3_
          refine sm_T_go 2 (c1 := (130, [some (.inr (.inr (some (13, 0)))), some (.inl a_), some (.inl b_), some (.inl sa_), some (.inl tu_), some (.inl w_)], [.inl 1], S_)) rfl ?_
          refine sm_T_ri rfl ⟨_, _, rfl, (by first | rfl | exact hS_.symm), _, rfl, ?_⟩
          first | (have s1_ : sa_ = 1 := (by omega); rw [s1_] at h1_; exact Or.inl ⟨rfl, alk_l h1_ (by omega)⟩) | (have t1_ : tu_ = 1 := (by omega); rw [t1_] at h2_; exact Or.inr (Or.inl ⟨rfl, alk_l h2_ (by omega)⟩)) | (have s0_ : sa_ = 0 := (by omega); have t0_ : tu_ = 0 := (by omega); rw [s0_] at h1_; rw [t0_] at h2_; exact Or.inr (Or.inr ⟨rfl, alk_x h1_, alk_x h2_⟩))
      · have cx2_ : ¬ (sa_ = 0) := of_decide_eq_false cx2_
        refine sm_T_go 2 (c1 := (130, [some (.inr (.inr (some (13, 0)))), some (.inl a_), some (.inl b_), some (.inl sa_), some (.inl tu_), some (.inl w_)], [.inl 0], S_)) rfl ?_
        refine sm_T_ri rfl ⟨_, _, rfl, (by first | rfl | exact hS_.symm), _, rfl, ?_⟩
        first | (have s1_ : sa_ = 1 := (by omega); rw [s1_] at h1_; exact Or.inl ⟨rfl, alk_l h1_ (by omega)⟩) | (have t1_ : tu_ = 1 := (by omega); rw [t1_] at h2_; exact Or.inr (Or.inl ⟨rfl, alk_l h2_ (by omega)⟩)) | (have s0_ : sa_ = 0 := (by omega); have t0_ : tu_ = 0 := (by omega); rw [s0_] at h1_; rw [t0_] at h2_; exact Or.inr (Or.inr ⟨rfl, alk_x h1_, alk_x h2_⟩))
    · have cx1_ : ¬ (64 ≤ w_) := of_decide_eq_false cx1_
      refine sm_T_go 1 (c1 := (16, [some (.inr (.inr (some (13, 0)))), some (.inl a_), some (.inl b_), some (.inl sa_), some (.inl tu_), some (.inl w_)], [.inl sa_], S_)) rfl ?_
      refine sm_T_b0 (a := 1) (z := 8) rfl (fun cx4_ => ?_) (fun cx4_ => ?_)
      · have cx4_ : sa_ ≠ 0 := of_decide_eq_true cx4_
        refine sm_T_go 1 (c1 := (25, [some (.inr (.inr (some (13, 0)))), some (.inl a_), some (.inl b_), some (.inl sa_), some (.inl tu_), some (.inl w_)], [.inl sa_], S_)) rfl ?_
        refine sm_T_b0 (a := 0) (z := 35) rfl (fun cx5_ => ?_) (fun cx5_ => ?_)
        · have cx5_ : sa_ = 0 := of_decide_eq_true cx5_
          refine sm_T_go 3 (c1 := (64, [some (.inr (.inr (some (13, 0)))), some (.inl a_), some (.inl b_), some (.inl 0), some (.inl tu_), some (.inl w_)], [.inl tu_], S_)) rfl ?_
          refine sm_T_b0 (a := 0) (z := 39) rfl (fun cx6_ => ?_) (fun cx6_ => ?_)
          · have cx6_ : tu_ = 0 := of_decide_eq_true cx6_
            refine sm_T_go 2 (c1 := (106, [some (.inr (.inr (some (13, 0)))), some (.inl a_), some (.inl b_), some (.inl 0), some (.inl 0), some (.inl w_)], [], S_)) rfl ?_
            refine sm_T_inc (a := 5) (z := 1) (v := w_) (w := w_ + 1) rfl rfl (by omega) (by omega) (by omega) ?_
            refine sm_T_go 1 (c1 := (8, [some (.inr (.inr (some (13, 0)))), some (.inl a_), some (.inl b_), some (.inl 0), some (.inl 0), some (.inl (w_ + 1))], [], S_)) rfl ?_
            refine ih_ 0 0 (w_ + 1) S_ hI_ hF_ ⟨?_, ?_, ?_, ?_, trivial⟩ ?_
            · omega
            · have i1_ : (64 * a_ + w_).toNat = 64 * aa_ + w_.toNat := by omega
              have i2_ : (64 * b_ + w_).toNat = 64 * bb_ + w_.toNat := by omega
              have cb_ := rok_c hrb_ w_.toNat (by omega)
              by_cases E9_ : S0_.2.2.2 171 0 (64 * aa_ + w_.toNat) = S0_.2.2.2 171 0 (64 * bb_ + w_.toNat)
              · have E8_ : sm_lcmp (S_.2.2.2 171 0 (64 * a_ + w_).toNat) (S_.2.2.2 171 0 (64 * b_ + w_).toNat) = 0 := by rw [hS_, i1_, i2_]; exact lc_0.mpr E9_
                first | (have s1_ : sa_ = 1 := (by omega); rw [s1_] at h1_; exact alk_y h1_ (by omega) (by rw [l5_0 cb_]; exact E9_)) | (have s0_ : sa_ = 0 := (by omega); rw [s0_] at h1_; exact alk_z h1_) | (exfalso; omega)
              · have E8_ : sm_lcmp (S_.2.2.2 171 0 (64 * a_ + w_).toNat) (S_.2.2.2 171 0 (64 * b_ + w_).toNat) ≠ 0 := by rw [hS_, i1_, i2_]; exact fun q9_ => E9_ (lc_0.mp q9_)
                first | exact alk_n (w_ := w_) (by omega) (by rw [l5_0 cb_]; exact E9_) | (exfalso; omega)
            · have i1_ : (64 * a_ + w_).toNat = 64 * aa_ + w_.toNat := by omega
              have i2_ : (64 * b_ + w_).toNat = 64 * bb_ + w_.toNat := by omega
              by_cases E9_ : S0_.2.2.2 171 0 (64 * aa_ + w_.toNat) = l_5 (S0_.2.2.2 171 0 (64 * bb_ + w_.toNat)) (-1)
              · have E8_ : sm_lcmp (S_.2.2.2 171 0 (64 * a_ + w_).toNat) (l_5 (S_.2.2.2 171 0 (64 * b_ + w_).toNat) (-1)) = 0 := by rw [hS_, i1_, i2_]; exact lc_0.mpr E9_
                first | (have s1_ : tu_ = 1 := (by omega); rw [s1_] at h2_; exact alk_y h2_ (by omega) E9_) | (have s0_ : tu_ = 0 := (by omega); rw [s0_] at h2_; exact alk_z h2_) | (exfalso; omega)
              · have E8_ : sm_lcmp (S_.2.2.2 171 0 (64 * a_ + w_).toNat) (l_5 (S_.2.2.2 171 0 (64 * b_ + w_).toNat) (-1)) ≠ 0 := by rw [hS_, i1_, i2_]; exact fun q9_ => E9_ (lc_0.mp q9_)
                first | exact alk_n (w_ := w_) (by omega) E9_ | (exfalso; omega)
            · first | rfl | exact hS_
            · omega
          · have cx6_ : ¬ (tu_ = 0) := of_decide_eq_false cx6_
            refine sm_T_go 4 (c1 := (74, [some (.inr (.inr (some (13, 0)))), some (.inl a_), some (.inl b_), some (.inl 0), some (.inl tu_), some (.inl w_)], [.inl a_, .inl 64, .inr (.inr (some (171, 0)))], S_)) rfl ?_
            refine sm_T_bin (w := 64 * a_) rfl (bi_mul (by omega) (by omega) (by omega)) ?_
            refine sm_T_go 1 (c1 := (77, [some (.inr (.inr (some (13, 0)))), some (.inl a_), some (.inl b_), some (.inl 0), some (.inl tu_), some (.inl w_)], [.inl w_, .inl (64 * a_), .inr (.inr (some (171, 0)))], S_)) rfl ?_
            refine sm_T_bin (w := 64 * a_ + w_) rfl (bi_add (by omega) (by omega) (by omega)) ?_
            refine sm_T_lald (n := 131072) rfl rfl (by omega) (by omega) ?_
            refine sm_T_go 4 (c1 := (86, [some (.inr (.inr (some (13, 0)))), some (.inl a_), some (.inl b_), some (.inl 0), some (.inl tu_), some (.inl w_)], [.inl b_, .inl 64, .inr (.inr (some (171, 0))), .inr (.inl (S_.2.2.2 171 0 (64 * a_ + w_).toNat))], S_)) rfl ?_
            refine sm_T_bin (w := 64 * b_) rfl (bi_mul (by omega) (by omega) (by omega)) ?_
            refine sm_T_go 1 (c1 := (89, [some (.inr (.inr (some (13, 0)))), some (.inl a_), some (.inl b_), some (.inl 0), some (.inl tu_), some (.inl w_)], [.inl w_, .inl (64 * b_), .inr (.inr (some (171, 0))), .inr (.inl (S_.2.2.2 171 0 (64 * a_ + w_).toNat))], S_)) rfl ?_
            refine sm_T_bin (w := 64 * b_ + w_) rfl (bi_add (by omega) (by omega) (by omega)) ?_
            refine sm_T_lald (n := 131072) rfl rfl (by omega) (by omega) ?_
            refine sm_T_nt (u := some (.inr (.inl (-1)))) (S1 := S_) rfl rfl rfl ?_
            refine sm_T_go 2 (c1 := (96, [some (.inr (.inr (some (13, 0)))), some (.inl a_), some (.inl b_), some (.inl 0), some (.inl tu_), some (.inl w_)], [.inl (sm_lcmp ((S_.2.2.2 171 0 (64 * a_ + w_).toNat)) ((l_5 ((S_.2.2.2 171 0 (64 * b_ + w_).toNat)) (-1))))], S_)) rfl ?_
            refine sm_T_b0 (a := 1) (z := 7) rfl (fun cx7_ => ?_) (fun cx7_ => ?_)
            · have cx7_ : (sm_lcmp ((S_.2.2.2 171 0 (64 * a_ + w_).toNat)) ((l_5 ((S_.2.2.2 171 0 (64 * b_ + w_).toNat)) (-1)))) ≠ 0 := of_decide_eq_true cx7_
              refine sm_T_go 2 (c1 := (106, [some (.inr (.inr (some (13, 0)))), some (.inl a_), some (.inl b_), some (.inl 0), some (.inl 0), some (.inl w_)], [], S_)) rfl ?_
              refine sm_T_inc (a := 5) (z := 1) (v := w_) (w := w_ + 1) rfl rfl (by omega) (by omega) (by omega) ?_
              refine sm_T_go 1 (c1 := (8, [some (.inr (.inr (some (13, 0)))), some (.inl a_), some (.inl b_), some (.inl 0), some (.inl 0), some (.inl (w_ + 1))], [], S_)) rfl ?_
              refine ih_ 0 0 (w_ + 1) S_ hI_ hF_ ⟨?_, ?_, ?_, ?_, trivial⟩ ?_
              · omega
              · have i1_ : (64 * a_ + w_).toNat = 64 * aa_ + w_.toNat := by omega
                have i2_ : (64 * b_ + w_).toNat = 64 * bb_ + w_.toNat := by omega
                have cb_ := rok_c hrb_ w_.toNat (by omega)
                by_cases E9_ : S0_.2.2.2 171 0 (64 * aa_ + w_.toNat) = S0_.2.2.2 171 0 (64 * bb_ + w_.toNat)
                · have E8_ : sm_lcmp (S_.2.2.2 171 0 (64 * a_ + w_).toNat) (S_.2.2.2 171 0 (64 * b_ + w_).toNat) = 0 := by rw [hS_, i1_, i2_]; exact lc_0.mpr E9_
                  first | (have s1_ : sa_ = 1 := (by omega); rw [s1_] at h1_; exact alk_y h1_ (by omega) (by rw [l5_0 cb_]; exact E9_)) | (have s0_ : sa_ = 0 := (by omega); rw [s0_] at h1_; exact alk_z h1_) | (exfalso; omega)
                · have E8_ : sm_lcmp (S_.2.2.2 171 0 (64 * a_ + w_).toNat) (S_.2.2.2 171 0 (64 * b_ + w_).toNat) ≠ 0 := by rw [hS_, i1_, i2_]; exact fun q9_ => E9_ (lc_0.mp q9_)
                  first | exact alk_n (w_ := w_) (by omega) (by rw [l5_0 cb_]; exact E9_) | (exfalso; omega)
              · have i1_ : (64 * a_ + w_).toNat = 64 * aa_ + w_.toNat := by omega
                have i2_ : (64 * b_ + w_).toNat = 64 * bb_ + w_.toNat := by omega
                by_cases E9_ : S0_.2.2.2 171 0 (64 * aa_ + w_.toNat) = l_5 (S0_.2.2.2 171 0 (64 * bb_ + w_.toNat)) (-1)
                · have E8_ : sm_lcmp (S_.2.2.2 171 0 (64 * a_ + w_).toNat) (l_5 (S_.2.2.2 171 0 (64 * b_ + w_).toNat) (-1)) = 0 := by rw [hS_, i1_, i2_]; exact lc_0.mpr E9_
                  first | (have s1_ : tu_ = 1 := (by omega); rw [s1_] at h2_; exact alk_y h2_ (by omega) E9_) | (have s0_ : tu_ = 0 := (by omega); rw [s0_] at h2_; exact alk_z h2_) | (exfalso; omega)
                · have E8_ : sm_lcmp (S_.2.2.2 171 0 (64 * a_ + w_).toNat) (l_5 (S_.2.2.2 171 0 (64 * b_ + w_).toNat) (-1)) ≠ 0 := by rw [hS_, i1_, i2_]; exact fun q9_ => E9_ (lc_0.mp q9_)
                  first | exact alk_n (w_ := w_) (by omega) E9_ | (exfalso; omega)
              · first | rfl | exact hS_
              · omega
            · have cx7_ : ¬ ((sm_lcmp ((S_.2.2.2 171 0 (64 * a_ + w_).toNat)) ((l_5 ((S_.2.2.2 171 0 (64 * b_ + w_).toNat)) (-1)))) ≠ 0) := of_decide_eq_false cx7_
              refine sm_T_go 3 (c1 := (106, [some (.inr (.inr (some (13, 0)))), some (.inl a_), some (.inl b_), some (.inl 0), some (.inl 1), some (.inl w_)], [], S_)) rfl ?_
              refine sm_T_inc (a := 5) (z := 1) (v := w_) (w := w_ + 1) rfl rfl (by omega) (by omega) (by omega) ?_
              refine sm_T_go 1 (c1 := (8, [some (.inr (.inr (some (13, 0)))), some (.inl a_), some (.inl b_), some (.inl 0), some (.inl 1), some (.inl (w_ + 1))], [], S_)) rfl ?_
              refine ih_ 0 1 (w_ + 1) S_ hI_ hF_ ⟨?_, ?_, ?_, ?_, trivial⟩ ?_
              · omega
              · have i1_ : (64 * a_ + w_).toNat = 64 * aa_ + w_.toNat := by omega
                have i2_ : (64 * b_ + w_).toNat = 64 * bb_ + w_.toNat := by omega
                have cb_ := rok_c hrb_ w_.toNat (by omega)
                by_cases E9_ : S0_.2.2.2 171 0 (64 * aa_ + w_.toNat) = S0_.2.2.2 171 0 (64 * bb_ + w_.toNat)
                · have E8_ : sm_lcmp (S_.2.2.2 171 0 (64 * a_ + w_).toNat) (S_.2.2.2 171 0 (64 * b_ + w_).toNat) = 0 := by rw [hS_, i1_, i2_]; exact lc_0.mpr E9_
                  first | (have s1_ : sa_ = 1 := (by omega); rw [s1_] at h1_; exact alk_y h1_ (by omega) (by rw [l5_0 cb_]; exact E9_)) | (have s0_ : sa_ = 0 := (by omega); rw [s0_] at h1_; exact alk_z h1_) | (exfalso; omega)
                · have E8_ : sm_lcmp (S_.2.2.2 171 0 (64 * a_ + w_).toNat) (S_.2.2.2 171 0 (64 * b_ + w_).toNat) ≠ 0 := by rw [hS_, i1_, i2_]; exact fun q9_ => E9_ (lc_0.mp q9_)
                  first | exact alk_n (w_ := w_) (by omega) (by rw [l5_0 cb_]; exact E9_) | (exfalso; omega)
              · have i1_ : (64 * a_ + w_).toNat = 64 * aa_ + w_.toNat := by omega
                have i2_ : (64 * b_ + w_).toNat = 64 * bb_ + w_.toNat := by omega
                by_cases E9_ : S0_.2.2.2 171 0 (64 * aa_ + w_.toNat) = l_5 (S0_.2.2.2 171 0 (64 * bb_ + w_.toNat)) (-1)
                · have E8_ : sm_lcmp (S_.2.2.2 171 0 (64 * a_ + w_).toNat) (l_5 (S_.2.2.2 171 0 (64 * b_ + w_).toNat) (-1)) = 0 := by rw [hS_, i1_, i2_]; exact lc_0.mpr E9_
                  first | (have s1_ : tu_ = 1 := (by omega); rw [s1_] at h2_; exact alk_y h2_ (by omega) E9_) | (have s0_ : tu_ = 0 := (by omega); rw [s0_] at h2_; exact alk_z h2_) | (exfalso; omega)
                · have E8_ : sm_lcmp (S_.2.2.2 171 0 (64 * a_ + w_).toNat) (l_5 (S_.2.2.2 171 0 (64 * b_ + w_).toNat) (-1)) ≠ 0 := by rw [hS_, i1_, i2_]; exact fun q9_ => E9_ (lc_0.mp q9_)
                  first | exact alk_n (w_ := w_) (by omega) E9_ | (exfalso; omega)
              · first | rfl | exact hS_
              · omega
        · have cx5_ : ¬ (sa_ = 0) := of_decide_eq_false cx5_
          refine sm_T_go 4 (c1 := (35, [some (.inr (.inr (some (13, 0)))), some (.inl a_), some (.inl b_), some (.inl sa_), some (.inl tu_), some (.inl w_)], [.inl a_, .inl 64, .inr (.inr (some (171, 0)))], S_)) rfl ?_
          refine sm_T_bin (w := 64 * a_) rfl (bi_mul (by omega) (by omega) (by omega)) ?_
          refine sm_T_go 1 (c1 := (38, [some (.inr (.inr (some (13, 0)))), some (.inl a_), some (.inl b_), some (.inl sa_), some (.inl tu_), some (.inl w_)], [.inl w_, .inl (64 * a_), .inr (.inr (some (171, 0)))], S_)) rfl ?_
          refine sm_T_bin (w := 64 * a_ + w_) rfl (bi_add (by omega) (by omega) (by omega)) ?_
          refine sm_T_lald (n := 131072) rfl rfl (by omega) (by omega) ?_
          refine sm_T_go 4 (c1 := (47, [some (.inr (.inr (some (13, 0)))), some (.inl a_), some (.inl b_), some (.inl sa_), some (.inl tu_), some (.inl w_)], [.inl b_, .inl 64, .inr (.inr (some (171, 0))), .inr (.inl (S_.2.2.2 171 0 (64 * a_ + w_).toNat))], S_)) rfl ?_
          refine sm_T_bin (w := 64 * b_) rfl (bi_mul (by omega) (by omega) (by omega)) ?_
          refine sm_T_go 1 (c1 := (50, [some (.inr (.inr (some (13, 0)))), some (.inl a_), some (.inl b_), some (.inl sa_), some (.inl tu_), some (.inl w_)], [.inl w_, .inl (64 * b_), .inr (.inr (some (171, 0))), .inr (.inl (S_.2.2.2 171 0 (64 * a_ + w_).toNat))], S_)) rfl ?_
          refine sm_T_bin (w := 64 * b_ + w_) rfl (bi_add (by omega) (by omega) (by omega)) ?_
          refine sm_T_lald (n := 131072) rfl rfl (by omega) (by omega) ?_
          refine sm_T_go 1 (c1 := (53, [some (.inr (.inr (some (13, 0)))), some (.inl a_), some (.inl b_), some (.inl sa_), some (.inl tu_), some (.inl w_)], [.inl (sm_lcmp ((S_.2.2.2 171 0 (64 * a_ + w_).toNat)) ((S_.2.2.2 171 0 (64 * b_ + w_).toNat)))], S_)) rfl ?_
          refine sm_T_b0 (a := 1) (z := 7) rfl (fun cx8_ => ?_) (fun cx8_ => ?_)
          · have cx8_ : (sm_lcmp ((S_.2.2.2 171 0 (64 * a_ + w_).toNat)) ((S_.2.2.2 171 0 (64 * b_ + w_).toNat))) ≠ 0 := of_decide_eq_true cx8_
            refine sm_T_go 3 (c1 := (64, [some (.inr (.inr (some (13, 0)))), some (.inl a_), some (.inl b_), some (.inl 0), some (.inl tu_), some (.inl w_)], [.inl tu_], S_)) rfl ?_
            refine sm_T_b0 (a := 0) (z := 39) rfl (fun cx9_ => ?_) (fun cx9_ => ?_)
            · have cx9_ : tu_ = 0 := of_decide_eq_true cx9_
              refine sm_T_go 2 (c1 := (106, [some (.inr (.inr (some (13, 0)))), some (.inl a_), some (.inl b_), some (.inl 0), some (.inl 0), some (.inl w_)], [], S_)) rfl ?_
              refine sm_T_inc (a := 5) (z := 1) (v := w_) (w := w_ + 1) rfl rfl (by omega) (by omega) (by omega) ?_
              refine sm_T_go 1 (c1 := (8, [some (.inr (.inr (some (13, 0)))), some (.inl a_), some (.inl b_), some (.inl 0), some (.inl 0), some (.inl (w_ + 1))], [], S_)) rfl ?_
              refine ih_ 0 0 (w_ + 1) S_ hI_ hF_ ⟨?_, ?_, ?_, ?_, trivial⟩ ?_
              · omega
              · have i1_ : (64 * a_ + w_).toNat = 64 * aa_ + w_.toNat := by omega
                have i2_ : (64 * b_ + w_).toNat = 64 * bb_ + w_.toNat := by omega
                have cb_ := rok_c hrb_ w_.toNat (by omega)
                by_cases E9_ : S0_.2.2.2 171 0 (64 * aa_ + w_.toNat) = S0_.2.2.2 171 0 (64 * bb_ + w_.toNat)
                · have E8_ : sm_lcmp (S_.2.2.2 171 0 (64 * a_ + w_).toNat) (S_.2.2.2 171 0 (64 * b_ + w_).toNat) = 0 := by rw [hS_, i1_, i2_]; exact lc_0.mpr E9_
                  first | (have s1_ : sa_ = 1 := (by omega); rw [s1_] at h1_; exact alk_y h1_ (by omega) (by rw [l5_0 cb_]; exact E9_)) | (have s0_ : sa_ = 0 := (by omega); rw [s0_] at h1_; exact alk_z h1_) | (exfalso; omega)
                · have E8_ : sm_lcmp (S_.2.2.2 171 0 (64 * a_ + w_).toNat) (S_.2.2.2 171 0 (64 * b_ + w_).toNat) ≠ 0 := by rw [hS_, i1_, i2_]; exact fun q9_ => E9_ (lc_0.mp q9_)
                  first | exact alk_n (w_ := w_) (by omega) (by rw [l5_0 cb_]; exact E9_) | (exfalso; omega)
              · have i1_ : (64 * a_ + w_).toNat = 64 * aa_ + w_.toNat := by omega
                have i2_ : (64 * b_ + w_).toNat = 64 * bb_ + w_.toNat := by omega
                by_cases E9_ : S0_.2.2.2 171 0 (64 * aa_ + w_.toNat) = l_5 (S0_.2.2.2 171 0 (64 * bb_ + w_.toNat)) (-1)
                · have E8_ : sm_lcmp (S_.2.2.2 171 0 (64 * a_ + w_).toNat) (l_5 (S_.2.2.2 171 0 (64 * b_ + w_).toNat) (-1)) = 0 := by rw [hS_, i1_, i2_]; exact lc_0.mpr E9_
                  first | (have s1_ : tu_ = 1 := (by omega); rw [s1_] at h2_; exact alk_y h2_ (by omega) E9_) | (have s0_ : tu_ = 0 := (by omega); rw [s0_] at h2_; exact alk_z h2_) | (exfalso; omega)
                · have E8_ : sm_lcmp (S_.2.2.2 171 0 (64 * a_ + w_).toNat) (l_5 (S_.2.2.2 171 0 (64 * b_ + w_).toNat) (-1)) ≠ 0 := by rw [hS_, i1_, i2_]; exact fun q9_ => E9_ (lc_0.mp q9_)
                  first | exact alk_n (w_ := w_) (by omega) E9_ | (exfalso; omega)
              · first | rfl | exact hS_
              · omega
            · have cx9_ : ¬ (tu_ = 0) := of_decide_eq_false cx9_
              refine sm_T_go 4 (c1 := (74, [some (.inr (.inr (some (13, 0)))), some (.inl a_), some (.inl b_), some (.inl 0), some (.inl tu_), some (.inl w_)], [.inl a_, .inl 64, .inr (.inr (some (171, 0)))], S_)) rfl ?_
              refine sm_T_bin (w := 64 * a_) rfl (bi_mul (by omega) (by omega) (by omega)) ?_
              refine sm_T_go 1 (c1 := (77, [some (.inr (.inr (some (13, 0)))), some (.inl a_), some (.inl b_), some (.inl 0), some (.inl tu_), some (.inl w_)], [.inl w_, .inl (64 * a_), .inr (.inr (some (171, 0)))], S_)) rfl ?_
              refine sm_T_bin (w := 64 * a_ + w_) rfl (bi_add (by omega) (by omega) (by omega)) ?_
              refine sm_T_lald (n := 131072) rfl rfl (by omega) (by omega) ?_
              refine sm_T_go 4 (c1 := (86, [some (.inr (.inr (some (13, 0)))), some (.inl a_), some (.inl b_), some (.inl 0), some (.inl tu_), some (.inl w_)], [.inl b_, .inl 64, .inr (.inr (some (171, 0))), .inr (.inl (S_.2.2.2 171 0 (64 * a_ + w_).toNat))], S_)) rfl ?_
              refine sm_T_bin (w := 64 * b_) rfl (bi_mul (by omega) (by omega) (by omega)) ?_
              refine sm_T_go 1 (c1 := (89, [some (.inr (.inr (some (13, 0)))), some (.inl a_), some (.inl b_), some (.inl 0), some (.inl tu_), some (.inl w_)], [.inl w_, .inl (64 * b_), .inr (.inr (some (171, 0))), .inr (.inl (S_.2.2.2 171 0 (64 * a_ + w_).toNat))], S_)) rfl ?_
              refine sm_T_bin (w := 64 * b_ + w_) rfl (bi_add (by omega) (by omega) (by omega)) ?_
              refine sm_T_lald (n := 131072) rfl rfl (by omega) (by omega) ?_
              refine sm_T_nt (u := some (.inr (.inl (-1)))) (S1 := S_) rfl rfl rfl ?_
              refine sm_T_go 2 (c1 := (96, [some (.inr (.inr (some (13, 0)))), some (.inl a_), some (.inl b_), some (.inl 0), some (.inl tu_), some (.inl w_)], [.inl (sm_lcmp ((S_.2.2.2 171 0 (64 * a_ + w_).toNat)) ((l_5 ((S_.2.2.2 171 0 (64 * b_ + w_).toNat)) (-1))))], S_)) rfl ?_
              refine sm_T_b0 (a := 1) (z := 7) rfl (fun cx10_ => ?_) (fun cx10_ => ?_)
              · have cx10_ : (sm_lcmp ((S_.2.2.2 171 0 (64 * a_ + w_).toNat)) ((l_5 ((S_.2.2.2 171 0 (64 * b_ + w_).toNat)) (-1)))) ≠ 0 := of_decide_eq_true cx10_
                refine sm_T_go 2 (c1 := (106, [some (.inr (.inr (some (13, 0)))), some (.inl a_), some (.inl b_), some (.inl 0), some (.inl 0), some (.inl w_)], [], S_)) rfl ?_
                refine sm_T_inc (a := 5) (z := 1) (v := w_) (w := w_ + 1) rfl rfl (by omega) (by omega) (by omega) ?_
                refine sm_T_go 1 (c1 := (8, [some (.inr (.inr (some (13, 0)))), some (.inl a_), some (.inl b_), some (.inl 0), some (.inl 0), some (.inl (w_ + 1))], [], S_)) rfl ?_
                refine ih_ 0 0 (w_ + 1) S_ hI_ hF_ ⟨?_, ?_, ?_, ?_, trivial⟩ ?_
                · omega
                · have i1_ : (64 * a_ + w_).toNat = 64 * aa_ + w_.toNat := by omega
                  have i2_ : (64 * b_ + w_).toNat = 64 * bb_ + w_.toNat := by omega
                  have cb_ := rok_c hrb_ w_.toNat (by omega)
                  by_cases E9_ : S0_.2.2.2 171 0 (64 * aa_ + w_.toNat) = S0_.2.2.2 171 0 (64 * bb_ + w_.toNat)
                  · have E8_ : sm_lcmp (S_.2.2.2 171 0 (64 * a_ + w_).toNat) (S_.2.2.2 171 0 (64 * b_ + w_).toNat) = 0 := by rw [hS_, i1_, i2_]; exact lc_0.mpr E9_
                    first | (have s1_ : sa_ = 1 := (by omega); rw [s1_] at h1_; exact alk_y h1_ (by omega) (by rw [l5_0 cb_]; exact E9_)) | (have s0_ : sa_ = 0 := (by omega); rw [s0_] at h1_; exact alk_z h1_) | (exfalso; omega)
                  · have E8_ : sm_lcmp (S_.2.2.2 171 0 (64 * a_ + w_).toNat) (S_.2.2.2 171 0 (64 * b_ + w_).toNat) ≠ 0 := by rw [hS_, i1_, i2_]; exact fun q9_ => E9_ (lc_0.mp q9_)
                    first | exact alk_n (w_ := w_) (by omega) (by rw [l5_0 cb_]; exact E9_) | (exfalso; omega)
                · have i1_ : (64 * a_ + w_).toNat = 64 * aa_ + w_.toNat := by omega
                  have i2_ : (64 * b_ + w_).toNat = 64 * bb_ + w_.toNat := by omega
                  by_cases E9_ : S0_.2.2.2 171 0 (64 * aa_ + w_.toNat) = l_5 (S0_.2.2.2 171 0 (64 * bb_ + w_.toNat)) (-1)
                  · have E8_ : sm_lcmp (S_.2.2.2 171 0 (64 * a_ + w_).toNat) (l_5 (S_.2.2.2 171 0 (64 * b_ + w_).toNat) (-1)) = 0 := by rw [hS_, i1_, i2_]; exact lc_0.mpr E9_
                    first | (have s1_ : tu_ = 1 := (by omega); rw [s1_] at h2_; exact alk_y h2_ (by omega) E9_) | (have s0_ : tu_ = 0 := (by omega); rw [s0_] at h2_; exact alk_z h2_) | (exfalso; omega)
                  · have E8_ : sm_lcmp (S_.2.2.2 171 0 (64 * a_ + w_).toNat) (l_5 (S_.2.2.2 171 0 (64 * b_ + w_).toNat) (-1)) ≠ 0 := by rw [hS_, i1_, i2_]; exact fun q9_ => E9_ (lc_0.mp q9_)
                    first | exact alk_n (w_ := w_) (by omega) E9_ | (exfalso; omega)
                · first | rfl | exact hS_
                · omega
              · have cx10_ : ¬ ((sm_lcmp ((S_.2.2.2 171 0 (64 * a_ + w_).toNat)) ((l_5 ((S_.2.2.2 171 0 (64 * b_ + w_).toNat)) (-1)))) ≠ 0) := of_decide_eq_false cx10_
                refine sm_T_go 3 (c1 := (106, [some (.inr (.inr (some (13, 0)))), some (.inl a_), some (.inl b_), some (.inl 0), some (.inl 1), some (.inl w_)], [], S_)) rfl ?_
                refine sm_T_inc (a := 5) (z := 1) (v := w_) (w := w_ + 1) rfl rfl (by omega) (by omega) (by omega) ?_
                refine sm_T_go 1 (c1 := (8, [some (.inr (.inr (some (13, 0)))), some (.inl a_), some (.inl b_), some (.inl 0), some (.inl 1), some (.inl (w_ + 1))], [], S_)) rfl ?_
                refine ih_ 0 1 (w_ + 1) S_ hI_ hF_ ⟨?_, ?_, ?_, ?_, trivial⟩ ?_
                · omega
                · have i1_ : (64 * a_ + w_).toNat = 64 * aa_ + w_.toNat := by omega
                  have i2_ : (64 * b_ + w_).toNat = 64 * bb_ + w_.toNat := by omega
                  have cb_ := rok_c hrb_ w_.toNat (by omega)
                  by_cases E9_ : S0_.2.2.2 171 0 (64 * aa_ + w_.toNat) = S0_.2.2.2 171 0 (64 * bb_ + w_.toNat)
                  · have E8_ : sm_lcmp (S_.2.2.2 171 0 (64 * a_ + w_).toNat) (S_.2.2.2 171 0 (64 * b_ + w_).toNat) = 0 := by rw [hS_, i1_, i2_]; exact lc_0.mpr E9_
                    first | (have s1_ : sa_ = 1 := (by omega); rw [s1_] at h1_; exact alk_y h1_ (by omega) (by rw [l5_0 cb_]; exact E9_)) | (have s0_ : sa_ = 0 := (by omega); rw [s0_] at h1_; exact alk_z h1_) | (exfalso; omega)
                  · have E8_ : sm_lcmp (S_.2.2.2 171 0 (64 * a_ + w_).toNat) (S_.2.2.2 171 0 (64 * b_ + w_).toNat) ≠ 0 := by rw [hS_, i1_, i2_]; exact fun q9_ => E9_ (lc_0.mp q9_)
                    first | exact alk_n (w_ := w_) (by omega) (by rw [l5_0 cb_]; exact E9_) | (exfalso; omega)
                · have i1_ : (64 * a_ + w_).toNat = 64 * aa_ + w_.toNat := by omega
                  have i2_ : (64 * b_ + w_).toNat = 64 * bb_ + w_.toNat := by omega
                  by_cases E9_ : S0_.2.2.2 171 0 (64 * aa_ + w_.toNat) = l_5 (S0_.2.2.2 171 0 (64 * bb_ + w_.toNat)) (-1)
                  · have E8_ : sm_lcmp (S_.2.2.2 171 0 (64 * a_ + w_).toNat) (l_5 (S_.2.2.2 171 0 (64 * b_ + w_).toNat) (-1)) = 0 := by rw [hS_, i1_, i2_]; exact lc_0.mpr E9_
                    first | (have s1_ : tu_ = 1 := (by omega); rw [s1_] at h2_; exact alk_y h2_ (by omega) E9_) | (have s0_ : tu_ = 0 := (by omega); rw [s0_] at h2_; exact alk_z h2_) | (exfalso; omega)
                  · have E8_ : sm_lcmp (S_.2.2.2 171 0 (64 * a_ + w_).toNat) (l_5 (S_.2.2.2 171 0 (64 * b_ + w_).toNat) (-1)) ≠ 0 := by rw [hS_, i1_, i2_]; exact fun q9_ => E9_ (lc_0.mp q9_)
                    first | exact alk_n (w_ := w_) (by omega) E9_ | (exfalso; omega)
                · first | rfl | exact hS_
                · omega
          · have cx8_ : ¬ ((sm_lcmp ((S_.2.2.2 171 0 (64 * a_ + w_).toNat)) ((S_.2.2.2 171 0 (64 * b_ + w_).toNat))) ≠ 0) := of_decide_eq_false cx8_
            refine sm_T_go 4 (c1 := (64, [some (.inr (.inr (some (13, 0)))), some (.inl a_), some (.inl b_), some (.inl 1), some (.inl tu_), some (.inl w_)], [.inl tu_], S_)) rfl ?_
            refine sm_T_b0 (a := 0) (z := 39) rfl (fun cx11_ => ?_) (fun cx11_ => ?_)
            · have cx11_ : tu_ = 0 := of_decide_eq_true cx11_
              refine sm_T_go 2 (c1 := (106, [some (.inr (.inr (some (13, 0)))), some (.inl a_), some (.inl b_), some (.inl 1), some (.inl 0), some (.inl w_)], [], S_)) rfl ?_
              refine sm_T_inc (a := 5) (z := 1) (v := w_) (w := w_ + 1) rfl rfl (by omega) (by omega) (by omega) ?_
              refine sm_T_go 1 (c1 := (8, [some (.inr (.inr (some (13, 0)))), some (.inl a_), some (.inl b_), some (.inl 1), some (.inl 0), some (.inl (w_ + 1))], [], S_)) rfl ?_
              refine ih_ 1 0 (w_ + 1) S_ hI_ hF_ ⟨?_, ?_, ?_, ?_, trivial⟩ ?_
              · omega
              · have i1_ : (64 * a_ + w_).toNat = 64 * aa_ + w_.toNat := by omega
                have i2_ : (64 * b_ + w_).toNat = 64 * bb_ + w_.toNat := by omega
                have cb_ := rok_c hrb_ w_.toNat (by omega)
                by_cases E9_ : S0_.2.2.2 171 0 (64 * aa_ + w_.toNat) = S0_.2.2.2 171 0 (64 * bb_ + w_.toNat)
                · have E8_ : sm_lcmp (S_.2.2.2 171 0 (64 * a_ + w_).toNat) (S_.2.2.2 171 0 (64 * b_ + w_).toNat) = 0 := by rw [hS_, i1_, i2_]; exact lc_0.mpr E9_
                  first | (have s1_ : sa_ = 1 := (by omega); rw [s1_] at h1_; exact alk_y h1_ (by omega) (by rw [l5_0 cb_]; exact E9_)) | (have s0_ : sa_ = 0 := (by omega); rw [s0_] at h1_; exact alk_z h1_) | (exfalso; omega)
                · have E8_ : sm_lcmp (S_.2.2.2 171 0 (64 * a_ + w_).toNat) (S_.2.2.2 171 0 (64 * b_ + w_).toNat) ≠ 0 := by rw [hS_, i1_, i2_]; exact fun q9_ => E9_ (lc_0.mp q9_)
                  first | exact alk_n (w_ := w_) (by omega) (by rw [l5_0 cb_]; exact E9_) | (exfalso; omega)
              · have i1_ : (64 * a_ + w_).toNat = 64 * aa_ + w_.toNat := by omega
                have i2_ : (64 * b_ + w_).toNat = 64 * bb_ + w_.toNat := by omega
                by_cases E9_ : S0_.2.2.2 171 0 (64 * aa_ + w_.toNat) = l_5 (S0_.2.2.2 171 0 (64 * bb_ + w_.toNat)) (-1)
                · have E8_ : sm_lcmp (S_.2.2.2 171 0 (64 * a_ + w_).toNat) (l_5 (S_.2.2.2 171 0 (64 * b_ + w_).toNat) (-1)) = 0 := by rw [hS_, i1_, i2_]; exact lc_0.mpr E9_
                  first | (have s1_ : tu_ = 1 := (by omega); rw [s1_] at h2_; exact alk_y h2_ (by omega) E9_) | (have s0_ : tu_ = 0 := (by omega); rw [s0_] at h2_; exact alk_z h2_) | (exfalso; omega)
                · have E8_ : sm_lcmp (S_.2.2.2 171 0 (64 * a_ + w_).toNat) (l_5 (S_.2.2.2 171 0 (64 * b_ + w_).toNat) (-1)) ≠ 0 := by rw [hS_, i1_, i2_]; exact fun q9_ => E9_ (lc_0.mp q9_)
                  first | exact alk_n (w_ := w_) (by omega) E9_ | (exfalso; omega)
              · first | rfl | exact hS_
              · omega
            · have cx11_ : ¬ (tu_ = 0) := of_decide_eq_false cx11_
              refine sm_T_go 4 (c1 := (74, [some (.inr (.inr (some (13, 0)))), some (.inl a_), some (.inl b_), some (.inl 1), some (.inl tu_), some (.inl w_)], [.inl a_, .inl 64, .inr (.inr (some (171, 0)))], S_)) rfl ?_
              refine sm_T_bin (w := 64 * a_) rfl (bi_mul (by omega) (by omega) (by omega)) ?_
              refine sm_T_go 1 (c1 := (77, [some (.inr (.inr (some (13, 0)))), some (.inl a_), some (.inl b_), some (.inl 1), some (.inl tu_), some (.inl w_)], [.inl w_, .inl (64 * a_), .inr (.inr (some (171, 0)))], S_)) rfl ?_
              refine sm_T_bin (w := 64 * a_ + w_) rfl (bi_add (by omega) (by omega) (by omega)) ?_
              refine sm_T_lald (n := 131072) rfl rfl (by omega) (by omega) ?_
              refine sm_T_go 4 (c1 := (86, [some (.inr (.inr (some (13, 0)))), some (.inl a_), some (.inl b_), some (.inl 1), some (.inl tu_), some (.inl w_)], [.inl b_, .inl 64, .inr (.inr (some (171, 0))), .inr (.inl (S_.2.2.2 171 0 (64 * a_ + w_).toNat))], S_)) rfl ?_
              refine sm_T_bin (w := 64 * b_) rfl (bi_mul (by omega) (by omega) (by omega)) ?_
              refine sm_T_go 1 (c1 := (89, [some (.inr (.inr (some (13, 0)))), some (.inl a_), some (.inl b_), some (.inl 1), some (.inl tu_), some (.inl w_)], [.inl w_, .inl (64 * b_), .inr (.inr (some (171, 0))), .inr (.inl (S_.2.2.2 171 0 (64 * a_ + w_).toNat))], S_)) rfl ?_
              refine sm_T_bin (w := 64 * b_ + w_) rfl (bi_add (by omega) (by omega) (by omega)) ?_
              refine sm_T_lald (n := 131072) rfl rfl (by omega) (by omega) ?_
              refine sm_T_nt (u := some (.inr (.inl (-1)))) (S1 := S_) rfl rfl rfl ?_
              refine sm_T_go 2 (c1 := (96, [some (.inr (.inr (some (13, 0)))), some (.inl a_), some (.inl b_), some (.inl 1), some (.inl tu_), some (.inl w_)], [.inl (sm_lcmp ((S_.2.2.2 171 0 (64 * a_ + w_).toNat)) ((l_5 ((S_.2.2.2 171 0 (64 * b_ + w_).toNat)) (-1))))], S_)) rfl ?_
              refine sm_T_b0 (a := 1) (z := 7) rfl (fun cx12_ => ?_) (fun cx12_ => ?_)
              · have cx12_ : (sm_lcmp ((S_.2.2.2 171 0 (64 * a_ + w_).toNat)) ((l_5 ((S_.2.2.2 171 0 (64 * b_ + w_).toNat)) (-1)))) ≠ 0 := of_decide_eq_true cx12_
                refine sm_T_go 2 (c1 := (106, [some (.inr (.inr (some (13, 0)))), some (.inl a_), some (.inl b_), some (.inl 1), some (.inl 0), some (.inl w_)], [], S_)) rfl ?_
                refine sm_T_inc (a := 5) (z := 1) (v := w_) (w := w_ + 1) rfl rfl (by omega) (by omega) (by omega) ?_
                refine sm_T_go 1 (c1 := (8, [some (.inr (.inr (some (13, 0)))), some (.inl a_), some (.inl b_), some (.inl 1), some (.inl 0), some (.inl (w_ + 1))], [], S_)) rfl ?_
                refine ih_ 1 0 (w_ + 1) S_ hI_ hF_ ⟨?_, ?_, ?_, ?_, trivial⟩ ?_
                · omega
                · have i1_ : (64 * a_ + w_).toNat = 64 * aa_ + w_.toNat := by omega
                  have i2_ : (64 * b_ + w_).toNat = 64 * bb_ + w_.toNat := by omega
                  have cb_ := rok_c hrb_ w_.toNat (by omega)
                  by_cases E9_ : S0_.2.2.2 171 0 (64 * aa_ + w_.toNat) = S0_.2.2.2 171 0 (64 * bb_ + w_.toNat)
                  · have E8_ : sm_lcmp (S_.2.2.2 171 0 (64 * a_ + w_).toNat) (S_.2.2.2 171 0 (64 * b_ + w_).toNat) = 0 := by rw [hS_, i1_, i2_]; exact lc_0.mpr E9_
                    first | (have s1_ : sa_ = 1 := (by omega); rw [s1_] at h1_; exact alk_y h1_ (by omega) (by rw [l5_0 cb_]; exact E9_)) | (have s0_ : sa_ = 0 := (by omega); rw [s0_] at h1_; exact alk_z h1_) | (exfalso; omega)
                  · have E8_ : sm_lcmp (S_.2.2.2 171 0 (64 * a_ + w_).toNat) (S_.2.2.2 171 0 (64 * b_ + w_).toNat) ≠ 0 := by rw [hS_, i1_, i2_]; exact fun q9_ => E9_ (lc_0.mp q9_)
                    first | exact alk_n (w_ := w_) (by omega) (by rw [l5_0 cb_]; exact E9_) | (exfalso; omega)
                · have i1_ : (64 * a_ + w_).toNat = 64 * aa_ + w_.toNat := by omega
                  have i2_ : (64 * b_ + w_).toNat = 64 * bb_ + w_.toNat := by omega
                  by_cases E9_ : S0_.2.2.2 171 0 (64 * aa_ + w_.toNat) = l_5 (S0_.2.2.2 171 0 (64 * bb_ + w_.toNat)) (-1)
                  · have E8_ : sm_lcmp (S_.2.2.2 171 0 (64 * a_ + w_).toNat) (l_5 (S_.2.2.2 171 0 (64 * b_ + w_).toNat) (-1)) = 0 := by rw [hS_, i1_, i2_]; exact lc_0.mpr E9_
                    first | (have s1_ : tu_ = 1 := (by omega); rw [s1_] at h2_; exact alk_y h2_ (by omega) E9_) | (have s0_ : tu_ = 0 := (by omega); rw [s0_] at h2_; exact alk_z h2_) | (exfalso; omega)
                  · have E8_ : sm_lcmp (S_.2.2.2 171 0 (64 * a_ + w_).toNat) (l_5 (S_.2.2.2 171 0 (64 * b_ + w_).toNat) (-1)) ≠ 0 := by rw [hS_, i1_, i2_]; exact fun q9_ => E9_ (lc_0.mp q9_)
                    first | exact alk_n (w_ := w_) (by omega) E9_ | (exfalso; omega)
                · first | rfl | exact hS_
                · omega
              · have cx12_ : ¬ ((sm_lcmp ((S_.2.2.2 171 0 (64 * a_ + w_).toNat)) ((l_5 ((S_.2.2.2 171 0 (64 * b_ + w_).toNat)) (-1)))) ≠ 0) := of_decide_eq_false cx12_
                refine sm_T_go 3 (c1 := (106, [some (.inr (.inr (some (13, 0)))), some (.inl a_), some (.inl b_), some (.inl 1), some (.inl 1), some (.inl w_)], [], S_)) rfl ?_
                refine sm_T_inc (a := 5) (z := 1) (v := w_) (w := w_ + 1) rfl rfl (by omega) (by omega) (by omega) ?_
                refine sm_T_go 1 (c1 := (8, [some (.inr (.inr (some (13, 0)))), some (.inl a_), some (.inl b_), some (.inl 1), some (.inl 1), some (.inl (w_ + 1))], [], S_)) rfl ?_
                refine ih_ 1 1 (w_ + 1) S_ hI_ hF_ ⟨?_, ?_, ?_, ?_, trivial⟩ ?_
                · omega
                · have i1_ : (64 * a_ + w_).toNat = 64 * aa_ + w_.toNat := by omega
                  have i2_ : (64 * b_ + w_).toNat = 64 * bb_ + w_.toNat := by omega
                  have cb_ := rok_c hrb_ w_.toNat (by omega)
                  by_cases E9_ : S0_.2.2.2 171 0 (64 * aa_ + w_.toNat) = S0_.2.2.2 171 0 (64 * bb_ + w_.toNat)
                  · have E8_ : sm_lcmp (S_.2.2.2 171 0 (64 * a_ + w_).toNat) (S_.2.2.2 171 0 (64 * b_ + w_).toNat) = 0 := by rw [hS_, i1_, i2_]; exact lc_0.mpr E9_
                    first | (have s1_ : sa_ = 1 := (by omega); rw [s1_] at h1_; exact alk_y h1_ (by omega) (by rw [l5_0 cb_]; exact E9_)) | (have s0_ : sa_ = 0 := (by omega); rw [s0_] at h1_; exact alk_z h1_) | (exfalso; omega)
                  · have E8_ : sm_lcmp (S_.2.2.2 171 0 (64 * a_ + w_).toNat) (S_.2.2.2 171 0 (64 * b_ + w_).toNat) ≠ 0 := by rw [hS_, i1_, i2_]; exact fun q9_ => E9_ (lc_0.mp q9_)
                    first | exact alk_n (w_ := w_) (by omega) (by rw [l5_0 cb_]; exact E9_) | (exfalso; omega)
                · have i1_ : (64 * a_ + w_).toNat = 64 * aa_ + w_.toNat := by omega
                  have i2_ : (64 * b_ + w_).toNat = 64 * bb_ + w_.toNat := by omega
                  by_cases E9_ : S0_.2.2.2 171 0 (64 * aa_ + w_.toNat) = l_5 (S0_.2.2.2 171 0 (64 * bb_ + w_.toNat)) (-1)
                  · have E8_ : sm_lcmp (S_.2.2.2 171 0 (64 * a_ + w_).toNat) (l_5 (S_.2.2.2 171 0 (64 * b_ + w_).toNat) (-1)) = 0 := by rw [hS_, i1_, i2_]; exact lc_0.mpr E9_
                    first | (have s1_ : tu_ = 1 := (by omega); rw [s1_] at h2_; exact alk_y h2_ (by omega) E9_) | (have s0_ : tu_ = 0 := (by omega); rw [s0_] at h2_; exact alk_z h2_) | (exfalso; omega)
                  · have E8_ : sm_lcmp (S_.2.2.2 171 0 (64 * a_ + w_).toNat) (l_5 (S_.2.2.2 171 0 (64 * b_ + w_).toNat) (-1)) ≠ 0 := by rw [hS_, i1_, i2_]; exact fun q9_ => E9_ (lc_0.mp q9_)
                    first | exact alk_n (w_ := w_) (by omega) E9_ | (exfalso; omega)
                · first | rfl | exact hS_
                · omega
      · have cx4_ : ¬ (sa_ ≠ 0) := of_decide_eq_false cx4_
        refine sm_T_go 1 (c1 := (21, [some (.inr (.inr (some (13, 0)))), some (.inl a_), some (.inl b_), some (.inl sa_), some (.inl tu_), some (.inl w_)], [.inl tu_], S_)) rfl ?_
        refine sm_T_b0 (a := 0) (z := 91) rfl (fun cx13_ => ?_) (fun cx13_ => ?_)
        · have cx13_ : tu_ = 0 := of_decide_eq_true cx13_
          refine sm_T_go 1 (c1 := (113, [some (.inr (.inr (some (13, 0)))), some (.inl a_), some (.inl b_), some (.inl sa_), some (.inl tu_), some (.inl w_)], [.inl sa_], S_)) rfl ?_
          refine sm_T_b0 (a := 0) (z := 7) rfl (fun cx14_ => ?_) (fun cx14_ => ?_)
          · have cx14_ : sa_ = 0 := of_decide_eq_true cx14_
            refine sm_T_go 1 (c1 := (122, [some (.inr (.inr (some (13, 0)))), some (.inl a_), some (.inl b_), some (.inl sa_), some (.inl tu_), some (.inl w_)], [.inl tu_], S_)) rfl ?_
            refine sm_T_b0 (a := 0) (z := 7) rfl (fun cx15_ => ?_) (fun cx15_ => ?_)
            · have cx15_ : tu_ = 0 := of_decide_eq_true cx15_
              refine sm_T_go 1 (c1 := (130, [some (.inr (.inr (some (13, 0)))), some (.inl a_), some (.inl b_), some (.inl sa_), some (.inl tu_), some (.inl w_)], [.inl 2], S_)) rfl ?_
              refine sm_T_ri rfl ⟨_, _, rfl, (by first | rfl | exact hS_.symm), _, rfl, ?_⟩
              first | (have s1_ : sa_ = 1 := (by omega); rw [s1_] at h1_; exact Or.inl ⟨rfl, alk_l h1_ (by omega)⟩) | (have t1_ : tu_ = 1 := (by omega); rw [t1_] at h2_; exact Or.inr (Or.inl ⟨rfl, alk_l h2_ (by omega)⟩)) | (have s0_ : sa_ = 0 := (by omega); have t0_ : tu_ = 0 := (by omega); rw [s0_] at h1_; rw [t0_] at h2_; exact Or.inr (Or.inr ⟨rfl, alk_x h1_, alk_x h2_⟩))
            · have cx15_ : ¬ (tu_ = 0) := of_decide_eq_false cx15_
              exfalso; omega
          · have cx14_ : ¬ (sa_ = 0) := of_decide_eq_false cx14_
            exfalso; omega
        · have cx13_ : ¬ (tu_ = 0) := of_decide_eq_false cx13_
          refine sm_T_go 1 (c1 := (25, [some (.inr (.inr (some (13, 0)))), some (.inl a_), some (.inl b_), some (.inl sa_), some (.inl tu_), some (.inl w_)], [.inl sa_], S_)) rfl ?_
          refine sm_T_b0 (a := 0) (z := 35) rfl (fun cx16_ => ?_) (fun cx16_ => ?_)
          · have cx16_ : sa_ = 0 := of_decide_eq_true cx16_
            refine sm_T_go 3 (c1 := (64, [some (.inr (.inr (some (13, 0)))), some (.inl a_), some (.inl b_), some (.inl 0), some (.inl tu_), some (.inl w_)], [.inl tu_], S_)) rfl ?_
            refine sm_T_b0 (a := 0) (z := 39) rfl (fun cx17_ => ?_) (fun cx17_ => ?_)
            · have cx17_ : tu_ = 0 := of_decide_eq_true cx17_
              refine sm_T_go 2 (c1 := (106, [some (.inr (.inr (some (13, 0)))), some (.inl a_), some (.inl b_), some (.inl 0), some (.inl 0), some (.inl w_)], [], S_)) rfl ?_
              refine sm_T_inc (a := 5) (z := 1) (v := w_) (w := w_ + 1) rfl rfl (by omega) (by omega) (by omega) ?_
              refine sm_T_go 1 (c1 := (8, [some (.inr (.inr (some (13, 0)))), some (.inl a_), some (.inl b_), some (.inl 0), some (.inl 0), some (.inl (w_ + 1))], [], S_)) rfl ?_
              refine ih_ 0 0 (w_ + 1) S_ hI_ hF_ ⟨?_, ?_, ?_, ?_, trivial⟩ ?_
              · omega
              · have i1_ : (64 * a_ + w_).toNat = 64 * aa_ + w_.toNat := by omega
                have i2_ : (64 * b_ + w_).toNat = 64 * bb_ + w_.toNat := by omega
                have cb_ := rok_c hrb_ w_.toNat (by omega)
                by_cases E9_ : S0_.2.2.2 171 0 (64 * aa_ + w_.toNat) = S0_.2.2.2 171 0 (64 * bb_ + w_.toNat)
                · have E8_ : sm_lcmp (S_.2.2.2 171 0 (64 * a_ + w_).toNat) (S_.2.2.2 171 0 (64 * b_ + w_).toNat) = 0 := by rw [hS_, i1_, i2_]; exact lc_0.mpr E9_
                  first | (have s1_ : sa_ = 1 := (by omega); rw [s1_] at h1_; exact alk_y h1_ (by omega) (by rw [l5_0 cb_]; exact E9_)) | (have s0_ : sa_ = 0 := (by omega); rw [s0_] at h1_; exact alk_z h1_) | (exfalso; omega)
                · have E8_ : sm_lcmp (S_.2.2.2 171 0 (64 * a_ + w_).toNat) (S_.2.2.2 171 0 (64 * b_ + w_).toNat) ≠ 0 := by rw [hS_, i1_, i2_]; exact fun q9_ => E9_ (lc_0.mp q9_)
                  first | exact alk_n (w_ := w_) (by omega) (by rw [l5_0 cb_]; exact E9_) | (exfalso; omega)
              · have i1_ : (64 * a_ + w_).toNat = 64 * aa_ + w_.toNat := by omega
                have i2_ : (64 * b_ + w_).toNat = 64 * bb_ + w_.toNat := by omega
                by_cases E9_ : S0_.2.2.2 171 0 (64 * aa_ + w_.toNat) = l_5 (S0_.2.2.2 171 0 (64 * bb_ + w_.toNat)) (-1)
                · have E8_ : sm_lcmp (S_.2.2.2 171 0 (64 * a_ + w_).toNat) (l_5 (S_.2.2.2 171 0 (64 * b_ + w_).toNat) (-1)) = 0 := by rw [hS_, i1_, i2_]; exact lc_0.mpr E9_
                  first | (have s1_ : tu_ = 1 := (by omega); rw [s1_] at h2_; exact alk_y h2_ (by omega) E9_) | (have s0_ : tu_ = 0 := (by omega); rw [s0_] at h2_; exact alk_z h2_) | (exfalso; omega)
                · have E8_ : sm_lcmp (S_.2.2.2 171 0 (64 * a_ + w_).toNat) (l_5 (S_.2.2.2 171 0 (64 * b_ + w_).toNat) (-1)) ≠ 0 := by rw [hS_, i1_, i2_]; exact fun q9_ => E9_ (lc_0.mp q9_)
                  first | exact alk_n (w_ := w_) (by omega) E9_ | (exfalso; omega)
              · first | rfl | exact hS_
              · omega
            · have cx17_ : ¬ (tu_ = 0) := of_decide_eq_false cx17_
              refine sm_T_go 4 (c1 := (74, [some (.inr (.inr (some (13, 0)))), some (.inl a_), some (.inl b_), some (.inl 0), some (.inl tu_), some (.inl w_)], [.inl a_, .inl 64, .inr (.inr (some (171, 0)))], S_)) rfl ?_
              refine sm_T_bin (w := 64 * a_) rfl (bi_mul (by omega) (by omega) (by omega)) ?_
              refine sm_T_go 1 (c1 := (77, [some (.inr (.inr (some (13, 0)))), some (.inl a_), some (.inl b_), some (.inl 0), some (.inl tu_), some (.inl w_)], [.inl w_, .inl (64 * a_), .inr (.inr (some (171, 0)))], S_)) rfl ?_
              refine sm_T_bin (w := 64 * a_ + w_) rfl (bi_add (by omega) (by omega) (by omega)) ?_
              refine sm_T_lald (n := 131072) rfl rfl (by omega) (by omega) ?_
              refine sm_T_go 4 (c1 := (86, [some (.inr (.inr (some (13, 0)))), some (.inl a_), some (.inl b_), some (.inl 0), some (.inl tu_), some (.inl w_)], [.inl b_, .inl 64, .inr (.inr (some (171, 0))), .inr (.inl (S_.2.2.2 171 0 (64 * a_ + w_).toNat))], S_)) rfl ?_
              refine sm_T_bin (w := 64 * b_) rfl (bi_mul (by omega) (by omega) (by omega)) ?_
              refine sm_T_go 1 (c1 := (89, [some (.inr (.inr (some (13, 0)))), some (.inl a_), some (.inl b_), some (.inl 0), some (.inl tu_), some (.inl w_)], [.inl w_, .inl (64 * b_), .inr (.inr (some (171, 0))), .inr (.inl (S_.2.2.2 171 0 (64 * a_ + w_).toNat))], S_)) rfl ?_
              refine sm_T_bin (w := 64 * b_ + w_) rfl (bi_add (by omega) (by omega) (by omega)) ?_
              refine sm_T_lald (n := 131072) rfl rfl (by omega) (by omega) ?_
              refine sm_T_nt (u := some (.inr (.inl (-1)))) (S1 := S_) rfl rfl rfl ?_
              refine sm_T_go 2 (c1 := (96, [some (.inr (.inr (some (13, 0)))), some (.inl a_), some (.inl b_), some (.inl 0), some (.inl tu_), some (.inl w_)], [.inl (sm_lcmp ((S_.2.2.2 171 0 (64 * a_ + w_).toNat)) ((l_5 ((S_.2.2.2 171 0 (64 * b_ + w_).toNat)) (-1))))], S_)) rfl ?_
              refine sm_T_b0 (a := 1) (z := 7) rfl (fun cx18_ => ?_) (fun cx18_ => ?_)
              · have cx18_ : (sm_lcmp ((S_.2.2.2 171 0 (64 * a_ + w_).toNat)) ((l_5 ((S_.2.2.2 171 0 (64 * b_ + w_).toNat)) (-1)))) ≠ 0 := of_decide_eq_true cx18_
                refine sm_T_go 2 (c1 := (106, [some (.inr (.inr (some (13, 0)))), some (.inl a_), some (.inl b_), some (.inl 0), some (.inl 0), some (.inl w_)], [], S_)) rfl ?_
                refine sm_T_inc (a := 5) (z := 1) (v := w_) (w := w_ + 1) rfl rfl (by omega) (by omega) (by omega) ?_
                refine sm_T_go 1 (c1 := (8, [some (.inr (.inr (some (13, 0)))), some (.inl a_), some (.inl b_), some (.inl 0), some (.inl 0), some (.inl (w_ + 1))], [], S_)) rfl ?_
                refine ih_ 0 0 (w_ + 1) S_ hI_ hF_ ⟨?_, ?_, ?_, ?_, trivial⟩ ?_
                · omega
                · have i1_ : (64 * a_ + w_).toNat = 64 * aa_ + w_.toNat := by omega
                  have i2_ : (64 * b_ + w_).toNat = 64 * bb_ + w_.toNat := by omega
                  have cb_ := rok_c hrb_ w_.toNat (by omega)
                  by_cases E9_ : S0_.2.2.2 171 0 (64 * aa_ + w_.toNat) = S0_.2.2.2 171 0 (64 * bb_ + w_.toNat)
                  · have E8_ : sm_lcmp (S_.2.2.2 171 0 (64 * a_ + w_).toNat) (S_.2.2.2 171 0 (64 * b_ + w_).toNat) = 0 := by rw [hS_, i1_, i2_]; exact lc_0.mpr E9_
                    first | (have s1_ : sa_ = 1 := (by omega); rw [s1_] at h1_; exact alk_y h1_ (by omega) (by rw [l5_0 cb_]; exact E9_)) | (have s0_ : sa_ = 0 := (by omega); rw [s0_] at h1_; exact alk_z h1_) | (exfalso; omega)
                  · have E8_ : sm_lcmp (S_.2.2.2 171 0 (64 * a_ + w_).toNat) (S_.2.2.2 171 0 (64 * b_ + w_).toNat) ≠ 0 := by rw [hS_, i1_, i2_]; exact fun q9_ => E9_ (lc_0.mp q9_)
                    first | exact alk_n (w_ := w_) (by omega) (by rw [l5_0 cb_]; exact E9_) | (exfalso; omega)
                · have i1_ : (64 * a_ + w_).toNat = 64 * aa_ + w_.toNat := by omega
                  have i2_ : (64 * b_ + w_).toNat = 64 * bb_ + w_.toNat := by omega
                  by_cases E9_ : S0_.2.2.2 171 0 (64 * aa_ + w_.toNat) = l_5 (S0_.2.2.2 171 0 (64 * bb_ + w_.toNat)) (-1)
                  · have E8_ : sm_lcmp (S_.2.2.2 171 0 (64 * a_ + w_).toNat) (l_5 (S_.2.2.2 171 0 (64 * b_ + w_).toNat) (-1)) = 0 := by rw [hS_, i1_, i2_]; exact lc_0.mpr E9_
                    first | (have s1_ : tu_ = 1 := (by omega); rw [s1_] at h2_; exact alk_y h2_ (by omega) E9_) | (have s0_ : tu_ = 0 := (by omega); rw [s0_] at h2_; exact alk_z h2_) | (exfalso; omega)
                  · have E8_ : sm_lcmp (S_.2.2.2 171 0 (64 * a_ + w_).toNat) (l_5 (S_.2.2.2 171 0 (64 * b_ + w_).toNat) (-1)) ≠ 0 := by rw [hS_, i1_, i2_]; exact fun q9_ => E9_ (lc_0.mp q9_)
                    first | exact alk_n (w_ := w_) (by omega) E9_ | (exfalso; omega)
                · first | rfl | exact hS_
                · omega
              · have cx18_ : ¬ ((sm_lcmp ((S_.2.2.2 171 0 (64 * a_ + w_).toNat)) ((l_5 ((S_.2.2.2 171 0 (64 * b_ + w_).toNat)) (-1)))) ≠ 0) := of_decide_eq_false cx18_
                refine sm_T_go 3 (c1 := (106, [some (.inr (.inr (some (13, 0)))), some (.inl a_), some (.inl b_), some (.inl 0), some (.inl 1), some (.inl w_)], [], S_)) rfl ?_
                refine sm_T_inc (a := 5) (z := 1) (v := w_) (w := w_ + 1) rfl rfl (by omega) (by omega) (by omega) ?_
                refine sm_T_go 1 (c1 := (8, [some (.inr (.inr (some (13, 0)))), some (.inl a_), some (.inl b_), some (.inl 0), some (.inl 1), some (.inl (w_ + 1))], [], S_)) rfl ?_
                refine ih_ 0 1 (w_ + 1) S_ hI_ hF_ ⟨?_, ?_, ?_, ?_, trivial⟩ ?_
                · omega
                · have i1_ : (64 * a_ + w_).toNat = 64 * aa_ + w_.toNat := by omega
                  have i2_ : (64 * b_ + w_).toNat = 64 * bb_ + w_.toNat := by omega
                  have cb_ := rok_c hrb_ w_.toNat (by omega)
                  by_cases E9_ : S0_.2.2.2 171 0 (64 * aa_ + w_.toNat) = S0_.2.2.2 171 0 (64 * bb_ + w_.toNat)
                  · have E8_ : sm_lcmp (S_.2.2.2 171 0 (64 * a_ + w_).toNat) (S_.2.2.2 171 0 (64 * b_ + w_).toNat) = 0 := by rw [hS_, i1_, i2_]; exact lc_0.mpr E9_
                    first | (have s1_ : sa_ = 1 := (by omega); rw [s1_] at h1_; exact alk_y h1_ (by omega) (by rw [l5_0 cb_]; exact E9_)) | (have s0_ : sa_ = 0 := (by omega); rw [s0_] at h1_; exact alk_z h1_) | (exfalso; omega)
                  · have E8_ : sm_lcmp (S_.2.2.2 171 0 (64 * a_ + w_).toNat) (S_.2.2.2 171 0 (64 * b_ + w_).toNat) ≠ 0 := by rw [hS_, i1_, i2_]; exact fun q9_ => E9_ (lc_0.mp q9_)
                    first | exact alk_n (w_ := w_) (by omega) (by rw [l5_0 cb_]; exact E9_) | (exfalso; omega)
                · have i1_ : (64 * a_ + w_).toNat = 64 * aa_ + w_.toNat := by omega
                  have i2_ : (64 * b_ + w_).toNat = 64 * bb_ + w_.toNat := by omega
                  by_cases E9_ : S0_.2.2.2 171 0 (64 * aa_ + w_.toNat) = l_5 (S0_.2.2.2 171 0 (64 * bb_ + w_.toNat)) (-1)
                  · have E8_ : sm_lcmp (S_.2.2.2 171 0 (64 * a_ + w_).toNat) (l_5 (S_.2.2.2 171 0 (64 * b_ + w_).toNat) (-1)) = 0 := by rw [hS_, i1_, i2_]; exact lc_0.mpr E9_
                    first | (have s1_ : tu_ = 1 := (by omega); rw [s1_] at h2_; exact alk_y h2_ (by omega) E9_) | (have s0_ : tu_ = 0 := (by omega); rw [s0_] at h2_; exact alk_z h2_) | (exfalso; omega)
                  · have E8_ : sm_lcmp (S_.2.2.2 171 0 (64 * a_ + w_).toNat) (l_5 (S_.2.2.2 171 0 (64 * b_ + w_).toNat) (-1)) ≠ 0 := by rw [hS_, i1_, i2_]; exact fun q9_ => E9_ (lc_0.mp q9_)
                    first | exact alk_n (w_ := w_) (by omega) E9_ | (exfalso; omega)
                · first | rfl | exact hS_
                · omega
          · have cx16_ : ¬ (sa_ = 0) := of_decide_eq_false cx16_
            exfalso; omega
set_option maxHeartbeats 3000000 in
theorem vc_353 {sc_ : Nat × (Nat → Int)} (a_ : Int) (b_ : Int) (aa_ : Nat) (bb_ : Nat) (S0_ : sm_S) (hI_ : gi S0_) (ha_ : a_ = (aa_ : Int) ∧ aa_ ≤ 1012) (hb_ : b_ = (bb_ : Int) ∧ bb_ ≤ 1012) (hrb_ : rok 64 (-1) (S0_.2.2.2 171 0) bb_) : sm_T (mt_P sc_) 0 353 (0, [some (.inr (.inr (some (13, 0)))), some (.inl a_), some (.inl b_), none, none, none], [], S0_) (fun ro9_ => ∃ u_ S1_, ro9_ = (.inl u_, S1_, 0) ∧ vq_353 a_ b_ aa_ bb_ S0_ u_ S1_) := by
  have hF_ : ai_fr (sx_W vw_353) S0_ S0_ := ai_fr_rf
  refine sm_T_go 6 (c1 := (8, [some (.inr (.inr (some (13, 0)))), some (.inl a_), some (.inl b_), some (.inl 1), some (.inl 1), some (.inl 0)], [], S0_)) rfl ?_
  refine (vl_353 a_ b_ aa_ bb_ S0_ ha_ hb_ hrb_ _) 1 1 0 S0_ hI_ hF_ ⟨?_, ?_, ?_, ?_, trivial⟩ (Nat.lt_succ_self _)
  · omega
  · exact alk_0
  · exact alk_0
  · first | rfl | exact hS_

theorem glo_r {F_ : Nat} {S_ : sm_S} (h_ : rgr F_ S_) : glo F_ (S_.1 13 0 37).toNat (S_.2.2.1 140 0) (S_.2.2.1 141 0) := fun k_ h1_ h2_ => h_.2.2 k_ h1_ (by omega)
/-- whom the_ nodes stand for_, in the_ reference -/
def rsw (F_ : Nat) (S_ : sm_S) : Prop := S_.2.2.1 172 0 0 = 0 ∧ ∀ m_ : Nat, (m_ : Int) < S_.1 13 0 37 → sfo F_ (S_.2.2.1 140 0) (S_.2.2.1 141 0) (S_.2.2.1 172 0) m_
end
/-! 99.zi3a -/
section
/-! the reference: what is told of a design; written by wip/p55/gen/vg -/

/-! what is_ told of_ a_ design, in the_ reference -/
/-- roots and next values are_ literals of_ the_ graph -/
def rrt (o_ : Int) (S_ : sm_S) : Prop := (0 ≤ o_ ∧ o_ ≤ 16) ∧ (0 ≤ S_.1 13 0 53 ∧ S_.1 13 0 53 ≤ 6) ∧ (∀ k_ : Nat, (k_ : Int) < o_ → 0 ≤ S_.2.2.1 175 0 k_ ∧ S_.2.2.1 175 0 k_ < 2 * S_.1 13 0 37) ∧ ∀ k_ : Nat, (k_ : Int) < S_.1 13 0 53 → 0 ≤ S_.2.2.1 151 0 k_ ∧ S_.2.2.1 151 0 k_ < 2 * S_.1 13 0 37
theorem rrt_fr {w_ : sx_Wl} {o_ : Int} {S_ S'_ : sm_S} (h_ : rrt o_ S_) (g_ : ai_fr (sx_W w_) S_ S'_) (h1_ : (sx_W w_).1 13 53 = false) (h2_ : (sx_W w_).1 13 37 = false) (h4_ : (sx_W w_).2.1 175 = false) (h5_ : (sx_W w_).2.1 151 = false) : rrt o_ S'_ := by
  unfold rrt
  rw [g_.1 13 0 53 h1_, g_.1 13 0 37 h2_, fr_arr (t := 175) g_ h4_, fr_arr (t := 151) g_ h5_]
  exact h_
theorem rsw_fr {w_ : sx_Wl} {F_ : Nat} {S_ S'_ : sm_S} (h_ : rsw F_ S_) (g_ : ai_fr (sx_W w_) S_ S'_) (h1_ : (sx_W w_).1 13 37 = false) (h2_ : (sx_W w_).2.1 140 = false) (h3_ : (sx_W w_).2.1 141 = false) (h4_ : (sx_W w_).2.1 172 = false) : rsw F_ S'_ := by
  unfold rsw
  rw [g_.1 13 0 37 h1_, fr_arr (t := 140) g_ h2_, fr_arr (t := 141) g_ h3_, fr_arr (t := 172) g_ h4_]
  exact h_
theorem rsl_n {F_ : Nat} {S_ : sm_S} {l_ : Int} (h_ : rsw F_ S_) (h0_ : 0 ≤ l_) (h1_ : l_ < 2 * S_.1 13 0 37) (h2_ : S_.1 13 0 37 ≤ 1013) : 0 ≤ i_xor (S_.2.2.1 172 0 (l_ / 2).toNat) (l_ % 2) / 2 ∧ i_xor (S_.2.2.1 172 0 (l_ / 2).toNat) (l_ % 2) / 2 ≤ l_ / 2 ∧ 0 ≤ i_xor (S_.2.2.1 172 0 (l_ / 2).toNat) (l_ % 2) ∧ i_xor (S_.2.2.1 172 0 (l_ / 2).toNat) (l_ % 2) ≤ 2025 := by
  obtain ⟨q1_, q2_, -⟩ := h_.2 (l_ / 2).toNat (by omega)
  have x_ := i_xb (x_ := S_.2.2.1 172 0 (l_ / 2).toNat) (b_ := l_ % 2) (by omega) (by omega)
  omega
/-! M_.gatherOutputs -/
end
/-! 99.zi3b -/
section
/-! M_.greatestDepth -/
def vw_358 : sx_Wl := ([], [174], [])
def vq_358 (o_ : Int) (F_ : Nat) (S0_ : sm_S) (u_ : Option sm_V) (S1_ : sm_S) : Prop := ∃ v_ : Int, u_ = some (.inl v_) ∧ gi S1_ ∧ ai_fr (sx_W vw_358) S0_ S1_ ∧ (0 ≤ v_ ∧ v_ ≤ 1000)
set_option maxHeartbeats 2000000 in
set_option maxRecDepth 20000 in
theorem vl_358 {sc_ : Nat × (Nat → Int)} (o_ : Int) (F_ : Nat) (S0_ : sm_S) (hg_ : rgr F_ S0_) (hr_ : rrt o_ S0_) : ∀ nn_ : Nat, (∀ (n_ : Int) (S_ : sm_S), gi S_ → ai_fr (sx_W vw_358) S0_ S_ → ((0 ≤ n_ ∧ n_ ≤ S0_.1 13 0 37) ∧ (∀ k9_ : Nat, (k9_ : Int) < n_ → 0 ≤ S_.2.2.1 174 0 k9_ ∧ S_.2.2.1 174 0 k9_ ≤ (if k9_ < F_ then 0 else (k9_ : Int) - F_ + 1)) ∧ True) → ((5000 - n_).toNat) < nn_ → sm_T (mt_P sc_) 0 358 (2, [some (.inr (.inr (some (13, 0)))), some (.inl o_), some (.inl n_), none, none], [], S_) (fun ro9_ => ∃ u_ S1_, ro9_ = (.inl u_, S1_, 0) ∧ vq_358 o_ F_ S0_ u_ S1_)) ∧ (∀ (md_ : Int) (k_ : Int) (S_ : sm_S), gi S_ → ai_fr (sx_W vw_358) S0_ S_ → ((0 ≤ k_ ∧ k_ ≤ 16 ∧ 0 ≤ md_ ∧ md_ ≤ 1000) ∧ (∀ k9_ : Nat, (k9_ : Int) < S0_.1 13 0 37 → 0 ≤ S_.2.2.1 174 0 k9_ ∧ S_.2.2.1 174 0 k9_ ≤ 1000) ∧ True) → ((2000 - k_).toNat) < nn_ → sm_T (mt_P sc_) 0 358 (105, [some (.inr (.inr (some (13, 0)))), some (.inl o_), some (.inl md_), some (.inl k_), none], [], S_) (fun ro9_ => ∃ u_ S1_, ro9_ = (.inl u_, S1_, 0) ∧ vq_358 o_ F_ S0_ u_ S1_)) ∧ (∀ (md_ : Int) (k_ : Int) (S_ : sm_S), gi S_ → ai_fr (sx_W vw_358) S0_ S_ → ((0 ≤ k_ ∧ 0 ≤ md_ ∧ md_ ≤ 1000) ∧ (∀ k9_ : Nat, (k9_ : Int) < S0_.1 13 0 37 → 0 ≤ S_.2.2.1 174 0 k9_ ∧ S_.2.2.1 174 0 k9_ ≤ 1000) ∧ True) → ((1000 - k_).toNat) < nn_ → sm_T (mt_P sc_) 0 358 (153, [some (.inr (.inr (some (13, 0)))), some (.inl o_), some (.inl md_), some (.inl k_), none], [], S_) (fun ro9_ => ∃ u_ S1_, ro9_ = (.inl u_, S1_, 0) ∧ vq_358 o_ F_ S0_ u_ S1_)) := by
  intro nn_
  induction nn_ with
  | zero => exact ⟨fun _ _ _ _ _ h_ => absurd h_ (Nat.not_lt_zero _), fun _ _ _ _ _ _ h_ => absurd h_ (Nat.not_lt_zero _), fun _ _ _ _ _ _ h_ => absurd h_ (Nat.not_lt_zero _)⟩
  | succ nn_ ih_ =>
    refine ⟨?_, ?_, ?_⟩
    · rintro n_ S_ hI_ hF_ ⟨h0_, h1_, -⟩ hm_
      have g1_ := hg_.1
      have g2_ := hg_.2.1
      have e37_ : S_.1 13 0 37 = S0_.1 13 0 37 := hF_.1 13 0 37 rfl
      have e38_ : S_.1 13 0 38 = S0_.1 13 0 38 := hF_.1 13 0 38 rfl
      have e53_ : S_.1 13 0 53 = S0_.1 13 0 53 := hF_.1 13 0 53 rfl
      have f40_ : S_.2.2.1 140 0 = S0_.2.2.1 140 0 := fr_arr hF_ rfl
      have f41_ : S_.2.2.1 141 0 = S0_.2.2.1 141 0 := fr_arr hF_ rfl
      have r1_ := hr_.1
      have r2_ := hr_.2.1
      have f75_ : S_.2.2.1 175 0 = S0_.2.2.1 175 0 := fr_arr hF_ rfl
      have f51_ : S_.2.2.1 151 0 = S0_.2.2.1 151 0 := fr_arr hF_ rfl
      have bx1_ : 0 ≤ S_.1 13 0 37 ∧ S_.1 13 0 37 ≤ 1014 := hI_.1 13 0 37 rfl
      refine sm_T_go 3 (c1 := (7, [some (.inr (.inr (some (13, 0)))), some (.inl o_), some (.inl n_), none, none], [.inl (S_.1 13 0 37), .inl n_], S_)) rfl ?_
      refine sm_T_br (a := 3) (z := 94) rfl (fun cx2_ => ?_) (fun cx2_ => ?_)
      · have cx2_ : (S_.1 13 0 37) ≤ n_ := of_decide_eq_true cx2_
        refine sm_T_go 4 (c1 := (105, [some (.inr (.inr (some (13, 0)))), some (.inl o_), some (.inl 0), some (.inl 0), none], [], S_)) rfl ?_
        refine ih_.2.1 0 0 S_ hI_ hF_ ⟨?_, ?_, trivial⟩ ?_
        · omega
        · intro k9_ hk9_
          have w9_ := h1_ k9_ (by omega)
          refine ⟨w9_.1, ?_⟩
          have w8_ := w9_.2
          split at w8_ <;> omega
        · omega
      · have cx2_ : ¬ ((S_.1 13 0 37) ≤ n_) := of_decide_eq_false cx2_
        have bx3_ : 0 ≤ S_.1 13 0 38 ∧ S_.1 13 0 38 ≤ 19 := hI_.1 13 0 38 rfl
        refine sm_T_go 3 (c1 := (15, [some (.inr (.inr (some (13, 0)))), some (.inl o_), some (.inl n_), none, none], [.inl (S_.1 13 0 38), .inl n_], S_)) rfl ?_
        refine sm_T_br (a := 3) (z := 7) rfl (fun cx4_ => ?_) (fun cx4_ => ?_)
        · have cx4_ : (S_.1 13 0 38) ≤ n_ := of_decide_eq_true cx4_
          have gn_ := hg_.2.2 n_.toNat (by omega) (by omega)
          rw [← f40_, ← f41_] at gn_
          have lo_ := h1_ (S_.2.2.1 140 0 n_.toNat / 2).toNat (by omega)
          have hi_ := h1_ (S_.2.2.1 141 0 n_.toNat / 2).toNat (by omega)
          refine sm_T_go 5 (c1 := (31, [some (.inr (.inr (some (13, 0)))), some (.inl o_), some (.inl n_), none, none], [.inl n_, .inr (.inr (some (140, 0))), .inr (.inr (some (174, 0)))], S_)) rfl ?_
          refine sm_T_iald (n := 2048) rfl rfl (by omega) (by omega) ?_
          have bx5_ : 0 ≤ S_.2.2.1 140 0 n_.toNat ∧ S_.2.2.1 140 0 n_.toNat ≤ 2047 := hI_.2 140 0 _
          refine sm_T_go 1 (c1 := (33, [some (.inr (.inr (some (13, 0)))), some (.inl o_), some (.inl n_), none, none], [.inl 1, .inl (S_.2.2.1 140 0 n_.toNat), .inr (.inr (some (174, 0)))], S_)) rfl ?_
          refine sm_T_bin (w := ((S_.2.2.1 140 0 n_.toNat) / 2)) rfl (bi_shr (k := 1) (by decide) (by omega) (by omega)) ?_
          refine sm_T_iald (n := 2048) rfl rfl (by omega) (by omega) ?_
          have bx6_ : 0 ≤ S_.2.2.1 174 0 ((S_.2.2.1 140 0 n_.toNat) / 2).toNat ∧ S_.2.2.1 174 0 ((S_.2.2.1 140 0 n_.toNat) / 2).toNat ≤ 1000 := hI_.2 174 0 _
          refine sm_T_go 4 (c1 := (41, [some (.inr (.inr (some (13, 0)))), some (.inl o_), some (.inl n_), some (.inl (S_.2.2.1 174 0 ((S_.2.2.1 140 0 n_.toNat) / 2).toNat)), none], [.inl (S_.1 13 0 38), .inl n_], S_)) rfl ?_
          refine sm_T_br (a := 3) (z := 7) rfl (fun cx7_ => ?_) (fun cx7_ => ?_)
          · have cx7_ : (S_.1 13 0 38) ≤ n_ := of_decide_eq_true cx7_
            refine sm_T_go 5 (c1 := (57, [some (.inr (.inr (some (13, 0)))), some (.inl o_), some (.inl n_), some (.inl (S_.2.2.1 174 0 ((S_.2.2.1 140 0 n_.toNat) / 2).toNat)), none], [.inl n_, .inr (.inr (some (141, 0))), .inr (.inr (some (174, 0)))], S_)) rfl ?_
            refine sm_T_iald (n := 2048) rfl rfl (by omega) (by omega) ?_
            have bx8_ : 0 ≤ S_.2.2.1 141 0 n_.toNat ∧ S_.2.2.1 141 0 n_.toNat ≤ 2047 := hI_.2 141 0 _
            refine sm_T_go 1 (c1 := (59, [some (.inr (.inr (some (13, 0)))), some (.inl o_), some (.inl n_), some (.inl (S_.2.2.1 174 0 ((S_.2.2.1 140 0 n_.toNat) / 2).toNat)), none], [.inl 1, .inl (S_.2.2.1 141 0 n_.toNat), .inr (.inr (some (174, 0)))], S_)) rfl ?_
            refine sm_T_bin (w := ((S_.2.2.1 141 0 n_.toNat) / 2)) rfl (bi_shr (k := 1) (by decide) (by omega) (by omega)) ?_
            refine sm_T_iald (n := 2048) rfl rfl (by omega) (by omega) ?_
            have bx9_ : 0 ≤ S_.2.2.1 174 0 ((S_.2.2.1 141 0 n_.toNat) / 2).toNat ∧ S_.2.2.1 174 0 ((S_.2.2.1 141 0 n_.toNat) / 2).toNat ≤ 1000 := hI_.2 174 0 _
            refine sm_T_go 7 (c1 := (73, [some (.inr (.inr (some (13, 0)))), some (.inl o_), some (.inl n_), some (.inl (S_.2.2.1 174 0 ((S_.2.2.1 140 0 n_.toNat) / 2).toNat)), some (.inl (S_.2.2.1 174 0 ((S_.2.2.1 141 0 n_.toNat) / 2).toNat))], [.inl (S_.1 13 0 38), .inl n_, .inl n_, .inr (.inr (some (174, 0)))], S_)) rfl ?_
            refine sm_T_br (a := 3) (z := 7) rfl (fun cx10_ => ?_) (fun cx10_ => ?_)
            · have cx10_ : (S_.1 13 0 38) ≤ n_ := of_decide_eq_true cx10_
              refine sm_T_go 3 (c1 := (84, [some (.inr (.inr (some (13, 0)))), some (.inl o_), some (.inl n_), some (.inl (S_.2.2.1 174 0 ((S_.2.2.1 140 0 n_.toNat) / 2).toNat)), some (.inl (S_.2.2.1 174 0 ((S_.2.2.1 141 0 n_.toNat) / 2).toNat))], [.inl (S_.2.2.1 174 0 ((S_.2.2.1 141 0 n_.toNat) / 2).toNat), .inl (S_.2.2.1 174 0 ((S_.2.2.1 140 0 n_.toNat) / 2).toNat), .inl 1, .inl n_, .inr (.inr (some (174, 0)))], S_)) rfl ?_
              refine sm_T_br (a := 5) (z := 7) rfl (fun cx11_ => ?_) (fun cx11_ => ?_)
              · have cx11_ : (S_.2.2.1 174 0 ((S_.2.2.1 140 0 n_.toNat) / 2).toNat) ≤ (S_.2.2.1 174 0 ((S_.2.2.1 141 0 n_.toNat) / 2).toNat) := of_decide_eq_true cx11_
                refine sm_T_go 1 (c1 := (93, [some (.inr (.inr (some (13, 0)))), some (.inl o_), some (.inl n_), some (.inl (S_.2.2.1 174 0 ((S_.2.2.1 140 0 n_.toNat) / 2).toNat)), some (.inl (S_.2.2.1 174 0 ((S_.2.2.1 141 0 n_.toNat) / 2).toNat))], [.inl (S_.2.2.1 174 0 ((S_.2.2.1 141 0 n_.toNat) / 2).toNat), .inl 1, .inl n_, .inr (.inr (some (174, 0)))], S_)) rfl ?_
                refine sm_T_bin (w := (S_.2.2.1 174 0 ((S_.2.2.1 141 0 n_.toNat) / 2).toNat) + 1) rfl (bi_add (by omega) (by omega) (by omega)) ?_
                refine sm_T_iast (n := 2048) rfl rfl (by omega) (by omega) ?_
                have hIx12_ : gi (sm_aI S_ 174 0 n_.toNat ((S_.2.2.1 174 0 ((S_.2.2.1 141 0 n_.toNat) / 2).toNat) + 1)) := gi_aI hI_ (show 0 ≤ (S_.2.2.1 174 0 ((S_.2.2.1 141 0 n_.toNat) / 2).toNat) + 1 ∧ (S_.2.2.1 174 0 ((S_.2.2.1 141 0 n_.toNat) / 2).toNat) + 1 ≤ 1000 from ⟨by omega, by omega⟩)
                have hFx13_ : ai_fr (sx_W vw_358) S0_ (sm_aI S_ 174 0 n_.toNat ((S_.2.2.1 174 0 ((S_.2.2.1 141 0 n_.toNat) / 2).toNat) + 1)) := ai_fr_tr hF_ (ai_fr_aI rfl)
                refine sm_T_inc (a := 2) (z := 1) (v := n_) (w := n_ + 1) rfl rfl (by omega) (by omega) (by omega) ?_
                refine sm_T_go 1 (c1 := (2, [some (.inr (.inr (some (13, 0)))), some (.inl o_), some (.inl (n_ + 1)), some (.inl (S_.2.2.1 174 0 ((S_.2.2.1 140 0 n_.toNat) / 2).toNat)), some (.inl (S_.2.2.1 174 0 ((S_.2.2.1 141 0 n_.toNat) / 2).toNat))], [], sm_aI S_ 174 0 n_.toNat ((S_.2.2.1 174 0 ((S_.2.2.1 141 0 n_.toNat) / 2).toNat) + 1))) rfl ?_
                refine sm_T_wk [some (.inr (.inr (some (13, 0)))), some (.inl o_), some (.inl (n_ + 1)), none, none] (by exact ⟨rfl, rfl, rfl, trivial⟩) ?_
                refine ih_.1 (n_ + 1) (sm_aI S_ 174 0 n_.toNat ((S_.2.2.1 174 0 ((S_.2.2.1 141 0 n_.toNat) / 2).toNat) + 1)) hIx12_ hFx13_ ⟨?_, ?_, trivial⟩ ?_
                · omega
                · intro k9_ hk9_
                  rw [rd_eq]
                  by_cases z9_ : k9_ = n_.toNat
                  · rw [if_pos z9_]; first | (have lt9_ : n_ < (F_ : Int) := (by omega); rw [if_pos (by omega)]; omega) | (have ge9_ : (F_ : Int) ≤ n_ := (by omega); rw [if_neg (by omega)]; split at lo_ <;> split at hi_ <;> omega)
                  · rw [if_neg z9_]; exact h1_ k9_ (by omega)
                · omega
              · have cx11_ : ¬ ((S_.2.2.1 174 0 ((S_.2.2.1 140 0 n_.toNat) / 2).toNat) ≤ (S_.2.2.1 174 0 ((S_.2.2.1 141 0 n_.toNat) / 2).toNat)) := of_decide_eq_false cx11_
                refine sm_T_go 2 (c1 := (93, [some (.inr (.inr (some (13, 0)))), some (.inl o_), some (.inl n_), some (.inl (S_.2.2.1 174 0 ((S_.2.2.1 140 0 n_.toNat) / 2).toNat)), some (.inl (S_.2.2.1 174 0 ((S_.2.2.1 141 0 n_.toNat) / 2).toNat))], [.inl (S_.2.2.1 174 0 ((S_.2.2.1 140 0 n_.toNat) / 2).toNat), .inl 1, .inl n_, .inr (.inr (some (174, 0)))], S_)) rfl ?_
                refine sm_T_bin (w := (S_.2.2.1 174 0 ((S_.2.2.1 140 0 n_.toNat) / 2).toNat) + 1) rfl (bi_add (by omega) (by omega) (by omega)) ?_
                refine sm_T_iast (n := 2048) rfl rfl (by omega) (by omega) ?_
                have hIx14_ : gi (sm_aI S_ 174 0 n_.toNat ((S_.2.2.1 174 0 ((S_.2.2.1 140 0 n_.toNat) / 2).toNat) + 1)) := gi_aI hI_ (show 0 ≤ (S_.2.2.1 174 0 ((S_.2.2.1 140 0 n_.toNat) / 2).toNat) + 1 ∧ (S_.2.2.1 174 0 ((S_.2.2.1 140 0 n_.toNat) / 2).toNat) + 1 ≤ 1000 from ⟨by omega, by omega⟩)
                have hFx15_ : ai_fr (sx_W vw_358) S0_ (sm_aI S_ 174 0 n_.toNat ((S_.2.2.1 174 0 ((S_.2.2.1 140 0 n_.toNat) / 2).toNat) + 1)) := ai_fr_tr hF_ (ai_fr_aI rfl)
                refine sm_T_inc (a := 2) (z := 1) (v := n_) (w := n_ + 1) rfl rfl (by omega) (by omega) (by omega) ?_
                refine sm_T_go 1 (c1 := (2, [some (.inr (.inr (some (13, 0)))), some (.inl o_), some (.inl (n_ + 1)), some (.inl (S_.2.2.1 174 0 ((S_.2.2.1 140 0 n_.toNat) / 2).toNat)), some (.inl (S_.2.2.1 174 0 ((S_.2.2.1 141 0 n_.toNat) / 2).toNat))], [], sm_aI S_ 174 0 n_.toNat ((S_.2.2.1 174 0 ((S_.2.2.1 140 0 n_.toNat) / 2).toNat) + 1))) rfl ?_
                refine sm_T_wk [some (.inr (.inr (some (13, 0)))), some (.inl o_), some (.inl (n_ + 1)), none, none] (by exact ⟨rfl, rfl, rfl, trivial⟩) ?_
                refine ih_.1 (n_ + 1) (sm_aI S_ 174 0 n_.toNat ((S_.2.2.1 174 0 ((S_.2.2.1 140 0 n_.toNat) / 2).toNat) + 1)) hIx14_ hFx15_ ⟨?_, ?_, trivial⟩ ?_
                · omega
                · intro k9_ hk9_
                  rw [rd_eq]
                  by_cases z9_ : k9_ = n_.toNat
                  · rw [if_pos z9_]; first | (have lt9_ : n_ < (F_ : Int) := (by omega); rw [if_pos (by omega)]; omega) | (have ge9_ : (F_ : Int) ≤ n_ := (by omega); rw [if_neg (by omega)]; split at lo_ <;> split at hi_ <;> omega)
                  · rw [if_neg z9_]; exact h1_ k9_ (by omega)
                · omega
            · have cx10_ : ¬ ((S_.1 13 0 38) ≤ n_) := of_decide_eq_false cx10_
              exfalso; omega
          · have cx7_ : ¬ ((S_.1 13 0 38) ≤ n_) := of_decide_eq_false cx7_
            exfalso; omega
        · have cx4_ : ¬ ((S_.1 13 0 38) ≤ n_) := of_decide_eq_false cx4_
          refine sm_T_go 6 (c1 := (41, [some (.inr (.inr (some (13, 0)))), some (.inl o_), some (.inl n_), some (.inl 0), none], [.inl (S_.1 13 0 38), .inl n_], S_)) rfl ?_
          refine sm_T_br (a := 3) (z := 7) rfl (fun cx16_ => ?_) (fun cx16_ => ?_)
          · have cx16_ : (S_.1 13 0 38) ≤ n_ := of_decide_eq_true cx16_
            exfalso; omega
          · have cx16_ : ¬ ((S_.1 13 0 38) ≤ n_) := of_decide_eq_false cx16_
            refine sm_T_go 9 (c1 := (73, [some (.inr (.inr (some (13, 0)))), some (.inl o_), some (.inl n_), some (.inl 0), some (.inl 0)], [.inl (S_.1 13 0 38), .inl n_, .inl n_, .inr (.inr (some (174, 0)))], S_)) rfl ?_
            refine sm_T_br (a := 3) (z := 7) rfl (fun cx17_ => ?_) (fun cx17_ => ?_)
            · have cx17_ : (S_.1 13 0 38) ≤ n_ := of_decide_eq_true cx17_
              exfalso; omega
            · have cx17_ : ¬ ((S_.1 13 0 38) ≤ n_) := of_decide_eq_false cx17_
              refine sm_T_go 2 (c1 := (94, [some (.inr (.inr (some (13, 0)))), some (.inl o_), some (.inl n_), some (.inl 0), some (.inl 0)], [.inl 0, .inl n_, .inr (.inr (some (174, 0)))], S_)) rfl ?_
              refine sm_T_iast (n := 2048) rfl rfl (by omega) (by omega) ?_
              have hIx18_ : gi (sm_aI S_ 174 0 n_.toNat 0) := gi_aI hI_ (show 0 ≤ 0 ∧ 0 ≤ 1000 from ⟨by omega, by omega⟩)
              have hFx19_ : ai_fr (sx_W vw_358) S0_ (sm_aI S_ 174 0 n_.toNat 0) := ai_fr_tr hF_ (ai_fr_aI rfl)
              refine sm_T_inc (a := 2) (z := 1) (v := n_) (w := n_ + 1) rfl rfl (by omega) (by omega) (by omega) ?_
              refine sm_T_go 1 (c1 := (2, [some (.inr (.inr (some (13, 0)))), some (.inl o_), some (.inl (n_ + 1)), some (.inl 0), some (.inl 0)], [], sm_aI S_ 174 0 n_.toNat 0)) rfl ?_
              refine sm_T_wk [some (.inr (.inr (some (13, 0)))), some (.inl o_), some (.inl (n_ + 1)), none, none] (by exact ⟨rfl, rfl, rfl, trivial⟩) ?_
              refine ih_.1 (n_ + 1) (sm_aI S_ 174 0 n_.toNat 0) hIx18_ hFx19_ ⟨?_, ?_, trivial⟩ ?_
              · omega
              · intro k9_ hk9_
                rw [rd_eq]
                by_cases z9_ : k9_ = n_.toNat
                · rw [if_pos z9_]; first | (have lt9_ : n_ < (F_ : Int) := (by omega); rw [if_pos (by omega)]; omega) | (have ge9_ : (F_ : Int) ≤ n_ := (by omega); rw [if_neg (by omega)]; split at lo_ <;> split at hi_ <;> omega)
                · rw [if_neg z9_]; exact h1_ k9_ (by omega)
              · omega
    · rintro md_ k_ S_ hI_ hF_ ⟨h0_, h1_, -⟩ hm_
      have g1_ := hg_.1
      have g2_ := hg_.2.1
      have e37_ : S_.1 13 0 37 = S0_.1 13 0 37 := hF_.1 13 0 37 rfl
      have e38_ : S_.1 13 0 38 = S0_.1 13 0 38 := hF_.1 13 0 38 rfl
      have e53_ : S_.1 13 0 53 = S0_.1 13 0 53 := hF_.1 13 0 53 rfl
      have f40_ : S_.2.2.1 140 0 = S0_.2.2.1 140 0 := fr_arr hF_ rfl
      have f41_ : S_.2.2.1 141 0 = S0_.2.2.1 141 0 := fr_arr hF_ rfl
      have r1_ := hr_.1
      have r2_ := hr_.2.1
      have f75_ : S_.2.2.1 175 0 = S0_.2.2.1 175 0 := fr_arr hF_ rfl
      have f51_ : S_.2.2.1 151 0 = S0_.2.2.1 151 0 := fr_arr hF_ rfl
      refine sm_T_go 2 (c1 := (107, [some (.inr (.inr (some (13, 0)))), some (.inl o_), some (.inl md_), some (.inl k_), none], [.inl o_, .inl k_], S_)) rfl ?_
      refine sm_T_br (a := 3) (z := 44) rfl (fun cx1_ => ?_) (fun cx1_ => ?_)
      · have cx1_ : o_ ≤ k_ := of_decide_eq_true cx1_
        refine sm_T_go 2 (c1 := (153, [some (.inr (.inr (some (13, 0)))), some (.inl o_), some (.inl md_), some (.inl 0), none], [], S_)) rfl ?_
        refine ih_.2.2 md_ 0 S_ hI_ hF_ ⟨?_, ?_, trivial⟩ ?_
        · omega
        · exact h1_
        · omega
      · have cx1_ : ¬ (o_ ≤ k_) := of_decide_eq_false cx1_
        have ro_ := hr_.2.2.1 k_.toNat (by omega)
        rw [← f75_] at ro_
        have w9_ := h1_ (S_.2.2.1 175 0 k_.toNat / 2).toNat (by omega)
        refine sm_T_go 5 (c1 := (119, [some (.inr (.inr (some (13, 0)))), some (.inl o_), some (.inl md_), some (.inl k_), none], [.inl k_, .inr (.inr (some (175, 0))), .inr (.inr (some (174, 0)))], S_)) rfl ?_
        refine sm_T_iald (n := 16) rfl rfl (by omega) (by omega) ?_
        have bx2_ : 0 ≤ S_.2.2.1 175 0 k_.toNat ∧ S_.2.2.1 175 0 k_.toNat ≤ 2047 := hI_.2 175 0 _
        refine sm_T_go 1 (c1 := (121, [some (.inr (.inr (some (13, 0)))), some (.inl o_), some (.inl md_), some (.inl k_), none], [.inl 1, .inl (S_.2.2.1 175 0 k_.toNat), .inr (.inr (some (174, 0)))], S_)) rfl ?_
        refine sm_T_bin (w := ((S_.2.2.1 175 0 k_.toNat) / 2)) rfl (bi_shr (k := 1) (by decide) (by omega) (by omega)) ?_
        refine sm_T_iald (n := 2048) rfl rfl (by omega) (by omega) ?_
        have bx3_ : 0 ≤ S_.2.2.1 174 0 ((S_.2.2.1 175 0 k_.toNat) / 2).toNat ∧ S_.2.2.1 174 0 ((S_.2.2.1 175 0 k_.toNat) / 2).toNat ≤ 1000 := hI_.2 174 0 _
        refine sm_T_go 1 (c1 := (124, [some (.inr (.inr (some (13, 0)))), some (.inl o_), some (.inl md_), some (.inl k_), none], [.inl md_, .inl (S_.2.2.1 174 0 ((S_.2.2.1 175 0 k_.toNat) / 2).toNat)], S_)) rfl ?_
        refine sm_T_br (a := 5) (z := 19) rfl (fun cx4_ => ?_) (fun cx4_ => ?_)
        · have cx4_ : (S_.2.2.1 174 0 ((S_.2.2.1 175 0 k_.toNat) / 2).toNat) ≤ md_ := of_decide_eq_true cx4_
          refine sm_T_go 2 (c1 := (145, [some (.inr (.inr (some (13, 0)))), some (.inl o_), some (.inl md_), some (.inl k_), none], [], S_)) rfl ?_
          refine sm_T_inc (a := 3) (z := 1) (v := k_) (w := k_ + 1) rfl rfl (by omega) (by omega) (by omega) ?_
          refine sm_T_go 1 (c1 := (105, [some (.inr (.inr (some (13, 0)))), some (.inl o_), some (.inl md_), some (.inl (k_ + 1)), none], [], S_)) rfl ?_
          refine ih_.2.1 md_ (k_ + 1) S_ hI_ hF_ ⟨?_, ?_, trivial⟩ ?_
          · omega
          · exact h1_
          · omega
        · have cx4_ : ¬ ((S_.2.2.1 174 0 ((S_.2.2.1 175 0 k_.toNat) / 2).toNat) ≤ md_) := of_decide_eq_false cx4_
          refine sm_T_go 5 (c1 := (136, [some (.inr (.inr (some (13, 0)))), some (.inl o_), some (.inl md_), some (.inl k_), none], [.inl k_, .inr (.inr (some (175, 0))), .inr (.inr (some (174, 0)))], S_)) rfl ?_
          refine sm_T_iald (n := 16) rfl rfl (by omega) (by omega) ?_
          refine sm_T_go 1 (c1 := (138, [some (.inr (.inr (some (13, 0)))), some (.inl o_), some (.inl md_), some (.inl k_), none], [.inl 1, .inl (S_.2.2.1 175 0 k_.toNat), .inr (.inr (some (174, 0)))], S_)) rfl ?_
          refine sm_T_bin (w := ((S_.2.2.1 175 0 k_.toNat) / 2)) rfl (bi_shr (k := 1) (by decide) (by omega) (by omega)) ?_
          refine sm_T_iald (n := 2048) rfl rfl (by omega) (by omega) ?_
          refine sm_T_go 2 (c1 := (145, [some (.inr (.inr (some (13, 0)))), some (.inl o_), some (.inl (S_.2.2.1 174 0 ((S_.2.2.1 175 0 k_.toNat) / 2).toNat)), some (.inl k_), none], [], S_)) rfl ?_
          refine sm_T_inc (a := 3) (z := 1) (v := k_) (w := k_ + 1) rfl rfl (by omega) (by omega) (by omega) ?_
          refine sm_T_go 1 (c1 := (105, [some (.inr (.inr (some (13, 0)))), some (.inl o_), some (.inl (S_.2.2.1 174 0 ((S_.2.2.1 175 0 k_.toNat) / 2).toNat)), some (.inl (k_ + 1)), none], [], S_)) rfl ?_
          refine ih_.2.1 (S_.2.2.1 174 0 ((S_.2.2.1 175 0 k_.toNat) / 2).toNat) (k_ + 1) S_ hI_ hF_ ⟨?_, ?_, trivial⟩ ?_
          · omega
          · exact h1_
          · omega
    · rintro md_ k_ S_ hI_ hF_ ⟨h0_, h1_, -⟩ hm_
      have g1_ := hg_.1
      have g2_ := hg_.2.1
      have e37_ : S_.1 13 0 37 = S0_.1 13 0 37 := hF_.1 13 0 37 rfl
      have e38_ : S_.1 13 0 38 = S0_.1 13 0 38 := hF_.1 13 0 38 rfl
      have e53_ : S_.1 13 0 53 = S0_.1 13 0 53 := hF_.1 13 0 53 rfl
      have f40_ : S_.2.2.1 140 0 = S0_.2.2.1 140 0 := fr_arr hF_ rfl
      have f41_ : S_.2.2.1 141 0 = S0_.2.2.1 141 0 := fr_arr hF_ rfl
      have r1_ := hr_.1
      have r2_ := hr_.2.1
      have f75_ : S_.2.2.1 175 0 = S0_.2.2.1 175 0 := fr_arr hF_ rfl
      have f51_ : S_.2.2.1 151 0 = S0_.2.2.1 151 0 := fr_arr hF_ rfl
      have bx1_ : 0 ≤ S_.1 13 0 53 ∧ S_.1 13 0 53 ≤ 6 := hI_.1 13 0 53 rfl
      refine sm_T_go 3 (c1 := (158, [some (.inr (.inr (some (13, 0)))), some (.inl o_), some (.inl md_), some (.inl k_), none], [.inl (S_.1 13 0 53), .inl k_], S_)) rfl ?_
      refine sm_T_br (a := 3) (z := 44) rfl (fun cx2_ => ?_) (fun cx2_ => ?_)
      · have cx2_ : (S_.1 13 0 53) ≤ k_ := of_decide_eq_true cx2_
        refine sm_T_go 1 (c1 := (203, [some (.inr (.inr (some (13, 0)))), some (.inl o_), some (.inl md_), some (.inl k_), none], [.inl md_], S_)) rfl ?_
        refine sm_T_ri rfl ⟨_, _, rfl, _, rfl, hI_, hF_, ?_⟩
        omega
      · have cx2_ : ¬ ((S_.1 13 0 53) ≤ k_) := of_decide_eq_false cx2_
        have ro_ := hr_.2.2.2 k_.toNat (by omega)
        rw [← f51_] at ro_
        have w9_ := h1_ (S_.2.2.1 151 0 k_.toNat / 2).toNat (by omega)
        refine sm_T_go 5 (c1 := (170, [some (.inr (.inr (some (13, 0)))), some (.inl o_), some (.inl md_), some (.inl k_), none], [.inl k_, .inr (.inr (some (151, 0))), .inr (.inr (some (174, 0)))], S_)) rfl ?_
        refine sm_T_iald (n := 1024) rfl rfl (by omega) (by omega) ?_
        have bx3_ : 0 ≤ S_.2.2.1 151 0 k_.toNat ∧ S_.2.2.1 151 0 k_.toNat ≤ 2047 := hI_.2 151 0 _
        refine sm_T_go 1 (c1 := (172, [some (.inr (.inr (some (13, 0)))), some (.inl o_), some (.inl md_), some (.inl k_), none], [.inl 1, .inl (S_.2.2.1 151 0 k_.toNat), .inr (.inr (some (174, 0)))], S_)) rfl ?_
        refine sm_T_bin (w := ((S_.2.2.1 151 0 k_.toNat) / 2)) rfl (bi_shr (k := 1) (by decide) (by omega) (by omega)) ?_
        refine sm_T_iald (n := 2048) rfl rfl (by omega) (by omega) ?_
        have bx4_ : 0 ≤ S_.2.2.1 174 0 ((S_.2.2.1 151 0 k_.toNat) / 2).toNat ∧ S_.2.2.1 174 0 ((S_.2.2.1 151 0 k_.toNat) / 2).toNat ≤ 1000 := hI_.2 174 0 _
        refine sm_T_go 1 (c1 := (175, [some (.inr (.inr (some (13, 0)))), some (.inl o_), some (.inl md_), some (.inl k_), none], [.inl md_, .inl (S_.2.2.1 174 0 ((S_.2.2.1 151 0 k_.toNat) / 2).toNat)], S_)) rfl ?_
        refine sm_T_br (a := 5) (z := 19) rfl (fun cx5_ => ?_) (fun cx5_ => ?_)
        · have cx5_ : (S_.2.2.1 174 0 ((S_.2.2.1 151 0 k_.toNat) / 2).toNat) ≤ md_ := of_decide_eq_true cx5_
          refine sm_T_go 2 (c1 := (196, [some (.inr (.inr (some (13, 0)))), some (.inl o_), some (.inl md_), some (.inl k_), none], [], S_)) rfl ?_
          refine sm_T_inc (a := 3) (z := 1) (v := k_) (w := k_ + 1) rfl rfl (by omega) (by omega) (by omega) ?_
          refine sm_T_go 1 (c1 := (153, [some (.inr (.inr (some (13, 0)))), some (.inl o_), some (.inl md_), some (.inl (k_ + 1)), none], [], S_)) rfl ?_
          refine ih_.2.2 md_ (k_ + 1) S_ hI_ hF_ ⟨?_, ?_, trivial⟩ ?_
          · omega
          · exact h1_
          · omega
        · have cx5_ : ¬ ((S_.2.2.1 174 0 ((S_.2.2.1 151 0 k_.toNat) / 2).toNat) ≤ md_) := of_decide_eq_false cx5_
          refine sm_T_go 5 (c1 := (187, [some (.inr (.inr (some (13, 0)))), some (.inl o_), some (.inl md_), some (.inl k_), none], [.inl k_, .inr (.inr (some (151, 0))), .inr (.inr (some (174, 0)))], S_)) rfl ?_
          refine sm_T_iald (n := 1024) rfl rfl (by omega) (by omega) ?_
          refine sm_T_go 1 (c1 := (189, [some (.inr (.inr (some (13, 0)))), some (.inl o_), some (.inl md_), some (.inl k_), none], [.inl 1, .inl (S_.2.2.1 151 0 k_.toNat), .inr (.inr (some (174, 0)))], S_)) rfl ?_
          refine sm_T_bin (w := ((S_.2.2.1 151 0 k_.toNat) / 2)) rfl (bi_shr (k := 1) (by decide) (by omega) (by omega)) ?_
          refine sm_T_iald (n := 2048) rfl rfl (by omega) (by omega) ?_
          refine sm_T_go 2 (c1 := (196, [some (.inr (.inr (some (13, 0)))), some (.inl o_), some (.inl (S_.2.2.1 174 0 ((S_.2.2.1 151 0 k_.toNat) / 2).toNat)), some (.inl k_), none], [], S_)) rfl ?_
          refine sm_T_inc (a := 3) (z := 1) (v := k_) (w := k_ + 1) rfl rfl (by omega) (by omega) (by omega) ?_
          refine sm_T_go 1 (c1 := (153, [some (.inr (.inr (some (13, 0)))), some (.inl o_), some (.inl (S_.2.2.1 174 0 ((S_.2.2.1 151 0 k_.toNat) / 2).toNat)), some (.inl (k_ + 1)), none], [], S_)) rfl ?_
          refine ih_.2.2 (S_.2.2.1 174 0 ((S_.2.2.1 151 0 k_.toNat) / 2).toNat) (k_ + 1) S_ hI_ hF_ ⟨?_, ?_, trivial⟩ ?_
          · omega
          · exact h1_
          · omega
set_option maxHeartbeats 2000000 in
set_option maxRecDepth 20000 in
theorem vc_358 {sc_ : Nat × (Nat → Int)} (o_ : Int) (F_ : Nat) (S0_ : sm_S) (hI_ : gi S0_) (hg_ : rgr F_ S0_) (hr_ : rrt o_ S0_) : sm_T (mt_P sc_) 0 358 (0, [some (.inr (.inr (some (13, 0)))), some (.inl o_), none, none, none], [], S0_) (fun ro9_ => ∃ u_ S1_, ro9_ = (.inl u_, S1_, 0) ∧ vq_358 o_ F_ S0_ u_ S1_) := by
  have hF_ : ai_fr (sx_W vw_358) S0_ S0_ := ai_fr_rf
  refine sm_T_go 2 (c1 := (2, [some (.inr (.inr (some (13, 0)))), some (.inl o_), some (.inl 0), none, none], [], S0_)) rfl ?_
  refine (vl_358 o_ F_ S0_ hg_ hr_ _).1 0 S0_ hI_ hF_ ⟨?_, ?_, trivial⟩ (Nat.lt_succ_self _)
  · (have g1_ := hg_.1; have g2_ := hg_.2.1; omega)
  · (intro k9_ hk9_; omega)
end
/-! 99.zi3c -/
section
/-! M_.sweptLiteral -/
def vw_355 : sx_Wl := ([], [], [])
def vq_355 (l_ : Int) (S0_ : sm_S) (u_ : Option sm_V) (S1_ : sm_S) : Prop := S0_ = S1_ ∧ ∃ v_ : Int, u_ = some (.inl v_) ∧ (v_ = i_xor (S0_.2.2.1 172 0 (l_ / 2).toNat) (l_ % 2))
set_option maxHeartbeats 400000 in
theorem vc_355 {sc_ : Nat × (Nat → Int)} (l_ : Int) (S0_ : sm_S) (hI_ : gi S0_) (hl_ : 0 ≤ l_ ∧ l_ ≤ 2047) : sm_T (mt_P sc_) 0 355 (0, [some (.inr (.inr (some (13, 0)))), some (.inl l_)], [], S0_) (fun ro9_ => ∃ u_ S1_, ro9_ = (.inl u_, S1_, 0) ∧ vq_355 l_ S0_ u_ S1_) := by
  have hF_ : ai_fr (sx_W vw_355) S0_ S0_ := ai_fr_rf
  refine sm_T_go 4 (c1 := (6, [some (.inr (.inr (some (13, 0)))), some (.inl l_)], [.inl 1, .inl l_, .inr (.inr (some (172, 0)))], S0_)) rfl ?_
  refine sm_T_bin (w := (l_ / 2)) rfl (bi_shr (k := 1) (by decide) (by omega) (by omega)) ?_
  refine sm_T_iald (n := 2048) rfl rfl (by omega) (by omega) ?_
  have bx1_ : 0 ≤ S0_.2.2.1 172 0 (l_ / 2).toNat ∧ S0_.2.2.1 172 0 (l_ / 2).toNat ≤ 2025 := hI_.2 172 0 _
  refine sm_T_go 2 (c1 := (10, [some (.inr (.inr (some (13, 0)))), some (.inl l_)], [.inl 1, .inl l_, .inl (S0_.2.2.1 172 0 (l_ / 2).toNat)], S0_)) rfl ?_
  refine sm_T_bin (w := (l_ % 2)) rfl (bi_msk (k := 1) (by decide)) ?_
  refine sm_T_bin (w := (i_xor (S0_.2.2.1 172 0 (l_ / 2).toNat) (l_ % 2))) rfl rfl ?_
  refine sm_T_ri rfl ⟨_, _, rfl, rfl, _, rfl, ?_⟩
  omega
end
/-! 99.zi3d -/
section
/-! M_.countNeeded -/
def vw_356 : sx_Wl := ([], [173], [])
def vq_356 (o_ : Int) (F_ : Nat) (S0_ : sm_S) (u_ : Option sm_V) (S1_ : sm_S) : Prop := ∃ v_ : Int, u_ = some (.inl v_) ∧ gi S1_ ∧ ai_fr (sx_W vw_356) S0_ S1_ ∧ (0 ≤ v_ ∧ v_ ≤ 1000)
set_option maxHeartbeats 1500000 in
theorem vl_356 {sc_ : Nat × (Nat → Int)} (o_ : Int) (F_ : Nat) (S0_ : sm_S) (hg_ : rgr F_ S0_) (hr_ : rrt o_ S0_) (hs_ : rsw F_ S0_) : ∀ nn_ : Nat, (∀ (k_ : Int) (S_ : sm_S), gi S_ → ai_fr (sx_W vw_356) S0_ S_ → ((0 ≤ k_ ∧ k_ ≤ S0_.1 13 0 37) ∧ True) → ((9000 - k_).toNat) < nn_ → sm_T (mt_P sc_) 1 356 (2, [some (.inr (.inr (some (13, 0)))), some (.inl o_), some (.inl k_), none], [], S_) (fun ro9_ => ∃ u_ S1_, ro9_ = (.inl u_, S1_, 0) ∧ vq_356 o_ F_ S0_ u_ S1_)) ∧ (∀ (k_ : Int) (S_ : sm_S), gi S_ → ai_fr (sx_W vw_356) S0_ S_ → ((0 ≤ k_ ∧ k_ ≤ 16) ∧ True) → ((5000 - k_).toNat) < nn_ → sm_T (mt_P sc_) 1 356 (25, [some (.inr (.inr (some (13, 0)))), some (.inl o_), some (.inl k_), none], [], S_) (fun ro9_ => ∃ u_ S1_, ro9_ = (.inl u_, S1_, 0) ∧ vq_356 o_ F_ S0_ u_ S1_)) ∧ (∀ (k_ : Int) (S_ : sm_S), gi S_ → ai_fr (sx_W vw_356) S0_ S_ → ((0 ≤ k_ ∧ k_ ≤ 6) ∧ True) → ((4000 - k_).toNat) < nn_ → sm_T (mt_P sc_) 1 356 (56, [some (.inr (.inr (some (13, 0)))), some (.inl o_), some (.inl k_), none], [], S_) (fun ro9_ => ∃ u_ S1_, ro9_ = (.inl u_, S1_, 0) ∧ vq_356 o_ F_ S0_ u_ S1_)) ∧ (∀ (c_ : Int) (n_ : Int) (S_ : sm_S), gi S_ → ai_fr (sx_W vw_356) S0_ S_ → (((F_ : Int) - 1 ≤ n_ ∧ n_ < S0_.1 13 0 37 ∧ 0 ≤ c_ ∧ c_ ≤ S0_.1 13 0 37 - 1 - n_) ∧ True) → ((n_ + 1).toNat) < nn_ → sm_T (mt_P sc_) 1 356 (97, [some (.inr (.inr (some (13, 0)))), some (.inl o_), some (.inl c_), some (.inl n_)], [], S_) (fun ro9_ => ∃ u_ S1_, ro9_ = (.inl u_, S1_, 0) ∧ vq_356 o_ F_ S0_ u_ S1_)) := by
  intro nn_
  induction nn_ with
  | zero => exact ⟨fun _ _ _ _ _ h_ => absurd h_ (Nat.not_lt_zero _), fun _ _ _ _ _ h_ => absurd h_ (Nat.not_lt_zero _), fun _ _ _ _ _ h_ => absurd h_ (Nat.not_lt_zero _), fun _ _ _ _ _ _ h_ => absurd h_ (Nat.not_lt_zero _)⟩
  | succ nn_ ih_ =>
    refine ⟨?_, ?_, ?_, ?_⟩
    · rintro k_ S_ hI_ hF_ ⟨h0_, -⟩ hm_
      have g1_ := hg_.1
      have g2_ := hg_.2.1
      have e37_ : S_.1 13 0 37 = S0_.1 13 0 37 := hF_.1 13 0 37 rfl
      have e38_ : S_.1 13 0 38 = S0_.1 13 0 38 := hF_.1 13 0 38 rfl
      have e53_ : S_.1 13 0 53 = S0_.1 13 0 53 := hF_.1 13 0 53 rfl
      have f40_ : S_.2.2.1 140 0 = S0_.2.2.1 140 0 := fr_arr hF_ rfl
      have f41_ : S_.2.2.1 141 0 = S0_.2.2.1 141 0 := fr_arr hF_ rfl
      have r1_ := hr_.1
      have r2_ := hr_.2.1
      have f75_ : S_.2.2.1 175 0 = S0_.2.2.1 175 0 := fr_arr hF_ rfl
      have f51_ : S_.2.2.1 151 0 = S0_.2.2.1 151 0 := fr_arr hF_ rfl
      have f72_ : S_.2.2.1 172 0 = S0_.2.2.1 172 0 := fr_arr hF_ rfl
      have n13_ : S0_.1 13 0 37 ≤ 1013 := by omega
      have bx1_ : 0 ≤ S_.1 13 0 37 ∧ S_.1 13 0 37 ≤ 1014 := hI_.1 13 0 37 rfl
      refine sm_T_go 3 (c1 := (7, [some (.inr (.inr (some (13, 0)))), some (.inl o_), some (.inl k_), none], [.inl (S_.1 13 0 37), .inl k_], S_)) rfl ?_
      refine sm_T_br (a := 3) (z := 16) rfl (fun cx2_ => ?_) (fun cx2_ => ?_)
      · have cx2_ : (S_.1 13 0 37) ≤ k_ := of_decide_eq_true cx2_
        refine sm_T_go 2 (c1 := (25, [some (.inr (.inr (some (13, 0)))), some (.inl o_), some (.inl 0), none], [], S_)) rfl ?_
        refine ih_.2.1 0 S_ hI_ hF_ ⟨?_, trivial⟩ ?_
        · omega
        · omega
      · have cx2_ : ¬ ((S_.1 13 0 37) ≤ k_) := of_decide_eq_false cx2_
        refine sm_T_go 4 (c1 := (16, [some (.inr (.inr (some (13, 0)))), some (.inl o_), some (.inl k_), none], [.inl 0, .inl k_, .inr (.inr (some (173, 0)))], S_)) rfl ?_
        refine sm_T_zas1 (n := 2048) rfl rfl (by omega) (by omega) (by omega) ?_
        have hIx3_ : gi (sm_aI S_ 173 0 k_.toNat 0) := gi_aI hI_ (show 0 ≤ 0 ∧ 0 ≤ 1 from ⟨by omega, by omega⟩)
        have hFx4_ : ai_fr (sx_W vw_356) S0_ (sm_aI S_ 173 0 k_.toNat 0) := ai_fr_tr hF_ (ai_fr_aI rfl)
        refine sm_T_inc (a := 2) (z := 1) (v := k_) (w := k_ + 1) rfl rfl (by omega) (by omega) (by omega) ?_
        refine sm_T_go 1 (c1 := (2, [some (.inr (.inr (some (13, 0)))), some (.inl o_), some (.inl (k_ + 1)), none], [], sm_aI S_ 173 0 k_.toNat 0)) rfl ?_
        refine ih_.1 (k_ + 1) (sm_aI S_ 173 0 k_.toNat 0) hIx3_ hFx4_ ⟨?_, trivial⟩ ?_
        · omega
        · omega
    · rintro k_ S_ hI_ hF_ ⟨h0_, -⟩ hm_
      have g1_ := hg_.1
      have g2_ := hg_.2.1
      have e37_ : S_.1 13 0 37 = S0_.1 13 0 37 := hF_.1 13 0 37 rfl
      have e38_ : S_.1 13 0 38 = S0_.1 13 0 38 := hF_.1 13 0 38 rfl
      have e53_ : S_.1 13 0 53 = S0_.1 13 0 53 := hF_.1 13 0 53 rfl
      have f40_ : S_.2.2.1 140 0 = S0_.2.2.1 140 0 := fr_arr hF_ rfl
      have f41_ : S_.2.2.1 141 0 = S0_.2.2.1 141 0 := fr_arr hF_ rfl
      have r1_ := hr_.1
      have r2_ := hr_.2.1
      have f75_ : S_.2.2.1 175 0 = S0_.2.2.1 175 0 := fr_arr hF_ rfl
      have f51_ : S_.2.2.1 151 0 = S0_.2.2.1 151 0 := fr_arr hF_ rfl
      have f72_ : S_.2.2.1 172 0 = S0_.2.2.1 172 0 := fr_arr hF_ rfl
      have n13_ : S0_.1 13 0 37 ≤ 1013 := by omega
      refine sm_T_go 2 (c1 := (27, [some (.inr (.inr (some (13, 0)))), some (.inl o_), some (.inl k_), none], [.inl o_, .inl k_], S_)) rfl ?_
      refine sm_T_br (a := 3) (z := 27) rfl (fun cx1_ => ?_) (fun cx1_ => ?_)
      · have cx1_ : o_ ≤ k_ := of_decide_eq_true cx1_
        refine sm_T_go 2 (c1 := (56, [some (.inr (.inr (some (13, 0)))), some (.inl o_), some (.inl 0), none], [], S_)) rfl ?_
        refine ih_.2.2.1 0 S_ hI_ hF_ ⟨?_, trivial⟩ ?_
        · omega
        · omega
      · have cx1_ : ¬ (o_ ≤ k_) := of_decide_eq_false cx1_
        have ro_ := hr_.2.2.1 k_.toNat (by omega)
        rw [← f75_] at ro_
        refine sm_T_go 6 (c1 := (40, [some (.inr (.inr (some (13, 0)))), some (.inl o_), some (.inl k_), none], [.inl k_, .inr (.inr (some (175, 0))), .inr (.inr (some (13, 0))), .inr (.inr (some (173, 0)))], S_)) rfl ?_
        refine sm_T_iald (n := 16) rfl rfl (by omega) (by omega) ?_
        have bx2_ : 0 ≤ S_.2.2.1 175 0 k_.toNat ∧ S_.2.2.1 175 0 k_.toNat ≤ 2047 := hI_.2 175 0 _
        refine sm_T_cal (d1 := 0) (Q1 := vq_355 (S_.2.2.1 175 0 k_.toNat) S_) rfl rfl (by decide) (vc_355 (S_.2.2.1 175 0 k_.toNat) S_ hI_ (by omega)) (fun u_ Sx3_ px6_ => ?_)
        obtain ⟨rfl, vx8_, rfl, px6_⟩ := px6_
        have e41_ := px6_
        rw [f75_] at ro_
        rw [f72_, f75_] at e41_
        have sw41_ := rsl_n hs_ (l_ := S0_.2.2.1 175 0 k_.toNat) (by omega) (by omega) n13_
        rw [← e41_] at sw41_
        refine sm_T_go 1 (c1 := (45, [some (.inr (.inr (some (13, 0)))), some (.inl o_), some (.inl k_), none], [.inl 1, .inl vx8_, .inr (.inr (some (173, 0)))], S_)) rfl ?_
        refine sm_T_bin (w := (vx8_ / 2)) rfl (bi_shr (k := 1) (by decide) (by omega) (by omega)) ?_
        refine sm_T_go 1 (c1 := (47, [some (.inr (.inr (some (13, 0)))), some (.inl o_), some (.inl k_), none], [.inl 1, .inl (vx8_ / 2), .inr (.inr (some (173, 0)))], S_)) rfl ?_
        refine sm_T_zas1 (n := 2048) rfl rfl (by omega) (by omega) (by omega) ?_
        have hIx9_ : gi (sm_aI S_ 173 0 (vx8_ / 2).toNat 1) := gi_aI hI_ (show 0 ≤ 1 ∧ 1 ≤ 1 from ⟨by omega, by omega⟩)
        have hFx10_ : ai_fr (sx_W vw_356) S0_ (sm_aI S_ 173 0 (vx8_ / 2).toNat 1) := ai_fr_tr hF_ (ai_fr_aI rfl)
        refine sm_T_inc (a := 2) (z := 1) (v := k_) (w := k_ + 1) rfl rfl (by omega) (by omega) (by omega) ?_
        refine sm_T_go 1 (c1 := (25, [some (.inr (.inr (some (13, 0)))), some (.inl o_), some (.inl (k_ + 1)), none], [], sm_aI S_ 173 0 (vx8_ / 2).toNat 1)) rfl ?_
        refine ih_.2.1 (k_ + 1) (sm_aI S_ 173 0 (vx8_ / 2).toNat 1) hIx9_ hFx10_ ⟨?_, trivial⟩ ?_
        · omega
        · omega
    · rintro k_ S_ hI_ hF_ ⟨h0_, -⟩ hm_
      have g1_ := hg_.1
      have g2_ := hg_.2.1
      have e37_ : S_.1 13 0 37 = S0_.1 13 0 37 := hF_.1 13 0 37 rfl
      have e38_ : S_.1 13 0 38 = S0_.1 13 0 38 := hF_.1 13 0 38 rfl
      have e53_ : S_.1 13 0 53 = S0_.1 13 0 53 := hF_.1 13 0 53 rfl
      have f40_ : S_.2.2.1 140 0 = S0_.2.2.1 140 0 := fr_arr hF_ rfl
      have f41_ : S_.2.2.1 141 0 = S0_.2.2.1 141 0 := fr_arr hF_ rfl
      have r1_ := hr_.1
      have r2_ := hr_.2.1
      have f75_ : S_.2.2.1 175 0 = S0_.2.2.1 175 0 := fr_arr hF_ rfl
      have f51_ : S_.2.2.1 151 0 = S0_.2.2.1 151 0 := fr_arr hF_ rfl
      have f72_ : S_.2.2.1 172 0 = S0_.2.2.1 172 0 := fr_arr hF_ rfl
      have n13_ : S0_.1 13 0 37 ≤ 1013 := by omega
      have bx1_ : 0 ≤ S_.1 13 0 53 ∧ S_.1 13 0 53 ≤ 6 := hI_.1 13 0 53 rfl
      refine sm_T_go 3 (c1 := (61, [some (.inr (.inr (some (13, 0)))), some (.inl o_), some (.inl k_), none], [.inl (S_.1 13 0 53), .inl k_], S_)) rfl ?_
      refine sm_T_br (a := 3) (z := 27) rfl (fun cx2_ => ?_) (fun cx2_ => ?_)
      · have cx2_ : (S_.1 13 0 53) ≤ k_ := of_decide_eq_true cx2_
        have bx3_ : 0 ≤ S_.1 13 0 37 ∧ S_.1 13 0 37 ≤ 1014 := hI_.1 13 0 37 rfl
        refine sm_T_go 5 (c1 := (95, [some (.inr (.inr (some (13, 0)))), some (.inl o_), some (.inl 0), none], [.inl 1, .inl (S_.1 13 0 37)], S_)) rfl ?_
        refine sm_T_bin (w := (S_.1 13 0 37) - 1) rfl (bi_sub (by omega) (by omega) (by omega)) ?_
        refine sm_T_go 1 (c1 := (97, [some (.inr (.inr (some (13, 0)))), some (.inl o_), some (.inl 0), some (.inl ((S_.1 13 0 37) - 1))], [], S_)) rfl ?_
        refine ih_.2.2.2 0 ((S_.1 13 0 37) - 1) S_ hI_ hF_ ⟨?_, trivial⟩ ?_
        · omega
        · omega
      · have cx2_ : ¬ ((S_.1 13 0 53) ≤ k_) := of_decide_eq_false cx2_
        have ro_ := hr_.2.2.2 k_.toNat (by omega)
        rw [← f51_] at ro_
        refine sm_T_go 6 (c1 := (74, [some (.inr (.inr (some (13, 0)))), some (.inl o_), some (.inl k_), none], [.inl k_, .inr (.inr (some (151, 0))), .inr (.inr (some (13, 0))), .inr (.inr (some (173, 0)))], S_)) rfl ?_
        refine sm_T_iald (n := 1024) rfl rfl (by omega) (by omega) ?_
        have bx4_ : 0 ≤ S_.2.2.1 151 0 k_.toNat ∧ S_.2.2.1 151 0 k_.toNat ≤ 2047 := hI_.2 151 0 _
        refine sm_T_cal (d1 := 0) (Q1 := vq_355 (S_.2.2.1 151 0 k_.toNat) S_) rfl rfl (by decide) (vc_355 (S_.2.2.1 151 0 k_.toNat) S_ hI_ (by omega)) (fun u_ Sx5_ px8_ => ?_)
        obtain ⟨rfl, vx10_, rfl, px8_⟩ := px8_
        have e75_ := px8_
        rw [f51_] at ro_
        rw [f72_, f51_] at e75_
        have sw75_ := rsl_n hs_ (l_ := S0_.2.2.1 151 0 k_.toNat) (by omega) (by omega) n13_
        rw [← e75_] at sw75_
        refine sm_T_go 1 (c1 := (79, [some (.inr (.inr (some (13, 0)))), some (.inl o_), some (.inl k_), none], [.inl 1, .inl vx10_, .inr (.inr (some (173, 0)))], S_)) rfl ?_
        refine sm_T_bin (w := (vx10_ / 2)) rfl (bi_shr (k := 1) (by decide) (by omega) (by omega)) ?_
        refine sm_T_go 1 (c1 := (81, [some (.inr (.inr (some (13, 0)))), some (.inl o_), some (.inl k_), none], [.inl 1, .inl (vx10_ / 2), .inr (.inr (some (173, 0)))], S_)) rfl ?_
        refine sm_T_zas1 (n := 2048) rfl rfl (by omega) (by omega) (by omega) ?_
        have hIx11_ : gi (sm_aI S_ 173 0 (vx10_ / 2).toNat 1) := gi_aI hI_ (show 0 ≤ 1 ∧ 1 ≤ 1 from ⟨by omega, by omega⟩)
        have hFx12_ : ai_fr (sx_W vw_356) S0_ (sm_aI S_ 173 0 (vx10_ / 2).toNat 1) := ai_fr_tr hF_ (ai_fr_aI rfl)
        refine sm_T_inc (a := 2) (z := 1) (v := k_) (w := k_ + 1) rfl rfl (by omega) (by omega) (by omega) ?_
        refine sm_T_go 1 (c1 := (56, [some (.inr (.inr (some (13, 0)))), some (.inl o_), some (.inl (k_ + 1)), none], [], sm_aI S_ 173 0 (vx10_ / 2).toNat 1)) rfl ?_
        refine ih_.2.2.1 (k_ + 1) (sm_aI S_ 173 0 (vx10_ / 2).toNat 1) hIx11_ hFx12_ ⟨?_, trivial⟩ ?_
        · omega
        · omega
    · rintro c_ n_ S_ hI_ hF_ ⟨h0_, -⟩ hm_
      have g1_ := hg_.1
      have g2_ := hg_.2.1
      have e37_ : S_.1 13 0 37 = S0_.1 13 0 37 := hF_.1 13 0 37 rfl
      have e38_ : S_.1 13 0 38 = S0_.1 13 0 38 := hF_.1 13 0 38 rfl
      have e53_ : S_.1 13 0 53 = S0_.1 13 0 53 := hF_.1 13 0 53 rfl
      have f40_ : S_.2.2.1 140 0 = S0_.2.2.1 140 0 := fr_arr hF_ rfl
      have f41_ : S_.2.2.1 141 0 = S0_.2.2.1 141 0 := fr_arr hF_ rfl
      have r1_ := hr_.1
      have r2_ := hr_.2.1
      have f75_ : S_.2.2.1 175 0 = S0_.2.2.1 175 0 := fr_arr hF_ rfl
      have f51_ : S_.2.2.1 151 0 = S0_.2.2.1 151 0 := fr_arr hF_ rfl
      have f72_ : S_.2.2.1 172 0 = S0_.2.2.1 172 0 := fr_arr hF_ rfl
      have n13_ : S0_.1 13 0 37 ≤ 1013 := by omega
      have bx1_ : 0 ≤ S_.1 13 0 38 ∧ S_.1 13 0 38 ≤ 19 := hI_.1 13 0 38 rfl
      refine sm_T_go 3 (c1 := (102, [some (.inr (.inr (some (13, 0)))), some (.inl o_), some (.inl c_), some (.inl n_)], [.inl (S_.1 13 0 38), .inl n_], S_)) rfl ?_
      refine sm_T_br (a := 2) (z := 57) rfl (fun cx2_ => ?_) (fun cx2_ => ?_)
      · have cx2_ : n_ < (S_.1 13 0 38) := of_decide_eq_true cx2_
        refine sm_T_go 1 (c1 := (160, [some (.inr (.inr (some (13, 0)))), some (.inl o_), some (.inl c_), some (.inl n_)], [.inl c_], S_)) rfl ?_
        refine sm_T_ri rfl ⟨_, _, rfl, _, rfl, hI_, hF_, ?_⟩
        omega
      · have cx2_ : ¬ (n_ < (S_.1 13 0 38)) := of_decide_eq_false cx2_
        have gn_ := hg_.2.2 n_.toNat (by omega) (by omega)
        rw [← f40_, ← f41_] at gn_
        refine sm_T_go 3 (c1 := (110, [some (.inr (.inr (some (13, 0)))), some (.inl o_), some (.inl c_), some (.inl n_)], [.inl n_, .inr (.inr (some (173, 0)))], S_)) rfl ?_
        refine sm_T_zald (n := 2048) rfl rfl (by omega) (by omega) ?_
        have bx3_ : 0 ≤ S_.2.2.1 173 0 n_.toNat ∧ S_.2.2.1 173 0 n_.toNat ≤ 1 := hI_.2 173 0 _
        refine sm_T_b0 (a := 0) (z := 42) rfl (fun cx4_ => ?_) (fun cx4_ => ?_)
        · have cx4_ : (S_.2.2.1 173 0 n_.toNat) = 0 := of_decide_eq_true cx4_
          refine sm_T_inc (a := 3) (z := (-1)) (v := n_) (w := n_ - 1) rfl rfl (by omega) (by omega) (by omega) ?_
          refine sm_T_go 1 (c1 := (97, [some (.inr (.inr (some (13, 0)))), some (.inl o_), some (.inl c_), some (.inl (n_ - 1))], [], S_)) rfl ?_
          refine ih_.2.2.2 c_ (n_ - 1) S_ hI_ hF_ ⟨?_, trivial⟩ ?_
          · omega
          · omega
        · have cx4_ : ¬ ((S_.2.2.1 173 0 n_.toNat) = 0) := of_decide_eq_false cx4_
          refine sm_T_inc (a := 2) (z := 1) (v := c_) (w := c_ + 1) rfl rfl (by omega) (by omega) (by omega) ?_
          refine sm_T_go 6 (c1 := (127, [some (.inr (.inr (some (13, 0)))), some (.inl o_), some (.inl (c_ + 1)), some (.inl n_)], [.inl n_, .inr (.inr (some (140, 0))), .inr (.inr (some (13, 0))), .inr (.inr (some (173, 0)))], S_)) rfl ?_
          refine sm_T_iald (n := 2048) rfl rfl (by omega) (by omega) ?_
          have bx5_ : 0 ≤ S_.2.2.1 140 0 n_.toNat ∧ S_.2.2.1 140 0 n_.toNat ≤ 2047 := hI_.2 140 0 _
          refine sm_T_cal (d1 := 0) (Q1 := vq_355 (S_.2.2.1 140 0 n_.toNat) S_) rfl rfl (by decide) (vc_355 (S_.2.2.1 140 0 n_.toNat) S_ hI_ (by omega)) (fun u_ Sx6_ px9_ => ?_)
          obtain ⟨rfl, vx11_, rfl, px9_⟩ := px9_
          have e128_ := px9_
          rw [f40_, f41_] at gn_
          rw [f72_, f40_] at e128_
          have sw128_ := rsl_n hs_ (l_ := S0_.2.2.1 140 0 n_.toNat) (by omega) (by omega) n13_
          rw [← e128_] at sw128_
          refine sm_T_go 1 (c1 := (132, [some (.inr (.inr (some (13, 0)))), some (.inl o_), some (.inl (c_ + 1)), some (.inl n_)], [.inl 1, .inl vx11_, .inr (.inr (some (173, 0)))], S_)) rfl ?_
          refine sm_T_bin (w := (vx11_ / 2)) rfl (bi_shr (k := 1) (by decide) (by omega) (by omega)) ?_
          refine sm_T_go 1 (c1 := (134, [some (.inr (.inr (some (13, 0)))), some (.inl o_), some (.inl (c_ + 1)), some (.inl n_)], [.inl 1, .inl (vx11_ / 2), .inr (.inr (some (173, 0)))], S_)) rfl ?_
          refine sm_T_zas1 (n := 2048) rfl rfl (by omega) (by omega) (by omega) ?_
          have hIx12_ : gi (sm_aI S_ 173 0 (vx11_ / 2).toNat 1) := gi_aI hI_ (show 0 ≤ 1 ∧ 1 ≤ 1 from ⟨by omega, by omega⟩)
          have hFx13_ : ai_fr (sx_W vw_356) S0_ (sm_aI S_ 173 0 (vx11_ / 2).toNat 1) := ai_fr_tr hF_ (ai_fr_aI rfl)
          refine sm_T_go 6 (c1 := (145, [some (.inr (.inr (some (13, 0)))), some (.inl o_), some (.inl (c_ + 1)), some (.inl n_)], [.inl n_, .inr (.inr (some (141, 0))), .inr (.inr (some (13, 0))), .inr (.inr (some (173, 0)))], sm_aI S_ 173 0 (vx11_ / 2).toNat 1)) rfl ?_
          refine sm_T_iald (n := 2048) rfl rfl (by omega) (by omega) ?_
          have bx14_ : 0 ≤ S_.2.2.1 141 0 n_.toNat ∧ S_.2.2.1 141 0 n_.toNat ≤ 2047 := hI_.2 141 0 _
          refine sm_T_go 0 (c1 := (146, [some (.inr (.inr (some (13, 0)))), some (.inl o_), some (.inl (c_ + 1)), some (.inl n_)], [.inl (S_.2.2.1 141 0 n_.toNat), .inr (.inr (some (13, 0))), .inr (.inr (some (173, 0)))], sm_aI S_ 173 0 (vx11_ / 2).toNat 1)) rfl ?_
          refine sm_T_cal (d1 := 0) (Q1 := vq_355 (S_.2.2.1 141 0 n_.toNat) (sm_aI S_ 173 0 (vx11_ / 2).toNat 1)) rfl rfl (by decide) (vc_355 (S_.2.2.1 141 0 n_.toNat) (sm_aI S_ 173 0 (vx11_ / 2).toNat 1) hIx12_ (by (rw [f41_]; omega))) (fun u_ Sx15_ px18_ => ?_)
          obtain ⟨rfl, vx20_, rfl, px18_⟩ := px18_
          have e146_ := px18_
          simp only [rd_ne, ne_eq, Nat.reduceEqDiff, not_false_eq_true] at e146_
          rw [f72_, f41_] at e146_
          have sw146_ := rsl_n hs_ (l_ := S0_.2.2.1 141 0 n_.toNat) (by omega) (by omega) n13_
          rw [← e146_] at sw146_
          refine sm_T_go 1 (c1 := (150, [some (.inr (.inr (some (13, 0)))), some (.inl o_), some (.inl (c_ + 1)), some (.inl n_)], [.inl 1, .inl vx20_, .inr (.inr (some (173, 0)))], sm_aI S_ 173 0 (vx11_ / 2).toNat 1)) rfl ?_
          refine sm_T_bin (w := (vx20_ / 2)) rfl (bi_shr (k := 1) (by decide) (by omega) (by omega)) ?_
          refine sm_T_go 1 (c1 := (152, [some (.inr (.inr (some (13, 0)))), some (.inl o_), some (.inl (c_ + 1)), some (.inl n_)], [.inl 1, .inl (vx20_ / 2), .inr (.inr (some (173, 0)))], sm_aI S_ 173 0 (vx11_ / 2).toNat 1)) rfl ?_
          refine sm_T_zas1 (n := 2048) rfl rfl (by omega) (by omega) (by omega) ?_
          have hIx21_ : gi (sm_aI (sm_aI S_ 173 0 (vx11_ / 2).toNat 1) 173 0 (vx20_ / 2).toNat 1) := gi_aI hIx12_ (show 0 ≤ 1 ∧ 1 ≤ 1 from ⟨by omega, by omega⟩)
          have hFx22_ : ai_fr (sx_W vw_356) S0_ (sm_aI (sm_aI S_ 173 0 (vx11_ / 2).toNat 1) 173 0 (vx20_ / 2).toNat 1) := ai_fr_tr hFx13_ (ai_fr_aI rfl)
          refine sm_T_inc (a := 3) (z := (-1)) (v := n_) (w := n_ - 1) rfl rfl (by omega) (by omega) (by omega) ?_
          refine sm_T_go 1 (c1 := (97, [some (.inr (.inr (some (13, 0)))), some (.inl o_), some (.inl (c_ + 1)), some (.inl (n_ - 1))], [], sm_aI (sm_aI S_ 173 0 (vx11_ / 2).toNat 1) 173 0 (vx20_ / 2).toNat 1)) rfl ?_
          refine ih_.2.2.2 (c_ + 1) (n_ - 1) (sm_aI (sm_aI S_ 173 0 (vx11_ / 2).toNat 1) 173 0 (vx20_ / 2).toNat 1) hIx21_ hFx22_ ⟨?_, trivial⟩ ?_
          · omega
          · omega
set_option maxHeartbeats 1500000 in
theorem vc_356 {sc_ : Nat × (Nat → Int)} (o_ : Int) (F_ : Nat) (S0_ : sm_S) (hI_ : gi S0_) (hg_ : rgr F_ S0_) (hr_ : rrt o_ S0_) (hs_ : rsw F_ S0_) : sm_T (mt_P sc_) 1 356 (0, [some (.inr (.inr (some (13, 0)))), some (.inl o_), none, none], [], S0_) (fun ro9_ => ∃ u_ S1_, ro9_ = (.inl u_, S1_, 0) ∧ vq_356 o_ F_ S0_ u_ S1_) := by
  have hF_ : ai_fr (sx_W vw_356) S0_ S0_ := ai_fr_rf
  refine sm_T_go 2 (c1 := (2, [some (.inr (.inr (some (13, 0)))), some (.inl o_), some (.inl 0), none], [], S0_)) rfl ?_
  refine (vl_356 o_ F_ S0_ hg_ hr_ hs_ _).1 0 S0_ hI_ hF_ ⟨?_, trivial⟩ (Nat.lt_succ_self _)
  · (have g1_ := hg_.1; have g2_ := hg_.2.1; omega)
end
/-! 99.zi3f -/
section
/-! M_.reach -/
def vw_361 : sx_Wl := ([], [176], [])
def vq_361 (d_ : Int) (S0_ : sm_S) (u_ : Option sm_V) (S1_ : sm_S) : Prop := ∃ v_ : Int, u_ = some (.inl v_) ∧ gi S1_ ∧ ai_fr (sx_W vw_361) S0_ S1_ ∧ (1 ≤ v_ ∧ v_ ≤ 64)
set_option maxHeartbeats 400000 in
theorem vl_361 {sc_ : Nat × (Nat → Int)} (d_ : Int) (S0_ : sm_S) (hd_ : 0 ≤ d_ ∧ d_ < 6) (hb_ : (S0_.2.2.1 154 0 (d_.toNat)) + (S0_.2.2.1 155 0 (d_.toNat)) ≤ 12) : ∀ nn_ : Nat, (∀ (s_ : Int) (S_ : sm_S), gi S_ → ai_fr (sx_W vw_361) S0_ S_ → ((0 ≤ s_ ∧ s_ ≤ 64) ∧ (∀ k_ : Nat, (k_ : Int) < s_ → (S_.2.2.1 176 0 (k_)) = if (k_ : Int) = (S_.2.2.1 157 0 (d_.toNat)) then 1 else 0) ∧ True) → (400000 + (64 - s_).toNat) < nn_ → sm_T (mt_P sc_) 0 361 (2, [some (.inr (.inr (some (13, 0)))), some (.inl d_), some (.inl s_), none, none, none], [], S_) (fun ro9_ => ∃ u_ S1_, ro9_ = (.inl u_, S1_, 0) ∧ vq_361 d_ S0_ u_ S1_)) ∧ (∀ (many : Int) (had_ : Int) (S_ : sm_S), gi S_ → ai_fr (sx_W vw_361) S0_ S_ → ((0 ≤ had_ ∧ had_ ≤ many ∧ 1 ≤ many) ∧ (many = cn1 (fun k_ => (S_.2.2.1 176 0 (k_))) 64) ∧ True) → (((65 - had_) * 5000).toNat) < nn_ → sm_T (mt_P sc_) 0 361 (39, [some (.inr (.inr (some (13, 0)))), some (.inl d_), some (.inl many), some (.inl had_), none, none], [], S_) (fun ro9_ => ∃ u_ S1_, ro9_ = (.inl u_, S1_, 0) ∧ vq_361 d_ S0_ u_ S1_)) ∧ (∀ (many : Int) (had_ : Int) (p_ : Int) (S_ : sm_S), gi S_ → ai_fr (sx_W vw_361) S0_ S_ → ((1 ≤ had_ ∧ had_ ≤ many ∧ 0 ≤ p_ ∧ p_ ≤ 4096) ∧ (many = cn1 (fun k_ => (S_.2.2.1 176 0 (k_))) 64) ∧ True) → (((65 - had_) * 5000 + (4097 - p_)).toNat) < nn_ → sm_T (mt_P sc_) 0 361 (49, [some (.inr (.inr (some (13, 0)))), some (.inl d_), some (.inl many), some (.inl had_), some (.inl p_), none], [], S_) (fun ro9_ => ∃ u_ S1_, ro9_ = (.inl u_, S1_, 0) ∧ vq_361 d_ S0_ u_ S1_)) := by
  intro nn_
  induction nn_ with
  | zero => exact ⟨fun _ _ _ _ _ h_ => absurd h_ (Nat.not_lt_zero _), fun _ _ _ _ _ _ h_ => absurd h_ (Nat.not_lt_zero _), fun _ _ _ _ _ _ _ h_ => absurd h_ (Nat.not_lt_zero _)⟩
  | succ nn_ ih_ =>
    refine ⟨?_, ?_, ?_⟩
    · rintro s_ S_ hI_ hF_ ⟨h1_, h2_, -⟩ hm_
      refine sm_T_go 2 (c1 := (5, [some (.inr (.inr (some (13, 0)))), some (.inl d_), some (.inl s_), none, none, none], [.inl 64, .inl s_], S_)) rfl ?_
      refine sm_T_br (a := 3) (z := 30) rfl (fun cx1_ => ?_) (fun cx1_ => ?_)
      · have cx1_ : 64 ≤ s_ := of_decide_eq_true cx1_
        refine sm_T_go 4 (c1 := (39, [some (.inr (.inr (some (13, 0)))), some (.inl d_), some (.inl 1), some (.inl 0), none, none], [], S_)) rfl ?_
        refine ih_.2.1 1 0 S_ hI_ hF_ ⟨?_, ?_, trivial⟩ ?_
        · omega
        · have e_ := cn1_one (f := fun k_ : Nat => if (k_ : Int) = S_.2.2.1 157 0 d_.toNat then 1 else 0) (j := (S_.2.2.1 157 0 d_.toNat).toNat) (by intro k_; have := hI_.2 157 0 d_.toNat; have a1_ : 0 ≤ S_.2.2.1 157 0 d_.toNat := this.1; constructor <;> intro h_ <;> first | (split at h_ <;> omega) | (rw [if_pos (by omega)])) 64
          have b9_ : 0 ≤ S_.2.2.1 157 0 d_.toNat ∧ S_.2.2.1 157 0 d_.toNat ≤ 63 := hI_.2 157 0 _
          rw [if_pos (by omega)] at e_
          rw [cn1_cg (fun k_ hk_ => h2_ k_ (by omega)), e_]
          rfl
        · omega
      · have cx1_ : ¬ (64 ≤ s_) := of_decide_eq_false cx1_
        refine sm_T_go 7 (c1 := (19, [some (.inr (.inr (some (13, 0)))), some (.inl d_), some (.inl s_), none, none, none], [.inl d_, .inr (.inr (some (157, 0))), .inl s_, .inl s_, .inr (.inr (some (176, 0)))], S_)) rfl ?_
        refine sm_T_iald (n := 6) rfl rfl (by omega) (by omega) ?_
        have bx2_ : 0 ≤ S_.2.2.1 157 0 d_.toNat ∧ S_.2.2.1 157 0 d_.toNat ≤ 63 := hI_.2 157 0 _
        refine sm_T_br (a := 1) (z := 7) rfl (fun cx3_ => ?_) (fun cx3_ => ?_)
        · have cx3_ : s_ ≠ (S_.2.2.1 157 0 d_.toNat) := of_decide_eq_true cx3_
          refine sm_T_go 1 (c1 := (28, [some (.inr (.inr (some (13, 0)))), some (.inl d_), some (.inl s_), none, none, none], [.inl 0, .inl s_, .inr (.inr (some (176, 0)))], S_)) rfl ?_
          refine sm_T_zas1 (n := 64) rfl rfl (by omega) (by omega) (by omega) ?_
          have hIx4_ : gi (sm_aI S_ 176 0 s_.toNat 0) := gi_aI hI_ (show 0 ≤ 0 ∧ 0 ≤ 1 from ⟨by omega, by omega⟩)
          have hFx5_ : ai_fr (sx_W vw_361) S0_ (sm_aI S_ 176 0 s_.toNat 0) := ai_fr_tr hF_ (ai_fr_aI rfl)
          refine sm_T_inc (a := 2) (z := 1) (v := s_) (w := s_ + 1) rfl rfl (by omega) (by omega) (by omega) ?_
          refine sm_T_go 1 (c1 := (2, [some (.inr (.inr (some (13, 0)))), some (.inl d_), some (.inl (s_ + 1)), none, none, none], [], sm_aI S_ 176 0 s_.toNat 0)) rfl ?_
          refine ih_.1 (s_ + 1) (sm_aI S_ 176 0 s_.toNat 0) hIx4_ hFx5_ ⟨?_, ?_, trivial⟩ ?_
          · omega
          · intro k_ hk_
            (try simp only [rd_eq, rd_ne, rf_eq, rf_nk, rf_nt, rd_fa, rd_af, rd_fl, rd_al, rd_lf, rd_la, rd_leq, rd_lne, rd_fr, rd_ar, ne_eq, Nat.reduceEqDiff, not_false_eq_true])
            grind
          · omega
        · have cx3_ : ¬ (s_ ≠ (S_.2.2.1 157 0 d_.toNat)) := of_decide_eq_false cx3_
          refine sm_T_go 2 (c1 := (28, [some (.inr (.inr (some (13, 0)))), some (.inl d_), some (.inl s_), none, none, none], [.inl 1, .inl s_, .inr (.inr (some (176, 0)))], S_)) rfl ?_
          refine sm_T_zas1 (n := 64) rfl rfl (by omega) (by omega) (by omega) ?_
          have hIx6_ : gi (sm_aI S_ 176 0 s_.toNat 1) := gi_aI hI_ (show 0 ≤ 1 ∧ 1 ≤ 1 from ⟨by omega, by omega⟩)
          have hFx7_ : ai_fr (sx_W vw_361) S0_ (sm_aI S_ 176 0 s_.toNat 1) := ai_fr_tr hF_ (ai_fr_aI rfl)
          refine sm_T_inc (a := 2) (z := 1) (v := s_) (w := s_ + 1) rfl rfl (by omega) (by omega) (by omega) ?_
          refine sm_T_go 1 (c1 := (2, [some (.inr (.inr (some (13, 0)))), some (.inl d_), some (.inl (s_ + 1)), none, none, none], [], sm_aI S_ 176 0 s_.toNat 1)) rfl ?_
          refine ih_.1 (s_ + 1) (sm_aI S_ 176 0 s_.toNat 1) hIx6_ hFx7_ ⟨?_, ?_, trivial⟩ ?_
          · omega
          · intro k_ hk_
            (try simp only [rd_eq, rd_ne, rf_eq, rf_nk, rf_nt, rd_fa, rd_af, rd_fl, rd_al, rd_lf, rd_la, rd_leq, rd_lne, rd_fr, rd_ar, ne_eq, Nat.reduceEqDiff, not_false_eq_true])
            grind
          · omega
    · rintro many had_ S_ hI_ hF_ ⟨h1_, h2_, -⟩ hm_
      have hc_ := cn1_le (fun k_ => (S_.2.2.1 176 0 (k_))) 64
      refine sm_T_go 2 (c1 := (41, [some (.inr (.inr (some (13, 0)))), some (.inl d_), some (.inl many), some (.inl had_), none, none], [.inl had_, .inl many], S_)) rfl ?_
      refine sm_T_br (a := 0) (z := 90) rfl (fun cx1_ => ?_) (fun cx1_ => ?_)
      · have cx1_ : many = had_ := of_decide_eq_true cx1_
        refine sm_T_go 1 (c1 := (132, [some (.inr (.inr (some (13, 0)))), some (.inl d_), some (.inl many), some (.inl had_), none, none], [.inl many], S_)) rfl ?_
        refine sm_T_ri rfl ⟨_, _, rfl, _, rfl, hI_, hF_, ?_⟩
        omega
      · have cx1_ : ¬ (many = had_) := of_decide_eq_false cx1_
        refine sm_T_go 4 (c1 := (49, [some (.inr (.inr (some (13, 0)))), some (.inl d_), some (.inl many), some (.inl many), some (.inl 0), none], [], S_)) rfl ?_
        refine ih_.2.2 many many 0 S_ hI_ hF_ ⟨?_, ?_, trivial⟩ ?_
        · omega
        · omega
        · omega
    · rintro many had_ p_ S_ hI_ hF_ ⟨h1_, h2_, -⟩ hm_
      have hc_ := cn1_le (fun k_ => (S_.2.2.1 176 0 (k_))) 64
      have e1_ := (hF_.2.2 154 rfl 0 d_.toNat).1
      have e2_ := (hF_.2.2 155 rfl 0 d_.toNat).1
      refine sm_T_go 5 (c1 := (57, [some (.inr (.inr (some (13, 0)))), some (.inl d_), some (.inl many), some (.inl had_), some (.inl p_), none], [.inl d_, .inr (.inr (some (154, 0))), .inl 1, .inl p_], S_)) rfl ?_
      refine sm_T_iald (n := 6) rfl rfl (by omega) (by omega) ?_
      have bx1_ : 0 ≤ S_.2.2.1 154 0 d_.toNat ∧ S_.2.2.1 154 0 d_.toNat ≤ 12 := hI_.2 154 0 _
      refine sm_T_go 3 (c1 := (63, [some (.inr (.inr (some (13, 0)))), some (.inl d_), some (.inl many), some (.inl had_), some (.inl p_), none], [.inl d_, .inr (.inr (some (155, 0))), .inl (S_.2.2.1 154 0 d_.toNat), .inl 1, .inl p_], S_)) rfl ?_
      refine sm_T_iald (n := 6) rfl rfl (by omega) (by omega) ?_
      have bx2_ : 0 ≤ S_.2.2.1 155 0 d_.toNat ∧ S_.2.2.1 155 0 d_.toNat ≤ 6 := hI_.2 155 0 _
      refine sm_T_bin (w := (S_.2.2.1 154 0 d_.toNat) + (S_.2.2.1 155 0 d_.toNat)) rfl (bi_add (by omega) (by omega) (by omega)) ?_
      refine sm_T_bin (w := (i_shl 1 ((S_.2.2.1 154 0 d_.toNat) + (S_.2.2.1 155 0 d_.toNat)))) rfl rfl ?_
      have bx3_ := i_shl1 (e := ((S_.2.2.1 154 0 d_.toNat) + (S_.2.2.1 155 0 d_.toNat))) (by omega) (by omega)
      have hp_ := pw_le (n := (((S_.2.2.1 154 0 d_.toNat) + (S_.2.2.1 155 0 d_.toNat))).toNat) (m := 12) (by omega)
      have hp0_ := pw_pos (((S_.2.2.1 154 0 d_.toNat) + (S_.2.2.1 155 0 d_.toNat))).toNat
      refine sm_T_br (a := 3) (z := 62) rfl (fun cx6_ => ?_) (fun cx6_ => ?_)
      · have cx6_ : (i_shl 1 ((S_.2.2.1 154 0 d_.toNat) + (S_.2.2.1 155 0 d_.toNat))) ≤ p_ := of_decide_eq_true cx6_
        refine sm_T_go 1 (c1 := (39, [some (.inr (.inr (some (13, 0)))), some (.inl d_), some (.inl many), some (.inl had_), some (.inl p_), none], [], S_)) rfl ?_
        refine sm_T_wk [some (.inr (.inr (some (13, 0)))), some (.inl d_), some (.inl many), some (.inl had_), none, none] (by exact ⟨rfl, rfl, rfl, rfl, trivial⟩) ?_
        refine ih_.2.1 many had_ S_ hI_ hF_ ⟨?_, ?_, trivial⟩ ?_
        · omega
        · omega
        · omega
      · have cx6_ : ¬ ((i_shl 1 ((S_.2.2.1 154 0 d_.toNat) + (S_.2.2.1 155 0 d_.toNat))) ≤ p_) := of_decide_eq_false cx6_
        refine sm_T_go 4 (c1 := (77, [some (.inr (.inr (some (13, 0)))), some (.inl d_), some (.inl many), some (.inl had_), some (.inl p_), none], [.inl d_, .inl 4096, .inr (.inr (some (170, 0)))], S_)) rfl ?_
        refine sm_T_bin (w := 4096 * d_) rfl (bi_mul (by omega) (by omega) (by omega)) ?_
        refine sm_T_go 1 (c1 := (80, [some (.inr (.inr (some (13, 0)))), some (.inl d_), some (.inl many), some (.inl had_), some (.inl p_), none], [.inl p_, .inl (4096 * d_), .inr (.inr (some (170, 0)))], S_)) rfl ?_
        refine sm_T_bin (w := 4096 * d_ + p_) rfl (bi_add (by omega) (by omega) (by omega)) ?_
        refine sm_T_iald (n := 24576) rfl rfl (by omega) (by omega) ?_
        have bx7_ : 0 ≤ S_.2.2.1 170 0 (4096 * d_ + p_).toNat ∧ S_.2.2.1 170 0 (4096 * d_ + p_).toNat ≤ 63 := hI_.2 170 0 _
        refine sm_T_go 7 (c1 := (95, [some (.inr (.inr (some (13, 0)))), some (.inl d_), some (.inl many), some (.inl had_), some (.inl p_), some (.inl (S_.2.2.1 170 0 (4096 * d_ + p_).toNat))], [.inl d_, .inr (.inr (some (154, 0))), .inl p_, .inr (.inr (some (176, 0)))], S_)) rfl ?_
        refine sm_T_iald (n := 6) rfl rfl (by omega) (by omega) ?_
        refine sm_T_bin (w := (i_shr p_ (S_.2.2.1 154 0 d_.toNat))) rfl rfl ?_
        have bx8_ := i_shrv (x := p_) (e := (S_.2.2.1 154 0 d_.toNat)) (by omega) (by omega) (by omega)
        have hq_ := shr_lt (x := p_) (a := (S_.2.2.1 154 0 d_.toNat)) (b := S_.2.2.1 155 0 d_.toNat) (by omega) (by omega) (by omega) (by omega)
        have hq2_ := pw_le (n := (S_.2.2.1 155 0 d_.toNat).toNat) (m := 6) (by omega)
        refine sm_T_zald (n := 64) rfl rfl (by omega) (by omega) ?_
        have bx11_ : 0 ≤ S_.2.2.1 176 0 (i_shr p_ (S_.2.2.1 154 0 d_.toNat)).toNat ∧ S_.2.2.1 176 0 (i_shr p_ (S_.2.2.1 154 0 d_.toNat)).toNat ≤ 1 := hI_.2 176 0 _
        refine sm_T_b0 (a := 0) (z := 24) rfl (fun cx12_ => ?_) (fun cx12_ => ?_)
        · have cx12_ : (S_.2.2.1 176 0 (i_shr p_ (S_.2.2.1 154 0 d_.toNat)).toNat) = 0 := of_decide_eq_true cx12_
          refine sm_T_inc (a := 4) (z := 1) (v := p_) (w := p_ + 1) rfl rfl (by omega) (by omega) (by omega) ?_
          refine sm_T_go 1 (c1 := (49, [some (.inr (.inr (some (13, 0)))), some (.inl d_), some (.inl many), some (.inl had_), some (.inl (p_ + 1)), some (.inl (S_.2.2.1 170 0 (4096 * d_ + p_).toNat))], [], S_)) rfl ?_
          refine sm_T_wk [some (.inr (.inr (some (13, 0)))), some (.inl d_), some (.inl many), some (.inl had_), some (.inl (p_ + 1)), none] (by exact ⟨rfl, rfl, rfl, rfl, rfl, trivial⟩) ?_
          refine ih_.2.2 many had_ (p_ + 1) S_ hI_ hF_ ⟨?_, ?_, trivial⟩ ?_
          · omega
          · exact h2_
          · omega
        · have cx12_ : ¬ ((S_.2.2.1 176 0 (i_shr p_ (S_.2.2.1 154 0 d_.toNat)).toNat) = 0) := of_decide_eq_false cx12_
          refine sm_T_go 3 (c1 := (107, [some (.inr (.inr (some (13, 0)))), some (.inl d_), some (.inl many), some (.inl had_), some (.inl p_), some (.inl (S_.2.2.1 170 0 (4096 * d_ + p_).toNat))], [.inl (S_.2.2.1 170 0 (4096 * d_ + p_).toNat), .inr (.inr (some (176, 0)))], S_)) rfl ?_
          refine sm_T_zald (n := 64) rfl rfl (by omega) (by omega) ?_
          have bx13_ : 0 ≤ S_.2.2.1 176 0 (S_.2.2.1 170 0 (4096 * d_ + p_).toNat).toNat ∧ S_.2.2.1 176 0 (S_.2.2.1 170 0 (4096 * d_ + p_).toNat).toNat ≤ 1 := hI_.2 176 0 _
          refine sm_T_b0 (a := 1) (z := 14) rfl (fun cx14_ => ?_) (fun cx14_ => ?_)
          · have cx14_ : (S_.2.2.1 176 0 (S_.2.2.1 170 0 (4096 * d_ + p_).toNat).toNat) ≠ 0 := of_decide_eq_true cx14_
            refine sm_T_inc (a := 4) (z := 1) (v := p_) (w := p_ + 1) rfl rfl (by omega) (by omega) (by omega) ?_
            refine sm_T_go 1 (c1 := (49, [some (.inr (.inr (some (13, 0)))), some (.inl d_), some (.inl many), some (.inl had_), some (.inl (p_ + 1)), some (.inl (S_.2.2.1 170 0 (4096 * d_ + p_).toNat))], [], S_)) rfl ?_
            refine sm_T_wk [some (.inr (.inr (some (13, 0)))), some (.inl d_), some (.inl many), some (.inl had_), some (.inl (p_ + 1)), none] (by exact ⟨rfl, rfl, rfl, rfl, rfl, trivial⟩) ?_
            refine ih_.2.2 many had_ (p_ + 1) S_ hI_ hF_ ⟨?_, ?_, trivial⟩ ?_
            · omega
            · exact h2_
            · omega
          · have cx14_ : ¬ ((S_.2.2.1 176 0 (S_.2.2.1 170 0 (4096 * d_ + p_).toNat).toNat) ≠ 0) := of_decide_eq_false cx14_
            refine sm_T_go 4 (c1 := (118, [some (.inr (.inr (some (13, 0)))), some (.inl d_), some (.inl many), some (.inl had_), some (.inl p_), some (.inl (S_.2.2.1 170 0 (4096 * d_ + p_).toNat))], [.inl 1, .inl (S_.2.2.1 170 0 (4096 * d_ + p_).toNat), .inr (.inr (some (176, 0)))], S_)) rfl ?_
            refine sm_T_zas1 (n := 64) rfl rfl (by omega) (by omega) (by omega) ?_
            have hIx15_ : gi (sm_aI S_ 176 0 (S_.2.2.1 170 0 (4096 * d_ + p_).toNat).toNat 1) := gi_aI hI_ (show 0 ≤ 1 ∧ 1 ≤ 1 from ⟨by omega, by omega⟩)
            have hFx16_ : ai_fr (sx_W vw_361) S0_ (sm_aI S_ 176 0 (S_.2.2.1 170 0 (4096 * d_ + p_).toNat).toNat 1) := ai_fr_tr hF_ (ai_fr_aI rfl)
            refine sm_T_inc (a := 2) (z := 1) (v := many) (w := many + 1) rfl rfl (by omega) (by omega) (by omega) ?_
            refine sm_T_inc (a := 4) (z := 1) (v := p_) (w := p_ + 1) rfl rfl (by omega) (by omega) (by omega) ?_
            refine sm_T_go 1 (c1 := (49, [some (.inr (.inr (some (13, 0)))), some (.inl d_), some (.inl (many + 1)), some (.inl had_), some (.inl (p_ + 1)), some (.inl (S_.2.2.1 170 0 (4096 * d_ + p_).toNat))], [], sm_aI S_ 176 0 (S_.2.2.1 170 0 (4096 * d_ + p_).toNat).toNat 1)) rfl ?_
            refine sm_T_wk [some (.inr (.inr (some (13, 0)))), some (.inl d_), some (.inl (many + 1)), some (.inl had_), some (.inl (p_ + 1)), none] (by exact ⟨rfl, rfl, rfl, rfl, rfl, trivial⟩) ?_
            refine ih_.2.2 (many + 1) had_ (p_ + 1) (sm_aI S_ 176 0 (S_.2.2.1 170 0 (4096 * d_ + p_).toNat).toNat 1) hIx15_ hFx16_ ⟨?_, ?_, trivial⟩ ?_
            · omega
            · have := cn1_up (f := fun k_ => S_.2.2.1 176 0 k_) (g := fun k_ => (sm_aI S_ 176 0 (S_.2.2.1 170 0 (4096 * d_ + p_).toNat).toNat 1).2.2.1 176 0 k_) (j := (S_.2.2.1 170 0 (4096 * d_ + p_).toNat).toNat) (by show S_.2.2.1 176 0 _ ≠ 1; omega) (by show _ = _; rw [rd_aa, if_pos ⟨rfl, rfl, rfl⟩]) (by intro k_ hk_; show _ = _; rw [rd_aa, if_neg (by omega)]) (n := 64) (by omega)
              omega
            · omega
set_option maxHeartbeats 400000 in
theorem vc_361 {sc_ : Nat × (Nat → Int)} (d_ : Int) (S0_ : sm_S) (hI_ : gi S0_) (hd_ : 0 ≤ d_ ∧ d_ < 6) (hb_ : (S0_.2.2.1 154 0 (d_.toNat)) + (S0_.2.2.1 155 0 (d_.toNat)) ≤ 12) : sm_T (mt_P sc_) 0 361 (0, [some (.inr (.inr (some (13, 0)))), some (.inl d_), none, none, none, none], [], S0_) (fun ro9_ => ∃ u_ S1_, ro9_ = (.inl u_, S1_, 0) ∧ vq_361 d_ S0_ u_ S1_) := by
  have hF_ : ai_fr (sx_W vw_361) S0_ S0_ := ai_fr_rf
  refine sm_T_go 2 (c1 := (2, [some (.inr (.inr (some (13, 0)))), some (.inl d_), some (.inl 0), none, none, none], [], S0_)) rfl ?_
  refine (vl_361 d_ S0_ hd_ hb_ _).1 0 S0_ hI_ hF_ ⟨?_, ?_, trivial⟩ (Nat.lt_succ_self _)
  · omega
  · intro k_ hk_; omega
end
/-! 99.zi4a -/
section
/-! the reference keeps a design; written by wip/p55/gen/vg -/

/-! the_ reference keeps a_ design -/
def rds (t_ : Nat) : Nat := if t_ ≤ 163 then 1 else if t_ ≤ 166 then 2048 else if t_ = 167 then 16 else if t_ = 168 then 6 else 4096
/-- the_ other designs stay as_ they were -/
def rdf (d_ : Nat) (S_ S'_ : sm_S) : Prop := ∀ t_, t_ < 171 → 153 ≤ t_ → ∀ j_, (j_ < rds t_ * d_ ∨ rds t_ * d_ + rds t_ ≤ j_) → S'_.2.2.1 t_ 0 j_ = S_.2.2.1 t_ 0 j_
theorem rdf_rf {d_ : Nat} {S_ : sm_S} : rdf d_ S_ S_ := fun _ _ _ _ _ => rfl
theorem rdf_tr {d_ : Nat} {S_ S'_ S2_ : sm_S} (h_ : rdf d_ S_ S'_) (g_ : rdf d_ S'_ S2_) : rdf d_ S_ S2_ := fun t_ h1_ h2_ j_ hj_ => (g_ t_ h1_ h2_ j_ hj_).trans (h_ t_ h1_ h2_ j_ hj_)
theorem rdf_fr {w_ : sx_Wl} {d_ : Nat} {S_ S'_ : sm_S} (g_ : ai_fr (sx_W w_) S_ S'_) (h_ : ∀ t_, t_ < 171 → 153 ≤ t_ → (sx_W w_).2.1 t_ = false) : rdf d_ S_ S'_ := fun t_ h1_ h2_ j_ _ => congrFun (fr_arr g_ (h_ t_ h1_ h2_)) j_
theorem rdf_aI {d_ t_ k_ : Nat} {S_ S'_ : sm_S} {v_ : Int} (h_ : rdf d_ S_ S'_) (g_ : (t_ < 153 ∨ 170 < t_) ∨ (rds t_ * d_ ≤ k_ ∧ k_ < rds t_ * d_ + rds t_)) : rdf d_ S_ (sm_aI S'_ t_ 0 k_ v_) := fun t1_ h1_ h2_ j_ hj_ => by
  rw [rd_aa, if_neg (by
    rintro ⟨q1_, -, q3_⟩
    rcases g_ with g_ | g_
    · omega
    · rw [q1_] at hj_; omega)]
  exact h_ t1_ h1_ h2_ j_ hj_
/-- how_ far_ a_ design is_ kept -/
def kdB (dd_ F_ : Nat) (I_ o_ bg_ : Int) (R_ n_ k1_ k2_ p_ : Nat) (S_ : sm_S) : Prop := (S_.2.2.1 153 0 dd_ = 1 ∧ S_.2.2.1 154 0 dd_ = I_ ∧ S_.2.2.1 155 0 dd_ = (R_ : Int) ∧ S_.2.2.1 156 0 dd_ = o_ ∧ S_.2.2.1 157 0 dd_ = bg_ ∧ S_.2.2.1 158 0 dd_ = bg_ ∧ S_.2.2.1 159 0 dd_ = S_.1 13 0 37 ∧ S_.2.2.1 160 0 dd_ = (F_ : Int)) ∧ (rgr F_ S_ ∧ rsw F_ S_ ∧ rrt o_ S_ ∧ S_.1 13 0 53 = (R_ : Int)) ∧ (∀ j_, j_ < n_ → S_.2.2.1 164 0 (2048 * dd_ + j_) = S_.2.2.1 140 0 j_ ∧ S_.2.2.1 165 0 (2048 * dd_ + j_) = S_.2.2.1 141 0 j_ ∧ S_.2.2.1 166 0 (2048 * dd_ + j_) = S_.2.2.1 172 0 j_) ∧ (∀ j_, j_ < k1_ → S_.2.2.1 167 0 (16 * dd_ + j_) = S_.2.2.1 175 0 j_) ∧ (∀ j_, j_ < k2_ → S_.2.2.1 168 0 (6 * dd_ + j_) = S_.2.2.1 151 0 j_) ∧ ∀ j_, j_ < p_ → 0 ≤ S_.2.2.1 170 0 (4096 * dd_ + j_) ∧ S_.2.2.1 170 0 (4096 * dd_ + j_) < 2 ^ R_
theorem kd8 {S_ : sm_S} {d_ : Nat} {v0_ v1_ v2_ v3_ v4_ v5_ v6_ v7_ : Int} : ((sm_aI (sm_aI (sm_aI (sm_aI (sm_aI (sm_aI (sm_aI (sm_aI S_ 153 0 d_ v0_) 154 0 d_ v1_) 155 0 d_ v2_) 156 0 d_ v3_) 157 0 d_ v4_) 158 0 d_ v5_) 159 0 d_ v6_) 160 0 d_ v7_).2.2.1 153 0 d_ = v0_ ∧ (sm_aI (sm_aI (sm_aI (sm_aI (sm_aI (sm_aI (sm_aI (sm_aI S_ 153 0 d_ v0_) 154 0 d_ v1_) 155 0 d_ v2_) 156 0 d_ v3_) 157 0 d_ v4_) 158 0 d_ v5_) 159 0 d_ v6_) 160 0 d_ v7_).2.2.1 154 0 d_ = v1_ ∧ (sm_aI (sm_aI (sm_aI (sm_aI (sm_aI (sm_aI (sm_aI (sm_aI S_ 153 0 d_ v0_) 154 0 d_ v1_) 155 0 d_ v2_) 156 0 d_ v3_) 157 0 d_ v4_) 158 0 d_ v5_) 159 0 d_ v6_) 160 0 d_ v7_).2.2.1 155 0 d_ = v2_ ∧ (sm_aI (sm_aI (sm_aI (sm_aI (sm_aI (sm_aI (sm_aI (sm_aI S_ 153 0 d_ v0_) 154 0 d_ v1_) 155 0 d_ v2_) 156 0 d_ v3_) 157 0 d_ v4_) 158 0 d_ v5_) 159 0 d_ v6_) 160 0 d_ v7_).2.2.1 156 0 d_ = v3_ ∧ (sm_aI (sm_aI (sm_aI (sm_aI (sm_aI (sm_aI (sm_aI (sm_aI S_ 153 0 d_ v0_) 154 0 d_ v1_) 155 0 d_ v2_) 156 0 d_ v3_) 157 0 d_ v4_) 158 0 d_ v5_) 159 0 d_ v6_) 160 0 d_ v7_).2.2.1 157 0 d_ = v4_ ∧ (sm_aI (sm_aI (sm_aI (sm_aI (sm_aI (sm_aI (sm_aI (sm_aI S_ 153 0 d_ v0_) 154 0 d_ v1_) 155 0 d_ v2_) 156 0 d_ v3_) 157 0 d_ v4_) 158 0 d_ v5_) 159 0 d_ v6_) 160 0 d_ v7_).2.2.1 158 0 d_ = v5_ ∧ (sm_aI (sm_aI (sm_aI (sm_aI (sm_aI (sm_aI (sm_aI (sm_aI S_ 153 0 d_ v0_) 154 0 d_ v1_) 155 0 d_ v2_) 156 0 d_ v3_) 157 0 d_ v4_) 158 0 d_ v5_) 159 0 d_ v6_) 160 0 d_ v7_).2.2.1 159 0 d_ = v6_ ∧ (sm_aI (sm_aI (sm_aI (sm_aI (sm_aI (sm_aI (sm_aI (sm_aI S_ 153 0 d_ v0_) 154 0 d_ v1_) 155 0 d_ v2_) 156 0 d_ v3_) 157 0 d_ v4_) 158 0 d_ v5_) 159 0 d_ v6_) 160 0 d_ v7_).2.2.1 160 0 d_ = v7_) ∧ ai_fr (sx_W ([], [153, 154, 155, 156, 157, 158, 159, 160], [])) S_ (sm_aI (sm_aI (sm_aI (sm_aI (sm_aI (sm_aI (sm_aI (sm_aI S_ 153 0 d_ v0_) 154 0 d_ v1_) 155 0 d_ v2_) 156 0 d_ v3_) 157 0 d_ v4_) 158 0 d_ v5_) 159 0 d_ v6_) 160 0 d_ v7_) := by
  refine ⟨⟨?_, ?_, ?_, ?_, ?_, ?_, ?_, ?_⟩, ai_fr_tr (ai_fr_tr (ai_fr_tr (ai_fr_tr (ai_fr_tr (ai_fr_tr (ai_fr_tr (ai_fr_aI rfl) (ai_fr_aI rfl)) (ai_fr_aI rfl)) (ai_fr_aI rfl)) (ai_fr_aI rfl)) (ai_fr_aI rfl)) (ai_fr_aI rfl)) (ai_fr_aI rfl)⟩
  all_goals (simp only [rd_eq, rd_ne, ne_eq, Nat.reduceEqDiff, not_false_eq_true, if_true])
section KD_
variable {dd_ F_ R_ n_ k1_ k2_ p_ : Nat} {I_ o_ bg_ : Int} {S_ S'_ : sm_S}
theorem kdB_k (h_ : kdB dd_ F_ I_ o_ bg_ R_ n_ k1_ k2_ p_ S_) (g_ : ai_fr (sx_W ([], [164, 165, 166], [])) S_ S'_) (e1_ : ∀ j_, S'_.2.2.1 164 0 j_ = if j_ = 2048 * dd_ + n_ then S_.2.2.1 140 0 n_ else S_.2.2.1 164 0 j_) (e2_ : ∀ j_, S'_.2.2.1 165 0 j_ = if j_ = 2048 * dd_ + n_ then S_.2.2.1 141 0 n_ else S_.2.2.1 165 0 j_) (e3_ : ∀ j_, S'_.2.2.1 166 0 j_ = if j_ = 2048 * dd_ + n_ then S_.2.2.1 172 0 n_ else S_.2.2.1 166 0 j_) : kdB dd_ F_ I_ o_ bg_ R_ (n_ + 1) k1_ k2_ p_ S'_ := by
  obtain ⟨h1_, h2_, h3_, h4_, h5_, h6_⟩ := h_
  refine ⟨?_, ⟨rgr_fr h2_.1 g_ rfl rfl rfl rfl, rsw_fr h2_.2.1 g_ rfl rfl rfl rfl, rrt_fr h2_.2.2.1 g_ rfl rfl rfl rfl, (g_.1 13 0 53 rfl).trans h2_.2.2.2⟩, fun j_ hj_ => ?_, fun j_ hj_ => ?_, fun j_ hj_ => ?_, fun j_ hj_ => ?_⟩
  · rw [fr_arr (t := 153) g_ rfl, fr_arr (t := 154) g_ rfl, fr_arr (t := 155) g_ rfl, fr_arr (t := 156) g_ rfl, fr_arr (t := 157) g_ rfl, fr_arr (t := 158) g_ rfl, fr_arr (t := 159) g_ rfl, fr_arr (t := 160) g_ rfl, g_.1 13 0 37 rfl]
    exact h1_
  · rw [e1_, e2_, e3_, fr_arr (t := 140) g_ rfl, fr_arr (t := 141) g_ rfl, fr_arr (t := 172) g_ rfl]
    by_cases z_ : j_ = n_
    · rw [if_pos (by omega), if_pos (by omega), if_pos (by omega), z_]
      exact ⟨rfl, rfl, rfl⟩
    · rw [if_neg (by omega), if_neg (by omega), if_neg (by omega)]
      exact h3_ j_ (by omega)
  · rw [fr_arr (t := 167) g_ rfl, fr_arr (t := 175) g_ rfl]; exact h4_ j_ hj_
  · rw [fr_arr (t := 168) g_ rfl, fr_arr (t := 151) g_ rfl]; exact h5_ j_ hj_
  · rw [fr_arr (t := 170) g_ rfl]; exact h6_ j_ hj_
theorem kdB_o (h_ : kdB dd_ F_ I_ o_ bg_ R_ n_ k1_ k2_ p_ S_) (g_ : ai_fr (sx_W ([], [167], [])) S_ S'_) (e1_ : ∀ j_, S'_.2.2.1 167 0 j_ = if j_ = 16 * dd_ + k1_ then S_.2.2.1 175 0 k1_ else S_.2.2.1 167 0 j_) : kdB dd_ F_ I_ o_ bg_ R_ n_ (k1_ + 1) k2_ p_ S'_ := by
  obtain ⟨h1_, h2_, h3_, h4_, h5_, h6_⟩ := h_
  refine ⟨?_, ⟨rgr_fr h2_.1 g_ rfl rfl rfl rfl, rsw_fr h2_.2.1 g_ rfl rfl rfl rfl, rrt_fr h2_.2.2.1 g_ rfl rfl rfl rfl, (g_.1 13 0 53 rfl).trans h2_.2.2.2⟩, fun j_ hj_ => ?_, fun j_ hj_ => ?_, fun j_ hj_ => ?_, fun j_ hj_ => ?_⟩
  · rw [fr_arr (t := 153) g_ rfl, fr_arr (t := 154) g_ rfl, fr_arr (t := 155) g_ rfl, fr_arr (t := 156) g_ rfl, fr_arr (t := 157) g_ rfl, fr_arr (t := 158) g_ rfl, fr_arr (t := 159) g_ rfl, fr_arr (t := 160) g_ rfl, g_.1 13 0 37 rfl]
    exact h1_
  · rw [fr_arr (t := 164) g_ rfl, fr_arr (t := 165) g_ rfl, fr_arr (t := 166) g_ rfl, fr_arr (t := 140) g_ rfl, fr_arr (t := 141) g_ rfl, fr_arr (t := 172) g_ rfl]; exact h3_ j_ hj_
  · rw [e1_, fr_arr (t := 175) g_ rfl]
    by_cases z_ : j_ = k1_
    · rw [if_pos (by omega), z_]
    · rw [if_neg (by omega)]; exact h4_ j_ (by omega)
  · rw [fr_arr (t := 168) g_ rfl, fr_arr (t := 151) g_ rfl]; exact h5_ j_ hj_
  · rw [fr_arr (t := 170) g_ rfl]; exact h6_ j_ hj_
theorem kdB_x (h_ : kdB dd_ F_ I_ o_ bg_ R_ n_ k1_ k2_ p_ S_) (g_ : ai_fr (sx_W ([], [168], [])) S_ S'_) (e1_ : ∀ j_, S'_.2.2.1 168 0 j_ = if j_ = 6 * dd_ + k2_ then S_.2.2.1 151 0 k2_ else S_.2.2.1 168 0 j_) : kdB dd_ F_ I_ o_ bg_ R_ n_ k1_ (k2_ + 1) p_ S'_ := by
  obtain ⟨h1_, h2_, h3_, h4_, h5_, h6_⟩ := h_
  refine ⟨?_, ⟨rgr_fr h2_.1 g_ rfl rfl rfl rfl, rsw_fr h2_.2.1 g_ rfl rfl rfl rfl, rrt_fr h2_.2.2.1 g_ rfl rfl rfl rfl, (g_.1 13 0 53 rfl).trans h2_.2.2.2⟩, fun j_ hj_ => ?_, fun j_ hj_ => ?_, fun j_ hj_ => ?_, fun j_ hj_ => ?_⟩
  · rw [fr_arr (t := 153) g_ rfl, fr_arr (t := 154) g_ rfl, fr_arr (t := 155) g_ rfl, fr_arr (t := 156) g_ rfl, fr_arr (t := 157) g_ rfl, fr_arr (t := 158) g_ rfl, fr_arr (t := 159) g_ rfl, fr_arr (t := 160) g_ rfl, g_.1 13 0 37 rfl]
    exact h1_
  · rw [fr_arr (t := 164) g_ rfl, fr_arr (t := 165) g_ rfl, fr_arr (t := 166) g_ rfl, fr_arr (t := 140) g_ rfl, fr_arr (t := 141) g_ rfl, fr_arr (t := 172) g_ rfl]; exact h3_ j_ hj_
  · rw [fr_arr (t := 167) g_ rfl, fr_arr (t := 175) g_ rfl]; exact h4_ j_ hj_
  · rw [e1_, fr_arr (t := 151) g_ rfl]
    by_cases z_ : j_ = k2_
    · rw [if_pos (by omega), z_]
    · rw [if_neg (by omega)]; exact h5_ j_ (by omega)
  · rw [fr_arr (t := 170) g_ rfl]; exact h6_ j_ hj_
theorem kdB_t {v_ : Int} (h_ : kdB dd_ F_ I_ o_ bg_ R_ n_ k1_ k2_ p_ S_) (g_ : ai_fr (sx_W ([], [169, 170], [])) S_ S'_) (hv_ : 0 ≤ v_ ∧ v_ < 2 ^ R_) (e1_ : ∀ j_, S'_.2.2.1 170 0 j_ = if j_ = 4096 * dd_ + p_ then v_ else S_.2.2.1 170 0 j_) : kdB dd_ F_ I_ o_ bg_ R_ n_ k1_ k2_ (p_ + 1) S'_ := by
  obtain ⟨h1_, h2_, h3_, h4_, h5_, h6_⟩ := h_
  refine ⟨?_, ⟨rgr_fr h2_.1 g_ rfl rfl rfl rfl, rsw_fr h2_.2.1 g_ rfl rfl rfl rfl, rrt_fr h2_.2.2.1 g_ rfl rfl rfl rfl, (g_.1 13 0 53 rfl).trans h2_.2.2.2⟩, fun j_ hj_ => ?_, fun j_ hj_ => ?_, fun j_ hj_ => ?_, fun j_ hj_ => ?_⟩
  · rw [fr_arr (t := 153) g_ rfl, fr_arr (t := 154) g_ rfl, fr_arr (t := 155) g_ rfl, fr_arr (t := 156) g_ rfl, fr_arr (t := 157) g_ rfl, fr_arr (t := 158) g_ rfl, fr_arr (t := 159) g_ rfl, fr_arr (t := 160) g_ rfl, g_.1 13 0 37 rfl]
    exact h1_
  · rw [fr_arr (t := 164) g_ rfl, fr_arr (t := 165) g_ rfl, fr_arr (t := 166) g_ rfl, fr_arr (t := 140) g_ rfl, fr_arr (t := 141) g_ rfl, fr_arr (t := 172) g_ rfl]; exact h3_ j_ hj_
  · rw [fr_arr (t := 167) g_ rfl, fr_arr (t := 175) g_ rfl]; exact h4_ j_ hj_
  · rw [fr_arr (t := 168) g_ rfl, fr_arr (t := 151) g_ rfl]; exact h5_ j_ hj_
  · rw [e1_]
    by_cases z_ : j_ = p_
    · rw [if_pos (by omega)]; exact hv_
    · rw [if_neg (by omega)]; exact h6_ j_ (by omega)
end KD_
/-- a_ design that the_ reference keeps -/
def dRk (d_ : Nat) (S_ : sm_S) : Prop := ∃ (F_ I_ R_ N_ : Nat), (S_.2.2.1 154 0 d_ = (I_ : Int) ∧ S_.2.2.1 155 0 d_ = (R_ : Int) ∧ S_.2.2.1 159 0 d_ = (N_ : Int) ∧ S_.2.2.1 160 0 d_ = (F_ : Int) ∧ F_ = 1 + I_ + R_ ∧ F_ ≤ 13 ∧ R_ ≤ 6 ∧ F_ ≤ N_ ∧ N_ ≤ F_ + 1000 ∧ 1 ≤ S_.2.2.1 156 0 d_ ∧ S_.2.2.1 156 0 d_ ≤ 16) ∧ glo F_ N_ (fun k_ => S_.2.2.1 164 0 (2048 * d_ + k_)) (fun k_ => S_.2.2.1 165 0 (2048 * d_ + k_)) ∧ (S_.2.2.1 166 0 (2048 * d_) = 0 ∧ ∀ m_, m_ < N_ → sfo F_ (fun k_ => S_.2.2.1 164 0 (2048 * d_ + k_)) (fun k_ => S_.2.2.1 165 0 (2048 * d_ + k_)) (fun k_ => S_.2.2.1 166 0 (2048 * d_ + k_)) m_) ∧ (∀ k_ : Nat, (k_ : Int) < S_.2.2.1 156 0 d_ → 0 ≤ S_.2.2.1 167 0 (16 * d_ + k_) ∧ S_.2.2.1 167 0 (16 * d_ + k_) < 2 * (N_ : Int)) ∧ (∀ k_, k_ < R_ → 0 ≤ S_.2.2.1 168 0 (6 * d_ + k_) ∧ S_.2.2.1 168 0 (6 * d_ + k_) < 2 * (N_ : Int)) ∧ (0 ≤ S_.2.2.1 157 0 d_ ∧ S_.2.2.1 157 0 d_ < 2 ^ R_) ∧ (0 ≤ S_.2.2.1 158 0 d_ ∧ S_.2.2.1 158 0 d_ < 2 ^ R_) ∧ ∀ p_, p_ < 2 ^ (I_ + R_) → 0 ≤ S_.2.2.1 170 0 (4096 * d_ + p_) ∧ S_.2.2.1 170 0 (4096 * d_ + p_) < 2 ^ R_
theorem sfo_ap {F_ n_ m_ : Nat} {lo_ hi_ sf_ lo'_ hi'_ sf'_ : Nat → Int} (hg_ : F_ ≤ m_ → 2 ≤ lo_ m_ ∧ lo_ m_ < hi_ m_ ∧ hi_ m_ < 2 * (m_ : Int)) (hm_ : m_ < n_) (h_ : sfo F_ lo_ hi_ sf_ m_) (e1_ : ∀ k_, k_ < n_ → lo'_ k_ = lo_ k_) (e2_ : ∀ k_, k_ < n_ → hi'_ k_ = hi_ k_) (e3_ : ∀ k_, k_ < n_ → sf'_ k_ = sf_ k_) : sfo F_ lo'_ hi'_ sf'_ m_ := by
  unfold sfo at *
  rw [e3_ m_ hm_, e3_ _ (by omega)]
  refine ⟨h_.1, h_.2.1, fun a_ b_ => ?_⟩
  have g_ := hg_ a_
  have q_ := h_.2.2 a_ b_
  unfold m3 at *
  rw [e1_ m_ hm_, e2_ m_ hm_, e3_ _ (by omega), e3_ _ (by omega)]
  exact q_
theorem kdB_end {dd_ F_ I_ R_ N_ : Nat} {o_ bg_ : Int} {S_ : sm_S} (h_ : kdB dd_ F_ (I_ : Int) o_ bg_ R_ N_ o_.toNat R_ (2 ^ (I_ + R_)) S_) (hN_ : S_.1 13 0 37 = (N_ : Int)) (hF_ : F_ = 1 + I_ + R_) (hF13_ : F_ ≤ 13) (hR_ : R_ ≤ 6) (ho_ : 1 ≤ o_ ∧ o_ ≤ 16) (hb_ : 0 ≤ bg_ ∧ bg_ < 2 ^ R_) : dRk dd_ S_ := by
  obtain ⟨h1_, ⟨g1_, g2_, g3_, g4_⟩, h3_, h4_, h5_, h6_⟩ := h_
  have gg_ := g1_.2.1
  refine ⟨F_, I_, R_, N_, ⟨h1_.2.1, h1_.2.2.1, h1_.2.2.2.2.2.2.1.trans hN_, h1_.2.2.2.2.2.2.2, hF_, hF13_, hR_, by omega, by omega, by rw [h1_.2.2.2.1]; exact ho_.1, by rw [h1_.2.2.2.1]; exact ho_.2⟩, fun k_ a_ b_ => ?_, ⟨?_, fun m_ hm_ => ?_⟩, fun k_ hk_ => ?_, fun k_ hk_ => ?_, by rw [h1_.2.2.2.2.1]; exact hb_, by rw [h1_.2.2.2.2.2.1]; exact hb_, h6_⟩
  · show 2 ≤ S_.2.2.1 164 0 (2048 * dd_ + k_) ∧ S_.2.2.1 164 0 (2048 * dd_ + k_) < S_.2.2.1 165 0 (2048 * dd_ + k_) ∧ S_.2.2.1 165 0 (2048 * dd_ + k_) < 2 * (k_ : Int)
    rw [(h3_ k_ b_).1, (h3_ k_ b_).2.1]
    exact g1_.2.2 k_ a_ (by omega)
  · have e_ := (h3_ 0 (by omega)).2.2
    rw [Nat.add_zero] at e_
    rw [e_]
    exact g2_.1
  · exact sfo_ap (n_ := N_) (fun a_ => g1_.2.2 m_ a_ (by omega)) hm_ (g2_.2 m_ (by omega)) (fun k_ hk_ => (h3_ k_ hk_).1) (fun k_ hk_ => (h3_ k_ hk_).2.1) (fun k_ hk_ => (h3_ k_ hk_).2.2)
  · rw [h1_.2.2.2.1] at hk_
    rw [h4_ k_ (by omega)]
    have := g3_.2.2.1 k_ hk_
    omega
  · rw [h5_ k_ hk_]
    have := g3_.2.2.2 k_ (by omega)
    omega
theorem dRk_fr {w_ : sx_Wl} {d_ : Nat} {S_ S'_ : sm_S} (h_ : dRk d_ S_) (g_ : ai_fr (sx_W w_) S_ S'_) (hw_ : ∀ t_, t_ < 171 → (153 < t_ ∧ t_ ≠ 161 ∧ t_ ≠ 162 ∧ t_ ≠ 163) → (sx_W w_).2.1 t_ = false) : dRk d_ S'_ := by
  unfold dRk
  rw [fr_arr (t := 154) g_ (hw_ _ (by decide) (by decide)), fr_arr (t := 155) g_ (hw_ _ (by decide) (by decide)), fr_arr (t := 156) g_ (hw_ _ (by decide) (by decide)), fr_arr (t := 157) g_ (hw_ _ (by decide) (by decide)), fr_arr (t := 158) g_ (hw_ _ (by decide) (by decide)), fr_arr (t := 159) g_ (hw_ _ (by decide) (by decide)), fr_arr (t := 160) g_ (hw_ _ (by decide) (by decide)), fr_arr (t := 164) g_ (hw_ _ (by decide) (by decide)), fr_arr (t := 165) g_ (hw_ _ (by decide) (by decide)), fr_arr (t := 166) g_ (hw_ _ (by decide) (by decide)), fr_arr (t := 167) g_ (hw_ _ (by decide) (by decide)), fr_arr (t := 168) g_ (hw_ _ (by decide) (by decide)), fr_arr (t := 170) g_ (hw_ _ (by decide) (by decide))]
  exact h_
/-! M_.keepDesign -/
end
/-! 99.zi5a -/
section
/-! the reference: design; written by wip/p55/gen/vg -/

/-! the_ reference: a_ text becomes a_ design -/
/-- the_ sums that both programs tell come to_ the_ same -/
theorem rT_lm {b_ : Nat → Int} {n_ T_ : Nat} {r_ : pD} {S_ : sm_S} (hn_ : n_ ≤ 1280) (hr_ : p_de b_ n_ = .inr r_) (h_ : rT b_ n_ T_ r_.1 r_.2.1 r_.2.2.1 S_) : p_lm (S_.2.2.1 135 0 (r_.2.2.1 - 1)) (S_.2.2.1 132 0 (r_.2.2.1 - 1)) (S_.2.2.1 134 0 (r_.2.2.1 - 1)) (S_.2.2.1 133 0 (r_.2.2.1 - 1)) = d_lm r_ ∧ S_.2.2.1 132 0 (d_tp r_) = (d_I r_ : Int) ∧ (d_lm r_ = 0 → S_.2.2.1 134 0 (d_tp r_) = (d_R r_ : Int)) := by
  obtain ⟨h1_, h2_⟩ := de_ch hn_ hr_
  obtain ⟨i1_, i2_, i3_, i4_, i5_⟩ := d_in hn_ hr_
  have hA_ : ∀ m_, m_ < r_.2.2.1 → a_ok b_ n_ r_.1 m_ := fun m_ hm_ => (h1_ m_ hm_).2
  have g_ := g_sum hA_
  have rs_ := h_.2.2.2.2.1
  have s_ := sat_eq (r1_ := S_.2.2.1 134 0) (i1_ := S_.2.2.1 135 0) (r2_ := gR r_.1 r_.2.2.1) (i2_ := gI r_.1 r_.2.2.1) hA_ (fun m_ hm_ => (rs_ m_ hm_).2.2.1) (fun m_ hm_ => (g_.2 m_ hm_).1) (fun m_ hm_ => (rs_ m_ hm_).2.2.2) (fun m_ hm_ => (g_.2 m_ hm_).2) (d_tp r_ + 1) (d_tp r_) (by omega) i3_
  have t_ := rs_ (d_tp r_) i3_
  have e_ : p_lm (S_.2.2.1 135 0 (d_tp r_)) (S_.2.2.1 132 0 (d_tp r_)) (S_.2.2.1 134 0 (d_tp r_)) (S_.2.2.1 133 0 (d_tp r_)) = d_lm r_ := by
    rw [s_.1.1, s_.2.1, t_.1, t_.2.1, lm_sat s_.2.2 s_.1.2 (by rw [← i1_]; omega)]
    rfl
  refine ⟨e_, by rw [t_.1, i1_], fun l0_ => ?_⟩
  have l_ := lm_0 l0_
  rw [s_.1.1, i2_]
  unfold mn
  rw [if_neg (by omega)]
theorem gmd_of {b_ : Nat → Int} {n_ T_ m_ : Nat} {r_ : pD} {S_ : sm_S} (hn_ : n_ ≤ 1280) (hr_ : p_de b_ n_ = .inr r_) (h_ : rT b_ n_ T_ r_.1 r_.2.1 r_.2.2.1 S_) (hm_ : m_ < r_.2.2.1) : gmd b_ n_ T_ r_.1 r_.2.1 (dC r_) m_ S_ := by
  obtain ⟨h1_, h2_⟩ := de_ch hn_ hr_
  obtain ⟨f_, A_, c0_, u_, ce_, l_, w1_, w2_, w3_, w4_, -⟩ := dC_r hn_ (h1_ m_ hm_).1
  obtain ⟨u'_, i_, y1_, y2_, y3_⟩ := h_.2.2.2.2.2.2 m_ hm_
  have e_ : u'_ = u_ := by
    unfold bod at w4_
    rw [y1_] at w4_
    cases w4_
    rfl
  exact ⟨f_, A_, c0_, u_, ce_, i_, w1_, w2_, w3_, by rw [← e_]; exact y2_, y3_⟩
def pD0 : pD := ((fun _ => 0, fun _ => 0, fun _ => 0, fun _ => 0, fun _ => 0), fun _ => 0, 0, fun _ => 0, [])
def gz0 : gQ × gE := (([], 0, 0), fun _ => [])
/-- what the_ reference knows when it_ has_ read a_ text -/
def rdy (b_ : Nat → Int) (n_ T_ : Nat) (r_ : pD) (z_ : gQ × gE) (S_ : sm_S) : Prop := p_de b_ n_ = .inr r_ ∧ d_lm r_ = 0 ∧ d_gr r_ z_ ∧ z_.1.2.1 = d_R r_ ∧ (∀ s_, s_ < r_.1.1 (d_tp r_) → r_.1.2.2.1 (40 * d_tp r_ + s_) ≠ 5 → ((z_.2 s_).length : Int) = r_.1.2.2.2.1 (40 * d_tp r_ + s_)) ∧ rT b_ n_ T_ r_.1 r_.2.1 r_.2.2.1 S_
/-! M_.design -/
def vw_363 : sx_Wl := ([(13, 0), (13, 2), (13, 3), (13, 9), (13, 10), (13, 11), (13, 12), (13, 25), (13, 26), (13, 27), (13, 28), (13, 29), (13, 32), (13, 33), (13, 34), (13, 37), (13, 38), (13, 52), (13, 53), (13, 79)], [119, 120, 121, 122, 123, 124, 125, 126, 127, 128, 129, 130, 131, 132, 133, 134, 135, 136, 137, 138, 139, 140, 141, 142, 143, 144, 145, 146, 147, 148, 149, 150, 151, 152, 153, 154, 155, 156, 157, 158, 159, 160, 161, 162, 163, 164, 165, 166, 167, 168, 169, 170, 171, 172, 173, 174, 175, 176], [])
def vq_363 (b_ : Nat → Int) (n_ : Nat) (S0_ : sm_S) (u_ : Option sm_V) (S1_ : sm_S) : Prop := ∃ v_ : Int, u_ = some (.inl v_) ∧ gi S1_ ∧ ai_fr (sx_W vw_363) S0_ S1_ ∧ (((S1_.1 13 0 0) = 1 ∧ (∀ j_ : Nat, j_ < 6 → S0_.2.2.1 153 0 j_ = 1) ∧ (S1_.1 13 0 2) = (S0_.1 13 0 2) ∧ rdf 6 S0_ S1_) ∨ ((S1_.1 13 0 0) = 0 ∧ ∃ sl_ : Nat, sl_ < 6 ∧ S0_.2.2.1 153 0 sl_ = 0 ∧ (∀ j_ : Nat, j_ < sl_ → S0_.2.2.1 153 0 j_ = 1) ∧ (S1_.1 13 0 2) = 0 ∧ rdf sl_ S0_ S1_ ∧ ((dacc b_ n_ ∧ S1_.2.2.1 153 0 sl_ = 1 ∧ dRk sl_ S1_) ∨ (¬ dacc b_ n_ ∧ S1_.2.2.1 153 0 sl_ = 0))))
end
/-! 99.zj1a -/
section
/-! calls that throw; written by wip/p55/gen/vg -/

/-! calls that throw one_ of_ several; arithmetic that may_ wrap -/
theorem sm_T_cale {P_ : sm_P} {d_ d1_ mid_ pc_ n0_ a_ b_ v_ : Nat} {z_ : Int} {L_ : sm_L} {st_ : List sm_V} {S_ : sm_S} {Q_ : sm_R → Prop} {Q1_ : Option sm_V → sm_S → Prop} {Q2_ : Nat → sm_S → Prop} (hx_ : P_.1 mid_ pc_ = some (40, n0_, a_, b_, v_, z_))
    (hc_ : (L_.length = (P_.2.1 mid_).2 && (st_.take b_).length = b_ && ((st_.drop b_).map sm_cat).sum ≤ 8 && (v_ = 1 || sm_rcv (P_.2.1 a_).1 (st_.take b_).reverse) && (sm_vsl (st_.take b_).reverse).length ≤ (P_.2.1 a_).2) = true)
    (hd_ : d1_ ≤ d_) (hsub : sm_T P_ d1_ a_ (0, sm_ent (P_.2.1 a_).2 (st_.take b_).reverse, [], S_) (fun r_ => (∃ u_ S1_, r_ = (.inl u_, S1_, 0) ∧ Q1_ u_ S1_) ∨ ∃ ex_ S1_, r_ = (.inr ex_, S1_, 1) ∧ Q2_ ex_ S1_))
    (hh_ : P_.2.2.1 mid_ = []) (kx_ : ∀ ex_ S1_, Q2_ ex_ S1_ → Q_ (.inr ex_, S1_, 1))
    (kn_ : ∀ u_ S1_, Q1_ u_ S1_ → sm_T P_ (d_ + 1) mid_ (pc_ + 3, L_, u_.toList ++ st_.drop b_, S1_) Q_) : sm_T P_ (d_ + 1) mid_ (pc_, L_, st_, S_) Q_ := by
  refine sm_T_call hx_ hc_ (hsub.deep hd_) (fun u_ S1_ k1_ q_ => ?_) (fun ex_ S1_ k1_ q_ => ?_)
  · rcases q_ with ⟨u'_, S1'_, e_, q_⟩ | ⟨ex'_, S1'_, e_, q_⟩
    · cases e_
      exact (kn_ _ _ q_).mono (fun r_ h_ => by rw [sm_add_0]; exact h_)
    · cases e_
  · rcases q_ with ⟨u'_, S1'_, e_, q_⟩ | ⟨ex'_, S1'_, e_, q_⟩
    · cases e_
    · cases e_
      rw [hh_]
      exact ⟨rfl, kx_ _ _ q_⟩
def i_add (x_ y_ : Int) : Int := (Int32.ofInt x_ + Int32.ofInt y_).toInt
def i_sub (x_ y_ : Int) : Int := (Int32.ofInt x_ - Int32.ofInt y_).toInt
theorem i_add_r (x_ y_ : Int) : -2147483648 ≤ i_add x_ y_ ∧ i_add x_ y_ ≤ 2147483647 := ⟨Int32.le_toInt _, by have := Int32.toInt_lt (Int32.ofInt x_ + Int32.ofInt y_); unfold i_add; omega⟩
theorem i_sub_r (x_ y_ : Int) : -2147483648 ≤ i_sub x_ y_ ∧ i_sub x_ y_ ≤ 2147483647 := ⟨Int32.le_toInt _, by have := Int32.toInt_lt (Int32.ofInt x_ - Int32.ofInt y_); unfold i_sub; omega⟩
/-- all_ designs that are_ there are_ right -/
def dAll (S_ : sm_S) : Prop := ∀ i_, i_ < 6 → S_.1 3 i_ 0 = 1 → dOk i_ S_
/-! ChipFlow.needThere -/
def vw_265e : sx_Wl := ([], [], [])
def vq_265e (k_ : Int) (S0_ : sm_S) (u_ : Option sm_V) (S1_ : sm_S) : Prop := u_ = none ∧ gi S1_ ∧ ai_fr (sx_W vw_265e) S0_ S1_ ∧ (k_ ≠ 0 ∧ S0_ = S1_)
def vx_265e (k_ : Int) (S0_ : sm_S) (S1_ : sm_S) : Prop := gi S1_ ∧ ai_fr (sx_W vw_265e) S0_ S1_ ∧ (k_ = 0 ∧ S1_ = S0_)
set_option maxHeartbeats 400000 in
theorem vc_265e {sc_ : Nat × (Nat → Int)} (k_ : Int) (S0_ : sm_S) (hI_ : gi S0_)  : sm_T (mt_P sc_) 0 265 (0, [some (.inl k_)], [], S0_) (fun ro9_ => (∃ u_ S1_, ro9_ = (.inl u_, S1_, 0) ∧ vq_265e k_ S0_ u_ S1_) ∨ ∃ ex_ S1_, ro9_ = (.inr ex_, S1_, 1) ∧ ex_ ∈ ([0] : List Nat) ∧ vx_265e k_ S0_ S1_) := by
  have hF_ : ai_fr (sx_W vw_265e) S0_ S0_ := ai_fr_rf
  refine sm_T_go 1 (c1 := (1, [some (.inl k_)], [.inl k_], S0_)) rfl ?_
  refine sm_T_b0 (a := 1) (z := 11) rfl (fun cx1_ => ?_) (fun cx1_ => ?_)
  · have cx1_ : k_ ≠ 0 := of_decide_eq_true cx1_
    refine sm_T_rv rfl (Or.inl ⟨_, _, rfl, rfl, hI_, hF_, ?_⟩)
    exact ⟨by omega, rfl⟩
  · have cx1_ : ¬ (k_ ≠ 0) := of_decide_eq_false cx1_
    refine sm_T_th rfl rfl (Or.inr ⟨_, _, rfl, by decide, hI_, hF_, ?_⟩)
    exact ⟨by omega, rfl⟩
end
/-! 99.zj1b -/
section
/-! ChipFlow.needRange -/
def vw_266e : sx_Wl := ([], [], [])
def vq_266e (k_ : Int) (S0_ : sm_S) (u_ : Option sm_V) (S1_ : sm_S) : Prop := u_ = none ∧ gi S1_ ∧ ai_fr (sx_W vw_266e) S0_ S1_ ∧ (k_ ≠ 0 ∧ S0_ = S1_)
def vx_266e (k_ : Int) (S0_ : sm_S) (S1_ : sm_S) : Prop := gi S1_ ∧ ai_fr (sx_W vw_266e) S0_ S1_ ∧ (k_ = 0 ∧ S1_ = S0_)
set_option maxHeartbeats 400000 in
theorem vc_266e {sc_ : Nat × (Nat → Int)} (k_ : Int) (S0_ : sm_S) (hI_ : gi S0_)  : sm_T (mt_P sc_) 0 266 (0, [some (.inl k_)], [], S0_) (fun ro9_ => (∃ u_ S1_, ro9_ = (.inl u_, S1_, 0) ∧ vq_266e k_ S0_ u_ S1_) ∨ ∃ ex_ S1_, ro9_ = (.inr ex_, S1_, 1) ∧ ex_ ∈ ([1] : List Nat) ∧ vx_266e k_ S0_ S1_) := by
  have hF_ : ai_fr (sx_W vw_266e) S0_ S0_ := ai_fr_rf
  refine sm_T_go 1 (c1 := (1, [some (.inl k_)], [.inl k_], S0_)) rfl ?_
  refine sm_T_b0 (a := 1) (z := 11) rfl (fun cx1_ => ?_) (fun cx1_ => ?_)
  · have cx1_ : k_ ≠ 0 := of_decide_eq_true cx1_
    refine sm_T_rv rfl (Or.inl ⟨_, _, rfl, rfl, hI_, hF_, ?_⟩)
    exact ⟨by omega, rfl⟩
  · have cx1_ : ¬ (k_ ≠ 0) := of_decide_eq_false cx1_
    refine sm_T_th rfl rfl (Or.inr ⟨_, _, rfl, by decide, hI_, hF_, ?_⟩)
    exact ⟨by omega, rfl⟩
end
/-! 99.zj1c -/
section
/-! ChipFlow.needNow -/
def vw_267e : sx_Wl := ([], [], [])
def vq_267e (k_ : Int) (S0_ : sm_S) (u_ : Option sm_V) (S1_ : sm_S) : Prop := u_ = none ∧ gi S1_ ∧ ai_fr (sx_W vw_267e) S0_ S1_ ∧ (k_ ≠ 0 ∧ S0_ = S1_)
def vx_267e (k_ : Int) (S0_ : sm_S) (S1_ : sm_S) : Prop := gi S1_ ∧ ai_fr (sx_W vw_267e) S0_ S1_ ∧ (k_ = 0 ∧ S1_ = S0_)
set_option maxHeartbeats 400000 in
theorem vc_267e {sc_ : Nat × (Nat → Int)} (k_ : Int) (S0_ : sm_S) (hI_ : gi S0_)  : sm_T (mt_P sc_) 0 267 (0, [some (.inl k_)], [], S0_) (fun ro9_ => (∃ u_ S1_, ro9_ = (.inl u_, S1_, 0) ∧ vq_267e k_ S0_ u_ S1_) ∨ ∃ ex_ S1_, ro9_ = (.inr ex_, S1_, 1) ∧ ex_ ∈ ([2] : List Nat) ∧ vx_267e k_ S0_ S1_) := by
  have hF_ : ai_fr (sx_W vw_267e) S0_ S0_ := ai_fr_rf
  refine sm_T_go 1 (c1 := (1, [some (.inl k_)], [.inl k_], S0_)) rfl ?_
  refine sm_T_b0 (a := 1) (z := 11) rfl (fun cx1_ => ?_) (fun cx1_ => ?_)
  · have cx1_ : k_ ≠ 0 := of_decide_eq_true cx1_
    refine sm_T_rv rfl (Or.inl ⟨_, _, rfl, rfl, hI_, hF_, ?_⟩)
    exact ⟨by omega, rfl⟩
  · have cx1_ : ¬ (k_ ≠ 0) := of_decide_eq_false cx1_
    refine sm_T_th rfl rfl (Or.inr ⟨_, _, rfl, by decide, hI_, hF_, ?_⟩)
    exact ⟨by omega, rfl⟩
end
/-! 99.zj1d -/
section
/-! ChipFlow.needRoom -/
def vw_268e : sx_Wl := ([], [], [])
def vq_268e (k_ : Int) (S0_ : sm_S) (u_ : Option sm_V) (S1_ : sm_S) : Prop := u_ = none ∧ gi S1_ ∧ ai_fr (sx_W vw_268e) S0_ S1_ ∧ (k_ ≠ 0 ∧ S0_ = S1_)
def vx_268e (k_ : Int) (S0_ : sm_S) (S1_ : sm_S) : Prop := gi S1_ ∧ ai_fr (sx_W vw_268e) S0_ S1_ ∧ (k_ = 0 ∧ S1_ = S0_)
set_option maxHeartbeats 400000 in
theorem vc_268e {sc_ : Nat × (Nat → Int)} (k_ : Int) (S0_ : sm_S) (hI_ : gi S0_)  : sm_T (mt_P sc_) 0 268 (0, [some (.inl k_)], [], S0_) (fun ro9_ => (∃ u_ S1_, ro9_ = (.inl u_, S1_, 0) ∧ vq_268e k_ S0_ u_ S1_) ∨ ∃ ex_ S1_, ro9_ = (.inr ex_, S1_, 1) ∧ ex_ ∈ ([3] : List Nat) ∧ vx_268e k_ S0_ S1_) := by
  have hF_ : ai_fr (sx_W vw_268e) S0_ S0_ := ai_fr_rf
  refine sm_T_go 1 (c1 := (1, [some (.inl k_)], [.inl k_], S0_)) rfl ?_
  refine sm_T_b0 (a := 1) (z := 11) rfl (fun cx1_ => ?_) (fun cx1_ => ?_)
  · have cx1_ : k_ ≠ 0 := of_decide_eq_true cx1_
    refine sm_T_rv rfl (Or.inl ⟨_, _, rfl, rfl, hI_, hF_, ?_⟩)
    exact ⟨by omega, rfl⟩
  · have cx1_ : ¬ (k_ ≠ 0) := of_decide_eq_false cx1_
    refine sm_T_th rfl rfl (Or.inr ⟨_, _, rfl, by decide, hI_, hF_, ?_⟩)
    exact ⟨by omega, rfl⟩
end
/-! 99.zj1e -/
section
/-! ChipFlow.designAt -/
def vw_270 : sx_Wl := ([], [], [])
def vq_270 (k_ : Int) (S0_ : sm_S) (u_ : Option sm_V) (S1_ : sm_S) : Prop := u_ = some (.inr (.inr (some (3, k_.toNat)))) ∧ gi S1_ ∧ ai_fr (sx_W vw_270) S0_ S1_ ∧ (S0_ = S1_ ∧ (0 ≤ k_ ∧ k_ < 6) ∧ S0_.1 3 k_.toNat 0 = 1)
def vx_270 (k_ : Int) (S0_ : sm_S) (S1_ : sm_S) : Prop := gi S1_ ∧ ai_fr (sx_W vw_270) S0_ S1_ ∧ (S1_ = S0_)
set_option maxHeartbeats 400000 in
theorem vc_270 {sc_ : Nat × (Nat → Int)} (k_ : Int) (S0_ : sm_S) (hI_ : gi S0_)  : sm_T (mt_P sc_) 1 270 (0, [some (.inr (.inr (some (12, 0)))), some (.inl k_)], [], S0_) (fun ro9_ => (∃ u_ S1_, ro9_ = (.inl u_, S1_, 0) ∧ vq_270 k_ S0_ u_ S1_) ∨ ∃ ex_ S1_, ro9_ = (.inr ex_, S1_, 1) ∧ ex_ ∈ ([0] : List Nat) ∧ vx_270 k_ S0_ S1_) := by
  have hF_ : ai_fr (sx_W vw_270) S0_ S0_ := ai_fr_rf
  refine sm_T_go 1 (c1 := (1, [some (.inr (.inr (some (12, 0)))), some (.inl k_)], [.inl k_], S0_)) rfl ?_
  refine sm_T_b0 (a := 2) (z := 25) rfl (fun cx1_ => ?_) (fun cx1_ => ?_)
  · have cx1_ : k_ < 0 := of_decide_eq_true cx1_
    refine sm_T_go 1 (c1 := (27, [some (.inr (.inr (some (12, 0)))), some (.inl k_)], [.inl 0], S0_)) rfl ?_
    refine sm_T_cale (d1_ := 0) (Q1_ := vq_265e 0 S0_) (Q2_ := (fun ex_ S1_ => ex_ ∈ ([0] : List Nat) ∧ vx_265e 0 S0_ S1_)) rfl rfl (by decide) (vc_265e 0 S0_ hI_ ) rfl (fun xx7_ Sx2_ px5_ => ?_) (fun u_ Sx2_ px5_ => ?_)
    · obtain ⟨px5m, hIx3_, hFx4_, px5_⟩ := px5_
      refine Or.inr ⟨_, _, rfl, by first | exact px5m | (simp only [List.mem_cons, List.not_mem_nil, or_false] at px5m ⊢; omega), hIx3_, ai_fr_tr hF_ (fr_le hFx4_ rfl), ?_⟩
      exact px5_.2
    · exact absurd rfl px5_.2.2.2.1
  · have cx1_ : ¬ (k_ < 0) := of_decide_eq_false cx1_
    refine sm_T_go 2 (c1 := (7, [some (.inr (.inr (some (12, 0)))), some (.inl k_)], [.inl 6, .inl k_], S0_)) rfl ?_
    refine sm_T_br (a := 3) (z := 19) rfl (fun cx8_ => ?_) (fun cx8_ => ?_)
    · have cx8_ : 6 ≤ k_ := of_decide_eq_true cx8_
      refine sm_T_go 1 (c1 := (27, [some (.inr (.inr (some (12, 0)))), some (.inl k_)], [.inl 0], S0_)) rfl ?_
      refine sm_T_cale (d1_ := 0) (Q1_ := vq_265e 0 S0_) (Q2_ := (fun ex_ S1_ => ex_ ∈ ([0] : List Nat) ∧ vx_265e 0 S0_ S1_)) rfl rfl (by decide) (vc_265e 0 S0_ hI_ ) rfl (fun xx14_ Sx9_ px12_ => ?_) (fun u_ Sx9_ px12_ => ?_)
      · obtain ⟨px12m, hIx10_, hFx11_, px12_⟩ := px12_
        refine Or.inr ⟨_, _, rfl, by first | exact px12m | (simp only [List.mem_cons, List.not_mem_nil, or_false] at px12m ⊢; omega), hIx10_, ai_fr_tr hF_ (fr_le hFx11_ rfl), ?_⟩
        exact px12_.2
      · exact absurd rfl px12_.2.2.2.1
    · have cx8_ : ¬ (6 ≤ k_) := of_decide_eq_false cx8_
      refine sm_T_go 3 (c1 := (15, [some (.inr (.inr (some (12, 0)))), some (.inl k_)], [.inl k_, .inr (.inr (some (110, 0)))], S0_)) rfl ?_
      refine sm_T_aald (t0 := 4) (n := 6) rfl rfl (by omega) (by omega) ?_
      have bx15_ : 0 ≤ S0_.1 3 k_.toNat 0 ∧ S0_.1 3 k_.toNat 0 ≤ 1 := hI_.1 3 k_.toNat 0 rfl
      refine sm_T_go 1 (c1 := (19, [some (.inr (.inr (some (12, 0)))), some (.inl k_)], [.inl (S0_.1 3 k_.toNat 0)], S0_)) rfl ?_
      refine sm_T_b0 (a := 0) (z := 7) rfl (fun cx16_ => ?_) (fun cx16_ => ?_)
      · have cx16_ : (S0_.1 3 k_.toNat 0) = 0 := of_decide_eq_true cx16_
        refine sm_T_go 1 (c1 := (27, [some (.inr (.inr (some (12, 0)))), some (.inl k_)], [.inl 0], S0_)) rfl ?_
        refine sm_T_cale (d1_ := 0) (Q1_ := vq_265e 0 S0_) (Q2_ := (fun ex_ S1_ => ex_ ∈ ([0] : List Nat) ∧ vx_265e 0 S0_ S1_)) rfl rfl (by decide) (vc_265e 0 S0_ hI_ ) rfl (fun xx22_ Sx17_ px20_ => ?_) (fun u_ Sx17_ px20_ => ?_)
        · obtain ⟨px20m, hIx18_, hFx19_, px20_⟩ := px20_
          refine Or.inr ⟨_, _, rfl, by first | exact px20m | (simp only [List.mem_cons, List.not_mem_nil, or_false] at px20m ⊢; omega), hIx18_, ai_fr_tr hF_ (fr_le hFx19_ rfl), ?_⟩
          exact px20_.2
        · exact absurd rfl px20_.2.2.2.1
      · have cx16_ : ¬ ((S0_.1 3 k_.toNat 0) = 0) := of_decide_eq_false cx16_
        refine sm_T_go 2 (c1 := (27, [some (.inr (.inr (some (12, 0)))), some (.inl k_)], [.inl 1], S0_)) rfl ?_
        refine sm_T_cale (d1_ := 0) (Q1_ := vq_265e 1 S0_) (Q2_ := (fun ex_ S1_ => ex_ ∈ ([0] : List Nat) ∧ vx_265e 1 S0_ S1_)) rfl rfl (by decide) (vc_265e 1 S0_ hI_ ) rfl (fun xx28_ Sx23_ px26_ => ?_) (fun u_ Sx23_ px26_ => ?_)
        · exact absurd px26_.2.2.2.1 (by decide)
        obtain ⟨rfl, -, -, px26_, rfl⟩ := px26_
        refine sm_T_go 3 (c1 := (35, [some (.inr (.inr (some (12, 0)))), some (.inl k_)], [.inl k_, .inr (.inr (some (110, 0)))], S0_)) rfl ?_
        refine sm_T_aald (t0 := 4) (n := 6) rfl rfl (by omega) (by omega) ?_
        refine sm_T_ra rfl (Or.inl ⟨_, _, rfl, rfl, hI_, hF_, ?_⟩)
        exact ⟨rfl, by omega, by omega⟩
end
/-! 99.zj1f -/
section
/-! ChipFlow.libraryAt -/
def vw_271 : sx_Wl := ([], [], [])
def vq_271 (k_ : Int) (S0_ : sm_S) (u_ : Option sm_V) (S1_ : sm_S) : Prop := u_ = some (.inr (.inr (some (5, k_.toNat)))) ∧ gi S1_ ∧ ai_fr (sx_W vw_271) S0_ S1_ ∧ (S0_ = S1_ ∧ (0 ≤ k_ ∧ k_ < 3) ∧ S0_.1 5 k_.toNat 0 = 1)
def vx_271 (k_ : Int) (S0_ : sm_S) (S1_ : sm_S) : Prop := gi S1_ ∧ ai_fr (sx_W vw_271) S0_ S1_ ∧ (S1_ = S0_)
set_option maxHeartbeats 400000 in
theorem vc_271 {sc_ : Nat × (Nat → Int)} (k_ : Int) (S0_ : sm_S) (hI_ : gi S0_)  : sm_T (mt_P sc_) 1 271 (0, [some (.inr (.inr (some (12, 0)))), some (.inl k_)], [], S0_) (fun ro9_ => (∃ u_ S1_, ro9_ = (.inl u_, S1_, 0) ∧ vq_271 k_ S0_ u_ S1_) ∨ ∃ ex_ S1_, ro9_ = (.inr ex_, S1_, 1) ∧ ex_ ∈ ([0] : List Nat) ∧ vx_271 k_ S0_ S1_) := by
  have hF_ : ai_fr (sx_W vw_271) S0_ S0_ := ai_fr_rf
  refine sm_T_go 1 (c1 := (1, [some (.inr (.inr (some (12, 0)))), some (.inl k_)], [.inl k_], S0_)) rfl ?_
  refine sm_T_b0 (a := 2) (z := 24) rfl (fun cx1_ => ?_) (fun cx1_ => ?_)
  · have cx1_ : k_ < 0 := of_decide_eq_true cx1_
    refine sm_T_go 1 (c1 := (26, [some (.inr (.inr (some (12, 0)))), some (.inl k_)], [.inl 0], S0_)) rfl ?_
    refine sm_T_cale (d1_ := 0) (Q1_ := vq_265e 0 S0_) (Q2_ := (fun ex_ S1_ => ex_ ∈ ([0] : List Nat) ∧ vx_265e 0 S0_ S1_)) rfl rfl (by decide) (vc_265e 0 S0_ hI_ ) rfl (fun xx7_ Sx2_ px5_ => ?_) (fun u_ Sx2_ px5_ => ?_)
    · obtain ⟨px5m, hIx3_, hFx4_, px5_⟩ := px5_
      refine Or.inr ⟨_, _, rfl, by first | exact px5m | (simp only [List.mem_cons, List.not_mem_nil, or_false] at px5m ⊢; omega), hIx3_, ai_fr_tr hF_ (fr_le hFx4_ rfl), ?_⟩
      exact px5_.2
    · exact absurd rfl px5_.2.2.2.1
  · have cx1_ : ¬ (k_ < 0) := of_decide_eq_false cx1_
    refine sm_T_go 2 (c1 := (6, [some (.inr (.inr (some (12, 0)))), some (.inl k_)], [.inl 3, .inl k_], S0_)) rfl ?_
    refine sm_T_br (a := 3) (z := 19) rfl (fun cx8_ => ?_) (fun cx8_ => ?_)
    · have cx8_ : 3 ≤ k_ := of_decide_eq_true cx8_
      refine sm_T_go 1 (c1 := (26, [some (.inr (.inr (some (12, 0)))), some (.inl k_)], [.inl 0], S0_)) rfl ?_
      refine sm_T_cale (d1_ := 0) (Q1_ := vq_265e 0 S0_) (Q2_ := (fun ex_ S1_ => ex_ ∈ ([0] : List Nat) ∧ vx_265e 0 S0_ S1_)) rfl rfl (by decide) (vc_265e 0 S0_ hI_ ) rfl (fun xx14_ Sx9_ px12_ => ?_) (fun u_ Sx9_ px12_ => ?_)
      · obtain ⟨px12m, hIx10_, hFx11_, px12_⟩ := px12_
        refine Or.inr ⟨_, _, rfl, by first | exact px12m | (simp only [List.mem_cons, List.not_mem_nil, or_false] at px12m ⊢; omega), hIx10_, ai_fr_tr hF_ (fr_le hFx11_ rfl), ?_⟩
        exact px12_.2
      · exact absurd rfl px12_.2.2.2.1
    · have cx8_ : ¬ (3 ≤ k_) := of_decide_eq_false cx8_
      refine sm_T_go 3 (c1 := (14, [some (.inr (.inr (some (12, 0)))), some (.inl k_)], [.inl k_, .inr (.inr (some (111, 0)))], S0_)) rfl ?_
      refine sm_T_aald (t0 := 5) (n := 3) rfl rfl (by omega) (by omega) ?_
      have bx15_ : 0 ≤ S0_.1 5 k_.toNat 0 ∧ S0_.1 5 k_.toNat 0 ≤ 1 := hI_.1 5 k_.toNat 0 rfl
      refine sm_T_go 1 (c1 := (18, [some (.inr (.inr (some (12, 0)))), some (.inl k_)], [.inl (S0_.1 5 k_.toNat 0)], S0_)) rfl ?_
      refine sm_T_b0 (a := 0) (z := 7) rfl (fun cx16_ => ?_) (fun cx16_ => ?_)
      · have cx16_ : (S0_.1 5 k_.toNat 0) = 0 := of_decide_eq_true cx16_
        refine sm_T_go 1 (c1 := (26, [some (.inr (.inr (some (12, 0)))), some (.inl k_)], [.inl 0], S0_)) rfl ?_
        refine sm_T_cale (d1_ := 0) (Q1_ := vq_265e 0 S0_) (Q2_ := (fun ex_ S1_ => ex_ ∈ ([0] : List Nat) ∧ vx_265e 0 S0_ S1_)) rfl rfl (by decide) (vc_265e 0 S0_ hI_ ) rfl (fun xx22_ Sx17_ px20_ => ?_) (fun u_ Sx17_ px20_ => ?_)
        · obtain ⟨px20m, hIx18_, hFx19_, px20_⟩ := px20_
          refine Or.inr ⟨_, _, rfl, by first | exact px20m | (simp only [List.mem_cons, List.not_mem_nil, or_false] at px20m ⊢; omega), hIx18_, ai_fr_tr hF_ (fr_le hFx19_ rfl), ?_⟩
          exact px20_.2
        · exact absurd rfl px20_.2.2.2.1
      · have cx16_ : ¬ ((S0_.1 5 k_.toNat 0) = 0) := of_decide_eq_false cx16_
        refine sm_T_go 2 (c1 := (26, [some (.inr (.inr (some (12, 0)))), some (.inl k_)], [.inl 1], S0_)) rfl ?_
        refine sm_T_cale (d1_ := 0) (Q1_ := vq_265e 1 S0_) (Q2_ := (fun ex_ S1_ => ex_ ∈ ([0] : List Nat) ∧ vx_265e 1 S0_ S1_)) rfl rfl (by decide) (vc_265e 1 S0_ hI_ ) rfl (fun xx28_ Sx23_ px26_ => ?_) (fun u_ Sx23_ px26_ => ?_)
        · exact absurd px26_.2.2.2.1 (by decide)
        obtain ⟨rfl, -, -, px26_, rfl⟩ := px26_
        refine sm_T_go 3 (c1 := (34, [some (.inr (.inr (some (12, 0)))), some (.inl k_)], [.inl k_, .inr (.inr (some (111, 0)))], S0_)) rfl ?_
        refine sm_T_aald (t0 := 5) (n := 3) rfl rfl (by omega) (by omega) ?_
        refine sm_T_ra rfl (Or.inl ⟨_, _, rfl, rfl, hI_, hF_, ?_⟩)
        exact ⟨rfl, by omega, by omega⟩
end
/-! 99.zj1g -/
section
/-! ChipFlow.chipAt -/
def vw_272 : sx_Wl := ([], [], [])
def vq_272 (k_ : Int) (S0_ : sm_S) (u_ : Option sm_V) (S1_ : sm_S) : Prop := u_ = some (.inr (.inr (some (2, k_.toNat)))) ∧ gi S1_ ∧ ai_fr (sx_W vw_272) S0_ S1_ ∧ (S0_ = S1_ ∧ (0 ≤ k_ ∧ k_ < 4) ∧ S0_.1 2 k_.toNat 0 = 1)
def vx_272 (k_ : Int) (S0_ : sm_S) (S1_ : sm_S) : Prop := gi S1_ ∧ ai_fr (sx_W vw_272) S0_ S1_ ∧ (S1_ = S0_)
set_option maxHeartbeats 400000 in
theorem vc_272 {sc_ : Nat × (Nat → Int)} (k_ : Int) (S0_ : sm_S) (hI_ : gi S0_)  : sm_T (mt_P sc_) 1 272 (0, [some (.inr (.inr (some (12, 0)))), some (.inl k_)], [], S0_) (fun ro9_ => (∃ u_ S1_, ro9_ = (.inl u_, S1_, 0) ∧ vq_272 k_ S0_ u_ S1_) ∨ ∃ ex_ S1_, ro9_ = (.inr ex_, S1_, 1) ∧ ex_ ∈ ([0] : List Nat) ∧ vx_272 k_ S0_ S1_) := by
  have hF_ : ai_fr (sx_W vw_272) S0_ S0_ := ai_fr_rf
  refine sm_T_go 1 (c1 := (1, [some (.inr (.inr (some (12, 0)))), some (.inl k_)], [.inl k_], S0_)) rfl ?_
  refine sm_T_b0 (a := 2) (z := 24) rfl (fun cx1_ => ?_) (fun cx1_ => ?_)
  · have cx1_ : k_ < 0 := of_decide_eq_true cx1_
    refine sm_T_go 1 (c1 := (26, [some (.inr (.inr (some (12, 0)))), some (.inl k_)], [.inl 0], S0_)) rfl ?_
    refine sm_T_cale (d1_ := 0) (Q1_ := vq_265e 0 S0_) (Q2_ := (fun ex_ S1_ => ex_ ∈ ([0] : List Nat) ∧ vx_265e 0 S0_ S1_)) rfl rfl (by decide) (vc_265e 0 S0_ hI_ ) rfl (fun xx7_ Sx2_ px5_ => ?_) (fun u_ Sx2_ px5_ => ?_)
    · obtain ⟨px5m, hIx3_, hFx4_, px5_⟩ := px5_
      refine Or.inr ⟨_, _, rfl, by first | exact px5m | (simp only [List.mem_cons, List.not_mem_nil, or_false] at px5m ⊢; omega), hIx3_, ai_fr_tr hF_ (fr_le hFx4_ rfl), ?_⟩
      exact px5_.2
    · exact absurd rfl px5_.2.2.2.1
  · have cx1_ : ¬ (k_ < 0) := of_decide_eq_false cx1_
    refine sm_T_go 2 (c1 := (6, [some (.inr (.inr (some (12, 0)))), some (.inl k_)], [.inl 4, .inl k_], S0_)) rfl ?_
    refine sm_T_br (a := 3) (z := 19) rfl (fun cx8_ => ?_) (fun cx8_ => ?_)
    · have cx8_ : 4 ≤ k_ := of_decide_eq_true cx8_
      refine sm_T_go 1 (c1 := (26, [some (.inr (.inr (some (12, 0)))), some (.inl k_)], [.inl 0], S0_)) rfl ?_
      refine sm_T_cale (d1_ := 0) (Q1_ := vq_265e 0 S0_) (Q2_ := (fun ex_ S1_ => ex_ ∈ ([0] : List Nat) ∧ vx_265e 0 S0_ S1_)) rfl rfl (by decide) (vc_265e 0 S0_ hI_ ) rfl (fun xx14_ Sx9_ px12_ => ?_) (fun u_ Sx9_ px12_ => ?_)
      · obtain ⟨px12m, hIx10_, hFx11_, px12_⟩ := px12_
        refine Or.inr ⟨_, _, rfl, by first | exact px12m | (simp only [List.mem_cons, List.not_mem_nil, or_false] at px12m ⊢; omega), hIx10_, ai_fr_tr hF_ (fr_le hFx11_ rfl), ?_⟩
        exact px12_.2
      · exact absurd rfl px12_.2.2.2.1
    · have cx8_ : ¬ (4 ≤ k_) := of_decide_eq_false cx8_
      refine sm_T_go 3 (c1 := (14, [some (.inr (.inr (some (12, 0)))), some (.inl k_)], [.inl k_, .inr (.inr (some (112, 0)))], S0_)) rfl ?_
      refine sm_T_aald (t0 := 6) (n := 4) rfl rfl (by omega) (by omega) ?_
      have bx15_ : 0 ≤ S0_.1 2 k_.toNat 0 ∧ S0_.1 2 k_.toNat 0 ≤ 1 := hI_.1 2 k_.toNat 0 rfl
      refine sm_T_go 1 (c1 := (18, [some (.inr (.inr (some (12, 0)))), some (.inl k_)], [.inl (S0_.1 2 k_.toNat 0)], S0_)) rfl ?_
      refine sm_T_b0 (a := 0) (z := 7) rfl (fun cx16_ => ?_) (fun cx16_ => ?_)
      · have cx16_ : (S0_.1 2 k_.toNat 0) = 0 := of_decide_eq_true cx16_
        refine sm_T_go 1 (c1 := (26, [some (.inr (.inr (some (12, 0)))), some (.inl k_)], [.inl 0], S0_)) rfl ?_
        refine sm_T_cale (d1_ := 0) (Q1_ := vq_265e 0 S0_) (Q2_ := (fun ex_ S1_ => ex_ ∈ ([0] : List Nat) ∧ vx_265e 0 S0_ S1_)) rfl rfl (by decide) (vc_265e 0 S0_ hI_ ) rfl (fun xx22_ Sx17_ px20_ => ?_) (fun u_ Sx17_ px20_ => ?_)
        · obtain ⟨px20m, hIx18_, hFx19_, px20_⟩ := px20_
          refine Or.inr ⟨_, _, rfl, by first | exact px20m | (simp only [List.mem_cons, List.not_mem_nil, or_false] at px20m ⊢; omega), hIx18_, ai_fr_tr hF_ (fr_le hFx19_ rfl), ?_⟩
          exact px20_.2
        · exact absurd rfl px20_.2.2.2.1
      · have cx16_ : ¬ ((S0_.1 2 k_.toNat 0) = 0) := of_decide_eq_false cx16_
        refine sm_T_go 2 (c1 := (26, [some (.inr (.inr (some (12, 0)))), some (.inl k_)], [.inl 1], S0_)) rfl ?_
        refine sm_T_cale (d1_ := 0) (Q1_ := vq_265e 1 S0_) (Q2_ := (fun ex_ S1_ => ex_ ∈ ([0] : List Nat) ∧ vx_265e 1 S0_ S1_)) rfl rfl (by decide) (vc_265e 1 S0_ hI_ ) rfl (fun xx28_ Sx23_ px26_ => ?_) (fun u_ Sx23_ px26_ => ?_)
        · exact absurd px26_.2.2.2.1 (by decide)
        obtain ⟨rfl, -, -, px26_, rfl⟩ := px26_
        refine sm_T_go 3 (c1 := (34, [some (.inr (.inr (some (12, 0)))), some (.inl k_)], [.inl k_, .inr (.inr (some (112, 0)))], S0_)) rfl ?_
        refine sm_T_aald (t0 := 6) (n := 4) rfl rfl (by omega) (by omega) ?_
        refine sm_T_ra rfl (Or.inl ⟨_, _, rfl, rfl, hI_, hF_, ?_⟩)
        exact ⟨rfl, by omega, by omega⟩
end
/-! 99.zj2a -/
section
/-! the face of the class: small calls; written by wip/p55/gen/vg -/
/-! ChipFlow.fault -/
def vw_215 : sx_Wl := ([], [], [])
def vq_215  (S0_ : sm_S) (u_ : Option sm_V) (S1_ : sm_S) : Prop := ∃ v_ : Int, u_ = some (.inl v_) ∧ gi S1_ ∧ ai_fr (sx_W vw_215) S0_ S1_ ∧ (True)
set_option maxHeartbeats 400000 in
theorem vc_215 {sc_ : Nat × (Nat → Int)}  (S0_ : sm_S) (hI_ : gi S0_)  : sm_T (mt_P sc_) 0 215 (0, [some (.inr (.inr (some (12, 0))))], [], S0_) (fun ro9_ => ∃ u_ S1_, ro9_ = (.inl u_, S1_, 0) ∧ vq_215  S0_ u_ S1_) := by
  have hF_ : ai_fr (sx_W vw_215) S0_ S0_ := ai_fr_rf
  have bx1_ : 0 ≤ S0_.1 12 0 10 ∧ S0_.1 12 0 10 ≤ 23 := hI_.1 12 0 10 rfl
  refine sm_T_go 2 (c1 := (4, [some (.inr (.inr (some (12, 0))))], [.inl (S0_.1 12 0 10)], S0_)) rfl ?_
  refine sm_T_ri rfl ⟨_, _, rfl, _, rfl, hI_, hF_, ?_⟩
  trivial
end
/-! 99.zj2b -/
section
/-! ChipFlow.tape -/
def vw_216 : sx_Wl := ([], [], [])
def vq_216  (S0_ : sm_S) (u_ : Option sm_V) (S1_ : sm_S) : Prop := ∃ v_ : Int, u_ = some (.inl v_) ∧ gi S1_ ∧ ai_fr (sx_W vw_216) S0_ S1_ ∧ (v_ = (S1_.1 10 0 1) ∧ S1_ = S0_)
set_option maxHeartbeats 400000 in
theorem vc_216 {sc_ : Nat × (Nat → Int)}  (S0_ : sm_S) (hI_ : gi S0_)  : sm_T (mt_P sc_) 0 216 (0, [some (.inr (.inr (some (12, 0))))], [], S0_) (fun ro9_ => ∃ u_ S1_, ro9_ = (.inl u_, S1_, 0) ∧ vq_216  S0_ u_ S1_) := by
  have hF_ : ai_fr (sx_W vw_216) S0_ S0_ := ai_fr_rf
  have bx1_ : 0 ≤ S0_.1 10 0 1 ∧ S0_.1 10 0 1 ≤ 1280 := hI_.1 10 0 1 rfl
  refine sm_T_go 3 (c1 := (7, [some (.inr (.inr (some (12, 0))))], [.inl (S0_.1 10 0 1)], S0_)) rfl ?_
  refine sm_T_ri rfl ⟨_, _, rfl, _, rfl, hI_, hF_, ?_⟩
  exact ⟨rfl, rfl⟩
end
