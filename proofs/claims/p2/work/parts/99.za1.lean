/-! the graph in the class; written by wip/p55/gen/vg -/

/-! the_ graph in the_ class: open addressing -/
theorem i_x1f : ∀ k_ : Fin 2048, i_xor (k_.val : Int) 1 = (k_.val : Int) + 1 - 2 * ((k_.val : Int) % 2) := by decide +kernel
theorem i_x1 {x_ : Int} (h_ : 0 ≤ x_ ∧ x_ ≤ 2047) : i_xor x_ 1 = x_ + 1 - 2 * (x_ % 2) := by
  have k_ := i_x1f ⟨x_.toNat, by omega⟩
  rw [show ((⟨x_.toNat, by omega⟩ : Fin 2048).val : Int) = x_ from Int.toNat_of_nonneg h_.1] at k_
  exact k_
theorem i_xc {x_ y_ : Int} : i_xor x_ y_ = i_xor y_ x_ := by
  unfold i_xor
  rw [Int32.xor_comm]
/-- an_ implication that omega doesn't look into -/
def imq (p_ q_ : Prop) : Prop := p_ → q_
def nz (u_ : Nat → Int) : Nat → Int := fun j_ => if u_ j_ = 0 then 0 else 1
def hpl (x_ y_ : Int) (j_ : Nat) : Nat := ((2027 * x_ + 31 * y_ + (j_ : Int)) % 4096).toNat
def gnd (G_ : pGr) : Prop := ∀ (i_ j_ : Nat) (p_ : Int × Int), G_[i_]? = some p_ → G_[j_]? = some p_ → i_ = j_
def bkr (F_ : Nat) (G_ : pGr) (u_ : Nat → Int) : Prop := (∀ j_, j_ < 4096 → u_ j_ = 0 ∨ ∃ k_, k_ < G_.length ∧ u_ j_ = ((F_ + k_ : Nat) : Int)) ∧ (∀ (k_ : Nat) (x_ y_ : Int), G_[k_]? = some (x_, y_) → ∃ j_, j_ < 4096 ∧ u_ (hpl x_ y_ j_) = ((F_ + k_ : Nat) : Int) ∧ ∀ i_, i_ < j_ → u_ (hpl x_ y_ i_) ≠ 0) ∧ cn1 (nz u_) 4096 = G_.length
theorem cn1_all {f_ : Nat → Int} : ∀ {n_ : Nat}, (∀ k_, k_ < n_ → f_ k_ = 1) → cn1 f_ n_ = n_
  | 0, _ => rfl
  | n_ + 1, h_ => by
    unfold cn1
    rw [cn1_all (fun k_ hk_ => h_ k_ (by omega)), if_pos (h_ n_ (by omega))]
theorem hpl_lt {x_ y_ : Int} {j_ : Nat} : hpl x_ y_ j_ < 4096 := by
  unfold hpl
  omega
theorem hpl_su {x_ y_ : Int} (q_ : Nat) (hq_ : q_ < 4096) : ∃ i_, i_ < 4096 ∧ hpl x_ y_ i_ = q_ := by
  refine ⟨(((q_ : Int) - (2027 * x_ + 31 * y_)) % 4096).toNat, by omega, ?_⟩
  unfold hpl
  omega
theorem g_fd_n {x_ y_ : Int} : ∀ {l_ : pGr} {k_ : Nat}, g_fd x_ y_ l_ k_ = none → ∀ i_ : Nat, l_[i_]? ≠ some (x_, y_)
  | [], k_, _, i_ => by simp
  | p_ :: l_, k_, h_, i_ => by
    unfold g_fd at h_
    split at h_
    · cases h_
    · rename_i g_
      cases i_ with
      | zero => intro e_; rw [List.getElem?_cons_zero] at e_; cases e_; exact g_ ⟨rfl, rfl⟩
      | succ i_ => rw [List.getElem?_cons_succ]; exact g_fd_n h_ i_
theorem g_fd_s {x_ y_ : Int} {G_ : pGr} (hn_ : gnd G_) {k_ : Nat} (h_ : G_[k_]? = some (x_, y_)) : g_fd x_ y_ G_ 0 = some k_ := by
  cases e_ : g_fd x_ y_ G_ 0 with
  | none => exact absurd h_ (g_fd_n e_ k_)
  | some i_ =>
    have q_ := (g_fd_b e_).2.2
    rw [Nat.sub_zero] at q_
    rw [hn_ i_ k_ _ q_ h_]
theorem bk_fd {F_ : Nat} {G_ : pGr} {u_ : Nat → Int} {a_ b_ : Int} {j_ : Nat} (h_ : bkr F_ G_ u_) (hG_ : G_.length ≤ 1000) (hF_ : 1 ≤ F_) (hj_ : j_ ≤ 4096) (h1_ : ∀ i_, i_ < j_ → u_ (hpl a_ b_ i_) ≠ 0 ∧ ∀ k_ : Nat, u_ (hpl a_ b_ i_) = ((F_ + k_ : Nat) : Int) → G_[k_]? ≠ some (a_, b_)) (h2_ : j_ = 4096 ∨ u_ (hpl a_ b_ j_) = 0) : u_ (hpl a_ b_ j_) = 0 ∧ j_ < 4096 ∧ g_fd a_ b_ G_ 0 = none := by
  have h3_ : j_ < 4096 := by
    by_cases z_ : j_ < 4096
    · exact z_
    · exfalso
      have e_ : cn1 (nz u_) 4096 = 4096 := cn1_all (fun k_ hk_ => by
        obtain ⟨i_, hi_, e_⟩ := hpl_su (x_ := a_) (y_ := b_) k_ hk_
        have q_ := (h1_ i_ (by omega)).1
        rw [e_] at q_
        exact if_neg q_)
      have := h_.2.2
      omega
  have h4_ : u_ (hpl a_ b_ j_) = 0 := by
    rcases h2_ with z_ | z_
    · omega
    · exact z_
  refine ⟨h4_, h3_, ?_⟩
  cases e_ : g_fd a_ b_ G_ 0 with
  | none => rfl
  | some k_ =>
    exfalso
    have q_ := (g_fd_b e_).2.2
    rw [Nat.sub_zero] at q_
    obtain ⟨i_, hi_, q1_, q2_⟩ := h_.2.1 k_ a_ b_ q_
    by_cases z_ : i_ < j_
    · exact (h1_ i_ z_).2 k_ q1_ q_
    · by_cases z2_ : i_ = j_
      · rw [z2_, h4_] at q1_
        omega
      · exact q2_ j_ (by omega) h4_
theorem gnd_ap {G_ : pGr} {a_ b_ : Int} (h_ : gnd G_) (hn_ : g_fd a_ b_ G_ 0 = none) : gnd (G_ ++ [(a_, b_)]) := by
  have key_ : ∀ (i_ : Nat) (p_ : Int × Int), (G_ ++ [(a_, b_)])[i_]? = some p_ → (i_ < G_.length ∧ G_[i_]? = some p_) ∨ (i_ = G_.length ∧ p_ = (a_, b_)) := by
    intro i_ p_ e_
    by_cases z_ : i_ < G_.length
    · rw [List.getElem?_append_left z_] at e_
      exact Or.inl ⟨z_, e_⟩
    · rw [List.getElem?_append_right (by omega)] at e_
      by_cases z2_ : i_ = G_.length
      · rw [z2_, Nat.sub_self, List.getElem?_cons_zero] at e_
        cases e_
        exact Or.inr ⟨z2_, rfl⟩
      · rw [show i_ - G_.length = (i_ - G_.length - 1) + 1 by omega, List.getElem?_cons_succ] at e_
        simp at e_
  intro i_ j_ p_ hi_ hj_
  rcases key_ i_ p_ hi_ with ⟨z1_, z2_⟩ | ⟨z1_, z2_⟩
  · rcases key_ j_ p_ hj_ with ⟨w1_, w2_⟩ | ⟨w1_, w2_⟩
    · exact h_ i_ j_ p_ z2_ w2_
    · rw [w2_] at z2_
      exact absurd z2_ (g_fd_n hn_ i_)
  · rcases key_ j_ p_ hj_ with ⟨w1_, w2_⟩ | ⟨w1_, w2_⟩
    · rw [z2_] at w2_
      exact absurd w2_ (g_fd_n hn_ j_)
    · omega
theorem ap_get {G_ : pGr} {a_ b_ x_ y_ : Int} {k_ : Nat} (e_ : (G_ ++ [(a_, b_)])[k_]? = some (x_, y_)) : (k_ < G_.length ∧ G_[k_]? = some (x_, y_)) ∨ (k_ = G_.length ∧ x_ = a_ ∧ y_ = b_) := by
  by_cases z_ : k_ < G_.length
  · rw [List.getElem?_append_left z_] at e_
    exact Or.inl ⟨z_, e_⟩
  · rw [List.getElem?_append_right (by omega)] at e_
    by_cases z2_ : k_ = G_.length
    · rw [z2_, Nat.sub_self, List.getElem?_cons_zero] at e_
      cases e_
      exact Or.inr ⟨z2_, rfl, rfl⟩
    · rw [show k_ - G_.length = (k_ - G_.length - 1) + 1 by omega, List.getElem?_cons_succ] at e_
      simp at e_
theorem bk_put {F_ : Nat} {G_ : pGr} {u_ w_ : Nat → Int} {a_ b_ : Int} {j_ : Nat} (h_ : bkr F_ G_ u_) (hF_ : 1 ≤ F_) (hj_ : j_ < 4096) (h1_ : ∀ i_, i_ < j_ → u_ (hpl a_ b_ i_) ≠ 0) (h2_ : u_ (hpl a_ b_ j_) = 0) (hw_ : ∀ k_, w_ k_ = if k_ = hpl a_ b_ j_ then ((F_ + G_.length : Nat) : Int) else u_ k_) : bkr F_ (G_ ++ [(a_, b_)]) w_ := by
  have hz_ : ∀ k_, u_ k_ ≠ 0 → w_ k_ = u_ k_ := fun k_ z_ => by
    rw [hw_ k_, if_neg (fun e_ => z_ (by rw [e_]; exact h2_))]
  refine ⟨fun k_ hk_ => ?_, fun k_ x_ y_ e_ => ?_, ?_⟩
  · rw [hw_ k_]
    by_cases e_ : k_ = hpl a_ b_ j_
    · rw [if_pos e_]
      exact Or.inr ⟨G_.length, by simp, rfl⟩
    · rw [if_neg e_]
      rcases h_.1 k_ hk_ with z_ | ⟨i_, z1_, z2_⟩
      · exact Or.inl z_
      · exact Or.inr ⟨i_, by simp only [List.length_append, List.length_cons, List.length_nil]; omega, z2_⟩
  · rcases ap_get e_ with ⟨z1_, z2_⟩ | ⟨z1_, z2_, z3_⟩
    · obtain ⟨i_, q1_, q2_, q3_⟩ := h_.2.1 k_ x_ y_ z2_
      refine ⟨i_, q1_, ?_, fun i1_ hi1_ => ?_⟩
      · rw [hz_ _ (by rw [q2_]; omega)]
        exact q2_
      · rw [hz_ _ (q3_ i1_ hi1_)]
        exact q3_ i1_ hi1_
    · rw [z1_, z2_, z3_]
      refine ⟨j_, hj_, by rw [hw_, if_pos rfl], fun i_ hi_ => ?_⟩
      rw [hz_ _ (h1_ i_ hi_)]
      exact h1_ i_ hi_
  · rw [cn1_up (f := nz u_) (g := nz w_) (j := hpl a_ b_ j_) (by unfold nz; rw [if_pos h2_]; decide) (by unfold nz; rw [hw_, if_pos rfl, if_neg (by omega)]) (fun k_ hk_ => by unfold nz; rw [hw_ k_, if_neg hk_]) hpl_lt, h_.2.2]
    simp
/-- the_ other designs are_ as_ they were -/
def idf (dd_ : Nat) (S_ S'_ : sm_S) : Prop := ∀ i_, i_ ≠ dd_ → (∀ k_, k_ < 10 → S'_.1 3 i_ k_ = S_.1 3 i_ k_) ∧ ∀ t_, t_ < 48 → 42 ≤ t_ → S'_.2.2.1 t_ (0 + i_) = S_.2.2.1 t_ (0 + i_)
theorem idf_rf {dd_ : Nat} {S_ : sm_S} : idf dd_ S_ S_ := fun _ _ => ⟨fun _ _ => rfl, fun _ _ _ => rfl⟩
theorem idf_tr {dd_ : Nat} {S_ S'_ S2_ : sm_S} (h_ : idf dd_ S_ S'_) (g_ : idf dd_ S'_ S2_) : idf dd_ S_ S2_ := fun i_ hi_ => ⟨fun k_ hk_ => ((g_ i_ hi_).1 k_ hk_).trans ((h_ i_ hi_).1 k_ hk_), fun t_ h1_ h2_ => ((g_ i_ hi_).2 t_ h1_ h2_).trans ((h_ i_ hi_).2 t_ h1_ h2_)⟩
theorem idf_fr {w_ : sx_Wl} {dd_ : Nat} {S_ S'_ : sm_S} (g_ : ai_fr (sx_W w_) S_ S'_) (h1_ : ∀ k_, k_ < 10 → (sx_W w_).1 3 k_ = false) (h2_ : ∀ t_, t_ < 48 → 42 ≤ t_ → (sx_W w_).2.1 t_ = false) : idf dd_ S_ S'_ := fun i_ _ => ⟨fun k_ hk_ => g_.1 3 i_ k_ (h1_ k_ hk_), fun t_ q1_ q2_ => fr_arr g_ (h2_ t_ q1_ q2_)⟩
theorem idf_pI {dd_ t_ i_ k_ : Nat} {S_ S'_ : sm_S} {v_ : Int} (h_ : idf dd_ S_ S'_) (g_ : t_ ≠ 3 ∨ i_ = dd_) : idf dd_ S_ (sm_pI S'_ t_ i_ k_ v_) := fun j_ hj_ => ⟨fun k1_ hk_ => by
  rw [← (h_ j_ hj_).1 k1_ hk_]
  exact sm_up_ne (fun z_ => by
    rcases g_ with g_ | g_
    · exact g_ z_.1.symm
    · exact hj_ (z_.2.1.trans g_)), (h_ j_ hj_).2⟩
theorem idf_aI {dd_ t_ i_ k_ : Nat} {S_ S'_ : sm_S} {v_ : Int} (h_ : idf dd_ S_ S'_) (g_ : (t_ < 42 ∨ 47 < t_) ∨ i_ = 0 + dd_) : idf dd_ S_ (sm_aI S'_ t_ i_ k_ v_) := fun j_ hj_ => ⟨(h_ j_ hj_).1, fun t1_ q1_ q2_ => by
  rw [← (h_ j_ hj_).2 t1_ q1_ q2_]
  funext k1_
  exact sm_up_ne (fun z_ => by
    rcases g_ with g_ | g_
    · have := z_.1
      omega
    · have := z_.2.1
      omega)⟩
theorem idf_aL {dd_ t_ i_ k_ : Nat} {S_ S'_ : sm_S} {v_ : Int} (h_ : idf dd_ S_ S'_) : idf dd_ S_ (sm_aL S'_ t_ i_ k_ v_) := h_
theorem idf_pR {dd_ t_ i_ k_ : Nat} {S_ S'_ : sm_S} {v_ : Option Nat} (h_ : idf dd_ S_ S'_) : idf dd_ S_ (sm_pR S'_ t_ i_ k_ v_) := h_
theorem idf_ac {dd_ t_ i_ t1_ i1_ a_ c_ k_ : Nat} {S_ S'_ : sm_S} (h_ : idf dd_ S_ S'_) (g_ : (t1_ < 42 ∨ 47 < t1_) ∨ i1_ = 0 + dd_) : idf dd_ S_ (sm_acI S'_ t_ i_ t1_ i1_ a_ c_ k_) := fun j_ hj_ => ⟨(h_ j_ hj_).1, fun t2_ q1_ q2_ => by
  rw [← (h_ j_ hj_).2 t2_ q1_ q2_]
  exact sm_acI_ne (fun z_ => by
    rcases g_ with g_ | g_
    · have := z_.1
      omega
    · have := z_.2
      omega)⟩
theorem idf_acL {dd_ t_ i_ t1_ i1_ a_ c_ k_ : Nat} {S_ S'_ : sm_S} (h_ : idf dd_ S_ S'_) : idf dd_ S_ (sm_acL S'_ t_ i_ t1_ i1_ a_ c_ k_) := h_
/-- the_ class's graph -/
def cgx (dd_ F_ : Nat) (G_ : pGr) (S_ : sm_S) : Prop := S_.2.1 1 0 1 = some dd_ ∧ (F_ : Int) = 1 + S_.1 3 dd_ 1 + S_.1 3 dd_ 2 ∧ (1 ≤ F_ ∧ F_ ≤ 13) ∧ S_.1 3 dd_ 4 = ((F_ + G_.length : Nat) : Int) ∧ G_.length ≤ 1000 ∧ (∀ (k_ : Nat) (x_ y_ : Int), G_[k_]? = some (x_, y_) → S_.2.2.1 42 (0 + dd_) (F_ + k_) = x_ ∧ S_.2.2.1 43 (0 + dd_) (F_ + k_) = y_) ∧ gnd G_ ∧ bkr F_ G_ (S_.2.2.1 29 0)
def cgl (dd_ F_ : Nat) (G_ : pGr) (S_ : sm_S) : Prop := ∃ G1_, cgx dd_ F_ G1_ S_ ∧ ((G_.length ≤ 1000 ∧ G1_ = G_ ∧ S_.1 1 0 8 = 0) ∨ (1000 < G_.length ∧ G1_.length = 1000 ∧ S_.1 1 0 8 = 1))
theorem cgx_up {dd_ F_ : Nat} {G_ : pGr} {S_ S'_ : sm_S} {a_ b_ : Int} {j_ : Nat} (h_ : cgx dd_ F_ G_ S_) (hl_ : G_.length < 1000) (hj_ : j_ < 4096) (h1_ : ∀ i_, i_ < j_ → S_.2.2.1 29 0 (hpl a_ b_ i_) ≠ 0) (h2_ : S_.2.2.1 29 0 (hpl a_ b_ j_) = 0) (hn_ : g_fd a_ b_ G_ 0 = none) (e0_ : S'_.2.1 1 0 1 = S_.2.1 1 0 1) (e1_ : S'_.1 3 dd_ 1 = S_.1 3 dd_ 1) (e2_ : S'_.1 3 dd_ 2 = S_.1 3 dd_ 2) (e4_ : S'_.1 3 dd_ 4 = S_.1 3 dd_ 4 + 1) (e29_ : ∀ k_, S'_.2.2.1 29 0 k_ = if k_ = hpl a_ b_ j_ then ((F_ + G_.length : Nat) : Int) else S_.2.2.1 29 0 k_) (e42_ : ∀ k_, S'_.2.2.1 42 (0 + dd_) k_ = if k_ = F_ + G_.length then a_ else S_.2.2.1 42 (0 + dd_) k_) (e43_ : ∀ k_, S'_.2.2.1 43 (0 + dd_) k_ = if k_ = F_ + G_.length then b_ else S_.2.2.1 43 (0 + dd_) k_) : cgx dd_ F_ (G_ ++ [(a_, b_)]) S'_ := by
  obtain ⟨x1_, x2_, x3_, x4_, x5_, x6_, x7_, x8_⟩ := h_
  refine ⟨e0_.trans x1_, by rw [e1_, e2_]; exact x2_, x3_, ?_, ?_, fun k_ x_ y_ e_ => ?_, gnd_ap x7_ hn_, bk_put x8_ x3_.1 hj_ h1_ h2_ e29_⟩
  · rw [e4_, x4_]
    simp only [List.length_append, List.length_cons, List.length_nil]
    push_cast
    omega
  · simp only [List.length_append, List.length_cons, List.length_nil]
    omega
  · rw [e42_, e43_]
    rcases ap_get e_ with ⟨z1_, z2_⟩ | ⟨z1_, z2_, z3_⟩
    · rw [if_neg (by omega), if_neg (by omega)]
      exact x6_ k_ x_ y_ z2_
    · rw [if_pos (by omega), if_pos (by omega)]
      exact ⟨z2_.symm, z3_.symm⟩
/-- the_ same graph, if nothing of_ it_ was_ written -/
theorem cgx_cg {dd_ F_ : Nat} {G_ : pGr} {S_ S'_ : sm_S} (h_ : cgx dd_ F_ G_ S_) (e0_ : S'_.2.1 1 0 1 = S_.2.1 1 0 1) (e1_ : S'_.1 3 dd_ 1 = S_.1 3 dd_ 1) (e2_ : S'_.1 3 dd_ 2 = S_.1 3 dd_ 2) (e4_ : S'_.1 3 dd_ 4 = S_.1 3 dd_ 4) (e29_ : S'_.2.2.1 29 0 = S_.2.2.1 29 0) (e42_ : S'_.2.2.1 42 (0 + dd_) = S_.2.2.1 42 (0 + dd_)) (e43_ : S'_.2.2.1 43 (0 + dd_) = S_.2.2.1 43 (0 + dd_)) : cgx dd_ F_ G_ S'_ := by
  unfold cgx at h_ ⊢
  rw [e0_, e1_, e2_, e4_, e29_, e42_, e43_]
  exact h_
theorem cgl_fr {w_ : sx_Wl} {dd_ F_ : Nat} {G_ : pGr} {S_ S'_ : sm_S} (h_ : cgl dd_ F_ G_ S_) (g_ : ai_fr (sx_W w_) S_ S'_) (h0_ : (sx_W w_).2.2 1 1 = false) (h1_ : (sx_W w_).1 3 1 = false) (h2_ : (sx_W w_).1 3 2 = false) (h3_ : (sx_W w_).1 3 4 = false) (h4_ : (sx_W w_).2.1 29 = false) (h5_ : (sx_W w_).2.1 42 = false) (h6_ : (sx_W w_).2.1 43 = false) (h7_ : (sx_W w_).1 1 8 = false) : cgl dd_ F_ G_ S'_ := by
  obtain ⟨G1_, x1_, x2_⟩ := h_
  refine ⟨G1_, cgx_cg x1_ (g_.2.1 1 0 1 h0_) (g_.1 3 dd_ 1 h1_) (g_.1 3 dd_ 2 h2_) (g_.1 3 dd_ 4 h3_) (fr_arr g_ h4_) (fr_arr g_ h5_) (fr_arr g_ h6_), ?_⟩
  rw [g_.1 1 0 8 h7_]
  exact x2_
theorem cgl_d {dd_ F_ : Nat} {G_ : pGr} {S_ : sm_S} (h_ : cgl dd_ F_ G_ S_) : S_.2.1 1 0 1 = some dd_ := by
  obtain ⟨G1_, x_, _⟩ := h_
  exact x_.1
theorem cgl_f {dd_ F_ : Nat} {G_ : pGr} {S_ : sm_S} (h_ : cgl dd_ F_ G_ S_) : (S_.1 1 0 8 = 0 ↔ G_.length ≤ 1000) ∧ (S_.1 1 0 8 = 0 ∨ S_.1 1 0 8 = 1) := by
  obtain ⟨G1_, _, x_⟩ := h_
  rcases x_ with x_ | x_ <;> omega
/-- what an_ AND_ gives: out_ of_ the_ exact graph -/
theorem an_go {dd_ F_ : Nat} {G_ G1_ : pGr} {S_ S1_ : sm_S} {A_ B_ x_ y_ v_ : Int} (hx_ : cgx dd_ F_ G1_ S_) (h0_ : (G_.length ≤ 1000 ∧ G1_ = G_ ∧ S_.1 1 0 8 = 0) ∨ (1000 < G_.length ∧ G1_.length = 1000 ∧ S_.1 1 0 8 = 1)) (hab_ : G_.length ≤ 1000 → x_ = A_ ∧ y_ = B_) (hr_ : (cgx dd_ F_ (g_an F_ G1_ x_ y_).2 S1_ ∧ v_ = (g_an F_ G1_ x_ y_).1 ∧ S1_.1 1 0 8 = S_.1 1 0 8) ∨ (G1_.length = 1000 ∧ (g_an F_ G1_ x_ y_).2.length = 1001 ∧ cgx dd_ F_ G1_ S1_ ∧ S1_.1 1 0 8 = 1)) : cgl dd_ F_ (g_an F_ G_ A_ B_).2 S1_ ∧ ((g_an F_ G_ A_ B_).2.length ≤ 1000 → v_ = (g_an F_ G_ A_ B_).1) := by
  have hm_ := g_an_le (F_ := F_) (G_ := G_) (a_ := A_) (b_ := B_)
  have hm1_ := g_an_le (F_ := F_) (G_ := G1_) (a_ := x_) (b_ := y_)
  rcases h0_ with ⟨z1_, z2_, z3_⟩ | ⟨z1_, z2_, z3_⟩
  · obtain ⟨e1_, e2_⟩ := hab_ z1_
    subst z2_
    subst e1_
    subst e2_
    rcases hr_ with ⟨r1_, r2_, r3_⟩ | ⟨r1_, r2_, r3_, r4_⟩
    · exact ⟨⟨_, r1_, Or.inl ⟨r1_.2.2.2.2.1, rfl, r3_.trans z3_⟩⟩, fun _ => r2_⟩
    · exact ⟨⟨_, r3_, Or.inr ⟨by omega, r1_, r4_⟩⟩, fun z_ => by omega⟩
  · refine ⟨?_, fun z_ => by omega⟩
    rcases hr_ with ⟨r1_, r2_, r3_⟩ | ⟨r1_, r2_, r3_, r4_⟩
    · have := r1_.2.2.2.2.1
      exact ⟨_, r1_, Or.inr ⟨by omega, by omega, r3_.trans z3_⟩⟩
    · exact ⟨_, r3_, Or.inr ⟨by omega, r1_, r4_⟩⟩
theorem g_an_mn {F_ : Nat} {G_ : pGr} {x_ y_ a_ b_ : Int} (h_ : (x_ < y_ ∧ a_ = x_ ∧ b_ = y_) ∨ (y_ ≤ x_ ∧ a_ = y_ ∧ b_ = x_)) : g_an F_ G_ x_ y_ = g_a2 F_ G_ a_ b_ := by
  unfold g_an
  rcases h_ with ⟨h1_, h2_, h3_⟩ | ⟨h1_, h2_, h3_⟩
  · rw [if_pos h1_, h2_, h3_]
  · rw [if_neg (by omega), h2_, h3_]
theorem g_a2_f {F_ k_ : Nat} {G_ : pGr} {x_ y_ : Int} (h0_ : ¬ (x_ = 0 ∨ x_ = i_xor y_ 1)) (h1_ : ¬ (x_ = 1 ∨ x_ = y_)) (h_ : g_fd x_ y_ G_ 0 = some k_) : g_a2 F_ G_ x_ y_ = (2 * ((F_ + k_ : Nat) : Int), G_) := by
  unfold g_a2
  rw [if_neg h0_, if_neg h1_, h_]
theorem g_a2_n {F_ : Nat} {G_ : pGr} {x_ y_ : Int} (h0_ : ¬ (x_ = 0 ∨ x_ = i_xor y_ 1)) (h1_ : ¬ (x_ = 1 ∨ x_ = y_)) (h_ : g_fd x_ y_ G_ 0 = none) : g_a2 F_ G_ x_ y_ = (2 * ((F_ + G_.length : Nat) : Int), G_ ++ [(x_, y_)]) := by
  unfold g_a2
  rw [if_neg h0_, if_neg h1_, h_]
