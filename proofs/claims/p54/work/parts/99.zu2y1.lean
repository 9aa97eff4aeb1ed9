/-! patterns, faults and sets; written by wip/p55/gen/vg -/

/-! what shows what: P_ f_ p_: pattern p_ shows fault f_ -/
/-- the_ least pattern that shows f_, below B_; -1: none -/
def lsP (P_ : Nat → Nat → Bool) (B_ : Int) (f_ : Nat) (v_ : Int) : Prop := (v_ = -1 ∧ ∀ p_ : Nat, (p_ : Int) < B_ → P_ f_ p_ = false) ∨ ∃ q_ : Nat, v_ = (q_ : Int) ∧ (q_ : Int) < B_ ∧ P_ f_ q_ = true ∧ ∀ p_ : Nat, p_ < q_ → P_ f_ p_ = false
theorem lsP_u {P_ : Nat → Nat → Bool} {B_ : Int} {f_ : Nat} {v_ w_ : Int} (h_ : lsP P_ B_ f_ v_) (h'_ : lsP P_ B_ f_ w_) : v_ = w_ := by
  rcases h_ with ⟨a1_, a2_⟩ | ⟨q_, a1_, a2_, a3_, a4_⟩
  · rcases h'_ with ⟨c1_, c2_⟩ | ⟨r_, c1_, c2_, c3_, c4_⟩
    · rw [a1_, c1_]
    · exact absurd ((a2_ r_ c2_).symm.trans c3_) (by decide)
  · rcases h'_ with ⟨c1_, c2_⟩ | ⟨r_, c1_, c2_, c3_, c4_⟩
    · exact absurd ((c2_ q_ a2_).symm.trans a3_) (by decide)
    · rcases Nat.lt_trichotomy q_ r_ with z_ | z_ | z_
      · exact absurd ((c4_ q_ z_).symm.trans a3_) (by decide)
      · rw [a1_, c1_, z_]
      · exact absurd ((a4_ r_ z_).symm.trans c3_) (by decide)
theorem lsP_x (P_ : Nat → Nat → Bool) (B_ : Int) (f_ : Nat) : ∃ v_ : Int, lsP P_ B_ f_ v_ := by
  by_cases c_ : ∃ q_ : Nat, (q_ : Int) < B_ ∧ P_ f_ q_ = true
  · obtain ⟨q_, h1_, h2_⟩ := c_
    obtain ⟨k_, k1_, k2_, k3_⟩ := lst9 (P_ := P_ f_) (q_ + 1) q_ (Nat.lt_succ_self q_) h2_
    exact ⟨(k_ : Int), Or.inr ⟨k_, rfl, by omega, k2_, k3_⟩⟩
  · refine ⟨-1, Or.inl ⟨rfl, fun p_ hp_ => ?_⟩⟩
    cases z_ : P_ f_ p_
    · rfl
    · exact absurd ⟨p_, hp_, z_⟩ c_
/-- how_ many of_ a_ list -/
def cn9 (p_ : Nat → Bool) : List Nat → Nat
  | [] => 0
  | x_ :: l_ => (if p_ x_ = true then 1 else 0) + cn9 p_ l_
theorem cn9_ap (p_ : Nat → Bool) : ∀ (l_ m_ : List Nat), cn9 p_ (l_ ++ m_) = cn9 p_ l_ + cn9 p_ m_
  | [], m_ => by
    show cn9 p_ m_ = 0 + cn9 p_ m_
    omega
  | x_ :: l_, m_ => by
    show (if p_ x_ = true then 1 else 0) + cn9 p_ (l_ ++ m_) = (if p_ x_ = true then 1 else 0) + cn9 p_ l_ + cn9 p_ m_
    rw [cn9_ap p_ l_ m_]
    omega
theorem cn9_t {p_ : Nat → Bool} {l_ : List Nat} {k_ x_ : Nat} (h_ : l_[k_]? = some x_) : cn9 p_ (l_.take (k_ + 1)) = cn9 p_ (l_.take k_) + if p_ x_ = true then 1 else 0 := by
  rw [List.take_add_one, h_, cn9_ap]
  rfl
theorem cn9_er (p_ : Nat → Bool) : ∀ (l_ : List Nat) (k_ x_ : Nat), l_[k_]? = some x_ → cn9 p_ (l_.eraseIdx k_) + (if p_ x_ = true then 1 else 0) = cn9 p_ l_
  | [], k_, x_, h_ => by cases h_
  | y_ :: l_, 0, x_, h_ => by
    cases h_
    show cn9 p_ l_ + _ = _ + cn9 p_ l_
    omega
  | y_ :: l_, k_ + 1, x_, h_ => by
    have e_ := cn9_er p_ l_ k_ x_ h_
    show (if p_ y_ = true then 1 else 0) + cn9 p_ (l_.eraseIdx k_) + _ = (if p_ y_ = true then 1 else 0) + cn9 p_ l_
    omega
theorem cn9_1 {p_ : Nat → Bool} : ∀ {l_ : List Nat} {k_ x_ : Nat}, l_[k_]? = some x_ → p_ x_ = true → 1 ≤ cn9 p_ l_ := fun {l_ k_ x_} h_ q_ => by
  have e_ := cn9_er p_ l_ k_ x_ h_
  rw [if_pos q_] at e_
  omega
theorem cn9_l {p_ : Nat → Bool} : ∀ {l_ : List Nat}, cn9 p_ l_ ≤ l_.length
  | [] => Nat.le_refl 0
  | x_ :: l_ => by
    have e_ := cn9_l (p_ := p_) (l_ := l_)
    show (if p_ x_ = true then 1 else 0) + cn9 p_ l_ ≤ l_.length + 1
    split <;> omega
/-- all_ below n_ -/
def spr9 (Q_ : Nat → Bool) : Nat → Bool
  | 0 => true
  | n_ + 1 => spr9 Q_ n_ && Q_ n_
theorem spr9_f {Q_ : Nat → Bool} {m_ : Nat} (h_ : Q_ m_ = false) : ∀ {n_ : Nat}, m_ < n_ → spr9 Q_ n_ = false
  | 0, l_ => absurd l_ (Nat.not_lt_zero _)
  | n_ + 1, l_ => by
    show (spr9 Q_ n_ && Q_ n_) = false
    by_cases c_ : m_ = n_
    · rw [← c_, h_, Bool.and_false]
    · rw [spr9_f h_ (show m_ < n_ by omega), Bool.false_and]
theorem spr9_cg {Q_ R_ : Nat → Bool} : ∀ {n_ : Nat}, (∀ k_, k_ < n_ → Q_ k_ = R_ k_) → spr9 Q_ n_ = spr9 R_ n_
  | 0, _ => rfl
  | n_ + 1, h_ => by
    show (spr9 Q_ n_ && Q_ n_) = (spr9 R_ n_ && R_ n_)
    rw [spr9_cg (fun k_ hk_ => h_ k_ (Nat.lt_succ_of_lt hk_)), h_ n_ (Nat.lt_succ_self n_)]
/-- the_ set_ by faults -/
def bst9 (P_ : Nat → Nat → Bool) (le_ : Nat → Int) : Nat → List Nat
  | 0 => []
  | f_ + 1 => if le_ f_ ≠ -1 ∧ cn9 (P_ f_) (bst9 P_ le_ f_) = 0 then bst9 P_ le_ f_ ++ [(le_ f_).toNat] else bst9 P_ le_ f_
theorem bst9_l {P_ : Nat → Nat → Bool} {le_ : Nat → Int} : ∀ n_, (bst9 P_ le_ n_).length ≤ n_
  | 0 => Nat.le_refl 0
  | n_ + 1 => by
    have e_ := bst9_l (P_ := P_) (le_ := le_) n_
    show (if _ then _ else _ : List Nat).length ≤ _
    split
    · rw [List.length_append]
      show _ + 1 ≤ _
      omega
    · omega
/-- does a_ pattern go_? -/
def gos9 (P_ : Nat → Nat → Bool) (N_ : Nat) (L_ : List Nat) (k_ : Nat) : Bool := spr9 (fun f_ => !(decide (cn9 (P_ f_) L_ = 1) && P_ f_ (L_.getD k_ 0))) N_
def prn9 (P_ : Nat → Nat → Bool) (N_ : Nat) : Nat → List Nat → List Nat
  | 0, L_ => L_
  | k_ + 1, L_ => prn9 P_ N_ k_ (if gos9 P_ N_ L_ k_ = true then L_.eraseIdx k_ else L_)
/-- the_ set_ -/
def tst9 (P_ : Nat → Nat → Bool) (le_ : Nat → Int) (N_ : Nat) : List Nat := prn9 P_ N_ (bst9 P_ le_ N_).length (bst9 P_ le_ N_)
theorem prn9_l {P_ : Nat → Nat → Bool} {N_ : Nat} : ∀ (k_ : Nat) (L_ : List Nat), (prn9 P_ N_ k_ L_).length ≤ L_.length
  | 0, L_ => Nat.le_refl _
  | k_ + 1, L_ => by
    have e_ := prn9_l (P_ := P_) (N_ := N_) k_ (if gos9 P_ N_ L_ k_ = true then L_.eraseIdx k_ else L_)
    refine Nat.le_trans e_ ?_
    split
    · exact List.length_eraseIdx_le L_ k_
    · exact Nat.le_refl _
/-- the_ k_-th of_ those below N_ for_ which Q_ holds; -1: there are_ not so_ many -/
def kth9 (Q_ : Nat → Bool) (N_ : Nat) (k_ v_ : Int) : Prop := (v_ = -1 ∧ ((sn9 (fun f_ => if Q_ f_ = true then 1 else 0) N_ : Nat) : Int) ≤ k_) ∨ ∃ f_ : Nat, v_ = (f_ : Int) ∧ f_ < N_ ∧ Q_ f_ = true ∧ ((sn9 (fun f_ => if Q_ f_ = true then 1 else 0) f_ : Nat) : Int) = k_
theorem kth9_u {Q_ : Nat → Bool} {N_ : Nat} {k_ v_ w_ : Int} (h_ : kth9 Q_ N_ k_ v_) (h'_ : kth9 Q_ N_ k_ w_) : v_ = w_ := by
  have up_ : ∀ {f_ g_ : Nat}, f_ < g_ → Q_ f_ = true → sn9 (fun f_ => if Q_ f_ = true then 1 else 0) f_ < sn9 (fun f_ => if Q_ f_ = true then 1 else 0) g_ := fun {f_ g_} l_ q_ => by
    have m_ := sn9_m (fun f_ => if Q_ f_ = true then 1 else 0) (show f_ + 1 ≤ g_ by omega)
    rw [sn9_s, if_pos q_] at m_
    omega
  rcases h_ with ⟨a1_, a2_⟩ | ⟨f_, a1_, a2_, a3_, a4_⟩
  · rcases h'_ with ⟨c1_, c2_⟩ | ⟨g_, c1_, c2_, c3_, c4_⟩
    · rw [a1_, c1_]
    · have := up_ c2_ c3_
      omega
  · rcases h'_ with ⟨c1_, c2_⟩ | ⟨g_, c1_, c2_, c3_, c4_⟩
    · have := up_ a2_ a3_
      omega
    · rcases Nat.lt_trichotomy f_ g_ with z_ | z_ | z_
      · have := up_ z_ a3_
        omega
      · rw [a1_, c1_, z_]
      · have := up_ z_ c3_
        omega
/-- a_ suspect: shown by some of_ the_ set_, and by just those that fail -/
def sus9 (P_ : Nat → Nat → Bool) (L_ : List Nat) (fa_ : Nat → Bool) (f_ : Nat) : Bool := decide (0 < cn9 (P_ f_) L_) && spr9 (fun k_ => P_ f_ (L_.getD k_ 0) == fa_ k_) L_.length
theorem gtD9 {L_ : List Nat} {k_ x_ : Nat} (h_ : L_[k_]? = some x_) : L_.getD k_ 0 = x_ := by
  rw [List.getD_eq_getElem?_getD, h_]
  rfl
/-- choosing -/
theorem chs9 {α : Type} {β : Type} (d_ : β) {A_ : α → Prop} {Q_ : α → β → Prop} (h_ : ∀ x_, A_ x_ → ∃ y_, Q_ x_ y_) : ∃ g_ : α → β, ∀ x_, A_ x_ → Q_ x_ (g_ x_) := by
  have z_ : ∀ x_, ∃ y_, A_ x_ → Q_ x_ y_ := fun x_ => by
    by_cases c_ : A_ x_
    · obtain ⟨y_, hy_⟩ := h_ x_ c_
      exact ⟨y_, fun _ => hy_⟩
    · exact ⟨d_, fun q_ => absurd q_ c_⟩
  exact Classical.axiomOfChoice z_
/-! nets under a_ fault: there are_ some -/
theorem cvf_x (F_ : Nat) (T_ m_ : Nat → Int) (a_ : Nat → Nat → Int) (st_ pn_ : Int) (b_ : Bool) (q_ : Nat) : ∀ G_, ∃ v_ : Nat → Bool, cvf F_ G_ T_ m_ a_ st_ pn_ b_ q_ v_
  | 0 => ⟨fun n_ => if (n_ : Int) = st_ then b_ else Nat.testBit q_ n_, fun n_ _ => rfl, fun g_ hg_ => absurd hg_ (Nat.not_lt_zero _)⟩
  | G_ + 1 => by
    obtain ⟨v_, hv_⟩ := cvf_x F_ T_ m_ a_ st_ pn_ b_ q_ G_
    refine ⟨fun n_ => if n_ = F_ + G_ then (if (F_ : Int) + (G_ : Int) = st_ then b_ else gvf v_ (T_ G_) (m_ G_) (a_ G_) (pn_ - 3 * (G_ : Int)) b_) else v_ n_, ?_⟩
    have e_ : ∀ n_, n_ < F_ + G_ → (fun n_ => if n_ = F_ + G_ then (if (F_ : Int) + (G_ : Int) = st_ then b_ else gvf v_ (T_ G_) (m_ G_) (a_ G_) (pn_ - 3 * (G_ : Int)) b_) else v_ n_) n_ = v_ n_ := fun n_ hn_ => if_neg (by omega)
    refine cvf_s (cvf_cg hv_ e_) (fun hg_ => ?_)
    show (if F_ + G_ = F_ + G_ then _ else _) = _
    rw [if_pos rfl]
    split
    · rfl
    · exact gvf_cg hg_ (fun n_ hn_ => (if_neg (show ¬ n_ = F_ + G_ by omega)).symm)
theorem cvq_x (F_ : Nat) (T_ m_ : Nat → Int) (a_ : Nat → Nat → Int) (q_ G_ : Nat) : ∃ v_ : Nat → Bool, cvq F_ G_ T_ m_ a_ q_ v_ := by
  obtain ⟨v_, hv_⟩ := cvf_x F_ T_ m_ a_ (-1) (-1) false q_ G_
  exact ⟨v_, (cvf_0 (by decide) (by decide)).mp hv_⟩
theorem sn9_i {gn_ : Nat → Nat} {x_ : Int} (h0_ : 0 ≤ x_) : ∀ G_, x_ < ((sn9 gn_ G_ : Nat) : Int) → ∃ g_ : Nat, g_ < G_ ∧ ((sn9 gn_ g_ : Nat) : Int) ≤ x_ ∧ x_ < ((sn9 gn_ (g_ + 1) : Nat) : Int)
  | 0, h_ => absurd h_ (by
    show ¬ x_ < ((0 : Nat) : Int)
    omega)
  | G_ + 1, h_ => by
    by_cases c_ : x_ < ((sn9 gn_ G_ : Nat) : Int)
    · obtain ⟨g_, g1_, g2_, g3_⟩ := sn9_i h0_ G_ c_
      exact ⟨g_, by omega, g2_, g3_⟩
    · exact ⟨G_, Nat.lt_succ_self G_, by omega, h_⟩
theorem fdq_x {NC_ f_ : Int} {gn_ : Nat → Nat} {G_ : Nat} (h_ : f_ < 2 * NC_ + 2 * ((sn9 gn_ G_ : Nat) : Int)) : ∃ st_ pn_ : Int, fdq NC_ gn_ G_ f_ st_ pn_ := by
  by_cases c_ : f_ / 2 < NC_
  · exact ⟨f_ / 2, -1, Or.inl ⟨c_, rfl, rfl⟩⟩
  · obtain ⟨g_, g1_, g2_, g3_⟩ := sn9_i (gn_ := gn_) (x_ := f_ / 2 - NC_) (by omega) G_ (by omega)
    exact ⟨-1, _, Or.inr ⟨by omega, rfl, g_, g1_, g2_, g3_, rfl⟩⟩
theorem csh_x {cc_ : Nat} {S_ : sm_S} {f_ : Int} (p_ : Nat) (h_ : f_ < cfu9 cc_ S_) : ∃ b_, cshq cc_ S_ f_ p_ b_ := by
  obtain ⟨st_, pn_, d_⟩ := fdq_x (show f_ < 2 * cnc cc_ S_ + 2 * ((sn9 (cgs cc_ S_) (S_.1 2 cc_ 8).toNat : Nat) : Int) from h_)
  obtain ⟨v_, hv_⟩ := cvq_x (S_.1 2 cc_ 1 + S_.1 2 cc_ 2).toNat (kcT cc_ S_) (kcN cc_ S_) (kcA cc_ S_) p_ (S_.1 2 cc_ 8).toNat
  obtain ⟨u_, hu_⟩ := cvf_x (S_.1 2 cc_ 1 + S_.1 2 cc_ 2).toNat (kcT cc_ S_) (kcN cc_ S_) (kcA cc_ S_) st_ pn_ (decide (f_ % 2 = 1)) p_ (S_.1 2 cc_ 8).toNat
  by_cases c_ : shd v_ u_ (S_.2.2.1 37 (0 + cc_)) (S_.2.2.1 38 (0 + cc_)) (S_.1 2 cc_ 3).toNat (S_.1 2 cc_ 2).toNat
  · exact ⟨true, st_, pn_, v_, u_, d_, hv_, hu_, ⟨fun _ => c_, fun _ => rfl⟩⟩
  · exact ⟨false, st_, pn_, v_, u_, d_, hv_, hu_, ⟨fun z_ => absurd z_ (by decide), fun z_ => absurd z_ c_⟩⟩
theorem rsh_x {c_ : Int} {S_ : sm_S} {f_ : Int} (p_ : Nat) (h_ : f_ < fco c_ S_) : ∃ b_, rshq c_ S_ f_ p_ b_ := by
  obtain ⟨st_, pn_, d_⟩ := fdq_x (NC_ := rnc c_ S_) (gn_ := gis c_ S_) (G_ := (S_.2.2.1 228 0 c_.toNat).toNat) (f_ := f_) (by
    unfold fco at h_
    unfold rnc
    omega)
  obtain ⟨v_, hv_⟩ := cvq_x (S_.2.2.1 223 0 c_.toNat + S_.2.2.1 224 0 c_.toNat).toNat (krT c_ S_) (krN c_ S_) (krA c_ S_) p_ (S_.2.2.1 228 0 c_.toNat).toNat
  obtain ⟨u_, hu_⟩ := cvf_x (S_.2.2.1 223 0 c_.toNat + S_.2.2.1 224 0 c_.toNat).toNat (krT c_ S_) (krN c_ S_) (krA c_ S_) st_ pn_ (decide (f_ % 2 = 1)) p_ (S_.2.2.1 228 0 c_.toNat).toNat
  by_cases q_ : shd v_ u_ (rno c_ S_) (rnx c_ S_) (S_.2.2.1 225 0 c_.toNat).toNat (S_.2.2.1 224 0 c_.toNat).toNat
  · exact ⟨true, st_, pn_, v_, u_, d_, hv_, hu_, ⟨fun _ => q_, fun _ => rfl⟩⟩
  · exact ⟨false, st_, pn_, v_, u_, d_, hv_, hu_, ⟨fun z_ => absurd z_ (by decide), fun z_ => absurd z_ q_⟩⟩
/-! the_ class: what P_ is_ -/
def cB9 (cc_ : Nat) (S_ : sm_S) : Int := 2 ^ (S_.1 2 cc_ 1 + S_.1 2 cc_ 2).toNat
def shU (cc_ : Nat) (S_ : sm_S) (P_ : Nat → Nat → Bool) : Prop := ∀ (f_ p_ : Nat) (b_ : Bool), (f_ : Int) < cfu9 cc_ S_ → (p_ : Int) < cB9 cc_ S_ → cshq cc_ S_ (f_ : Int) p_ b_ → b_ = P_ f_ p_
theorem csl_P {cc_ : Nat} {S_ : sm_S} {P_ : Nat → Nat → Bool} {f_ : Nat} {v_ : Int} (hU_ : shU cc_ S_ P_) (hf_ : (f_ : Int) < cfu9 cc_ S_) (h_ : csl cc_ S_ (f_ : Int) v_) : lsP P_ (cB9 cc_ S_) f_ v_ := by
  rcases h_ with ⟨a1_, a2_⟩ | ⟨q_, a1_, a2_, a3_, a4_⟩
  · exact Or.inl ⟨a1_, fun p_ hp_ => (hU_ f_ p_ false hf_ hp_ (a2_ p_ hp_)).symm⟩
  · exact Or.inr ⟨q_, a1_, a2_, (hU_ f_ q_ true hf_ a2_ a3_).symm, fun p_ hp_ => (hU_ f_ p_ false hf_ (by unfold cB9; omega) (a4_ p_ hp_)).symm⟩
theorem shU_fr {w_ : sx_Wl} {cc_ : Nat} {S_ S'_ : sm_S} {P_ : Nat → Nat → Bool} (h_ : shU cc_ S_ P_) (f_ : ai_fr (sx_W w_) S_ S'_) (h1_ : (sx_W w_).2.1 35 = false := by rfl) (h2_ : (sx_W w_).2.1 36 = false := by rfl) (h3_ : (sx_W w_).2.1 55 = false := by rfl) (h4_ : (sx_W w_).2.1 56 = false := by rfl) (h5_ : (sx_W w_).1 2 1 = false := by rfl) (h6_ : (sx_W w_).1 2 2 = false := by rfl) (h7_ : (sx_W w_).1 2 8 = false := by rfl) (h8_ : (sx_W w_).1 2 3 = false := by rfl) (h9_ : (sx_W w_).2.1 37 = false := by rfl) (ha_ : (sx_W w_).2.1 38 = false := by rfl) : shU cc_ S'_ P_ := fun f9_ p9_ b9_ q1_ q2_ q3_ => by
  rw [(cfu_fr (cc_ := cc_) f_ h1_ h2_ h3_ h4_ h5_ h6_ h7_).1] at q1_
  unfold cB9 at q2_
  rw [f_.1 2 cc_ 1 h5_, f_.1 2 cc_ 2 h6_] at q2_
  exact h_ f9_ p9_ b9_ q1_ q2_ ((csh_fr f_ h1_ h2_ h3_ h4_ h5_ h6_ h7_ h8_ h9_ ha_).mp q3_)
theorem cB_fr {w_ : sx_Wl} {cc_ : Nat} {S_ S'_ : sm_S} (f_ : ai_fr (sx_W w_) S_ S'_) (h5_ : (sx_W w_).1 2 1 = false := by rfl) (h6_ : (sx_W w_).1 2 2 = false := by rfl) : cB9 cc_ S'_ = cB9 cc_ S_ := by
  unfold cB9
  rw [f_.1 2 cc_ 1 h5_, f_.1 2 cc_ 2 h6_]
/-! the_ tester between calls -/
def tkp (c_ : Nat) (S_ : sm_S) : Prop := S_.2.1 9 0 0 = some c_ → S_.1 9 0 1 = S_.1 2 c_ 19 → tok9 c_ S_
def tkw9 (c_ : Nat) (S_ : sm_S) : Prop := (S_.2.1 9 0 0 = some c_ ∧ S_.1 9 0 1 = S_.1 2 c_ 19) ∧ tok9 c_ S_
def tkk (S0_ S1_ : sm_S) : Prop := (∀ c_, tkp c_ S0_ → tkp c_ S1_) ∧ (tsa S0_ → tsa S1_)
theorem tkk_rf {S_ : sm_S} : tkk S_ S_ := ⟨fun _ h_ => h_, fun h_ => h_⟩
theorem tkk_w {c_ : Nat} {S0_ S_ : sm_S} (h_ : tkw9 c_ S_) : tkk S0_ S_ := ⟨fun d_ _ e_ _ => by
  have q_ : c_ = d_ := Option.some.inj (h_.1.1.symm.trans e_)
  rw [← q_]
  exact h_.2, fun _ => tsa_of h_.1.1 h_.1.2⟩
theorem mkq_fr {w_ : sx_Wl} {cc_ : Nat} {S_ S'_ : sm_S} (h_ : mkq cc_ S_) (f_ : ai_fr (sx_W w_) S_ S'_) (h5_ : (sx_W w_).1 2 1 = false := by rfl) (h6_ : (sx_W w_).1 2 2 = false := by rfl) (hg_ : (sx_W w_).1 9 2 = false := by rfl) (hh_ : (sx_W w_).1 9 3 = false := by rfl) : mkq cc_ S'_ := by
  unfold mkq
  rw [f_.1 9 0 3 hh_, f_.1 9 0 2 hg_, f_.1 2 cc_ 1 h5_, f_.1 2 cc_ 2 h6_]
  exact h_
theorem tok_f9 {w_ : sx_Wl} {cc_ : Nat} {S_ S'_ : sm_S} (h_ : tok9 cc_ S_) (f_ : ai_fr (sx_W w_) S_ S'_) (h1_ : (sx_W w_).2.1 35 = false := by rfl) (h2_ : (sx_W w_).2.1 36 = false := by rfl) (h3_ : (sx_W w_).2.1 55 = false := by rfl) (h4_ : (sx_W w_).2.1 56 = false := by rfl) (h5_ : (sx_W w_).1 2 1 = false := by rfl) (h6_ : (sx_W w_).1 2 2 = false := by rfl) (h7_ : (sx_W w_).1 2 8 = false := by rfl) (h8_ : (sx_W w_).1 2 3 = false := by rfl) (h9_ : (sx_W w_).2.1 37 = false := by rfl) (ha_ : (sx_W w_).2.1 38 = false := by rfl) (hc_ : (sx_W w_).2.1 92 = false := by rfl) (hd_ : (sx_W w_).2.1 95 = false := by rfl) (he_ : (sx_W w_).2.1 96 = false := by rfl) (hg_ : (sx_W w_).1 9 2 = false := by rfl) (hh_ : (sx_W w_).1 9 3 = false := by rfl) : tok9 cc_ S'_ := by
  obtain ⟨t1_, t2_, t3_⟩ := h_
  refine ⟨kcv_fr t1_ f_ h1_ h2_ h3_ h4_ hg_ h5_ h6_ h7_ hc_, mkq_fr t2_ f_ h5_ h6_ hg_ hh_, fun f9_ q1_ q2_ => ?_⟩
  rw [(cfu_fr (cc_ := cc_) f_ h1_ h2_ h3_ h4_ h5_ h6_ h7_).1] at q1_
  rw [fr_arr (t := 96) (i := 0) f_ he_] at q2_
  have a_ := t3_ f9_ q1_ q2_
  have s95_ := fr_lon (t_ := 95) (i_ := 0) f_ hd_
  refine ⟨fun p_ hp_ => ?_, fun w9_ i9_ hw9_ hi9_ hn9_ => ?_⟩
  · rw [f_.1 2 cc_ 1 h5_, f_.1 2 cc_ 2 h6_] at hp_
    rw [s95_]
    exact (csh_fr f_ h1_ h2_ h3_ h4_ h5_ h6_ h7_ h8_ h9_ ha_).mpr (a_.1 p_ hp_)
  · rw [f_.1 2 cc_ 1 h5_, f_.1 2 cc_ 2 h6_] at hn9_
    rw [s95_]
    exact a_.2 w9_ i9_ hw9_ hi9_ hn9_
theorem tkk_fr {w_ : sx_Wl} {S_ S'_ : sm_S} (f_ : ai_fr (sx_W w_) S_ S'_) (h1_ : (sx_W w_).2.1 35 = false := by rfl) (h2_ : (sx_W w_).2.1 36 = false := by rfl) (h3_ : (sx_W w_).2.1 55 = false := by rfl) (h4_ : (sx_W w_).2.1 56 = false := by rfl) (h5_ : (sx_W w_).1 2 1 = false := by rfl) (h6_ : (sx_W w_).1 2 2 = false := by rfl) (h7_ : (sx_W w_).1 2 8 = false := by rfl) (h8_ : (sx_W w_).1 2 3 = false := by rfl) (h9_ : (sx_W w_).2.1 37 = false := by rfl) (ha_ : (sx_W w_).2.1 38 = false := by rfl) (hc_ : (sx_W w_).2.1 92 = false := by rfl) (hd_ : (sx_W w_).2.1 95 = false := by rfl) (he_ : (sx_W w_).2.1 96 = false := by rfl) (hg_ : (sx_W w_).1 9 2 = false := by rfl) (hh_ : (sx_W w_).1 9 3 = false := by rfl) (hi_ : (sx_W w_).1 9 1 = false := by rfl) (hj_ : (sx_W w_).2.2 9 0 = false := by rfl) (hk_ : (sx_W w_).1 2 19 = false := by rfl) : tkk S_ S'_ := ⟨fun c_ p_ e_ q_ => by
  rw [f_.2.1 9 0 0 hj_] at e_
  rw [f_.1 9 0 1 hi_, f_.1 2 c_ 19 hk_] at q_
  exact tok_f9 (p_ e_ q_) f_ h1_ h2_ h3_ h4_ h5_ h6_ h7_ h8_ h9_ ha_ hc_ hd_ he_ hg_ hh_, fun h_ => tsa_fr h_ f_ hj_ hi_ hk_⟩
theorem tkk_tr {A_ B_ C_ : sm_S} (h_ : tkk A_ B_) (g_ : tkk B_ C_) : tkk A_ C_ := ⟨fun c_ p_ => g_.1 c_ (h_.1 c_ p_), fun p_ => g_.2 (h_.2 p_)⟩
theorem tkw_fr {w_ : sx_Wl} {c_ : Nat} {S_ S'_ : sm_S} (h_ : tkw9 c_ S_) (f_ : ai_fr (sx_W w_) S_ S'_) (h1_ : (sx_W w_).2.1 35 = false := by rfl) (h2_ : (sx_W w_).2.1 36 = false := by rfl) (h3_ : (sx_W w_).2.1 55 = false := by rfl) (h4_ : (sx_W w_).2.1 56 = false := by rfl) (h5_ : (sx_W w_).1 2 1 = false := by rfl) (h6_ : (sx_W w_).1 2 2 = false := by rfl) (h7_ : (sx_W w_).1 2 8 = false := by rfl) (h8_ : (sx_W w_).1 2 3 = false := by rfl) (h9_ : (sx_W w_).2.1 37 = false := by rfl) (ha_ : (sx_W w_).2.1 38 = false := by rfl) (hc_ : (sx_W w_).2.1 92 = false := by rfl) (hd_ : (sx_W w_).2.1 95 = false := by rfl) (he_ : (sx_W w_).2.1 96 = false := by rfl) (hg_ : (sx_W w_).1 9 2 = false := by rfl) (hh_ : (sx_W w_).1 9 3 = false := by rfl) (hi_ : (sx_W w_).1 9 1 = false := by rfl) (hj_ : (sx_W w_).2.2 9 0 = false := by rfl) (hk_ : (sx_W w_).1 2 19 = false := by rfl) : tkw9 c_ S'_ := ⟨⟨(f_.2.1 9 0 0 hj_).trans h_.1.1, by
  rw [f_.1 9 0 1 hi_, f_.1 2 c_ 19 hk_]
  exact h_.1.2⟩, tok_f9 h_.2 f_ h1_ h2_ h3_ h4_ h5_ h6_ h7_ h8_ h9_ ha_ hc_ hd_ he_ hg_ hh_⟩
theorem csl_b {cc_ : Nat} {S_ : sm_S} {x_ v_ : Int} (h_ : csl cc_ S_ x_ v_) : v_ = -1 ∨ (0 ≤ v_ ∧ v_ < cB9 cc_ S_) := by
  rcases h_ with ⟨a1_, -⟩ | ⟨q_, a1_, a2_, -⟩
  · exact Or.inl a1_
  · exact Or.inr ⟨by omega, by unfold cB9; omega⟩
theorem bst9_0 {P_ : Nat → Nat → Bool} {le_ : Nat → Int} {f_ : Nat} (h_ : ¬ (le_ f_ ≠ -1 ∧ cn9 (P_ f_) (bst9 P_ le_ f_) = 0)) : bst9 P_ le_ (f_ + 1) = bst9 P_ le_ f_ := if_neg h_
theorem bst9_1 {P_ : Nat → Nat → Bool} {le_ : Nat → Int} {f_ : Nat} (h_ : le_ f_ ≠ -1 ∧ cn9 (P_ f_) (bst9 P_ le_ f_) = 0) : bst9 P_ le_ (f_ + 1) = bst9 P_ le_ f_ ++ [(le_ f_).toNat] := if_pos h_
/-- the_ least pattern out_ of_ what is_ kept -/
theorem csl_of {cc_ : Nat} {S_ : sm_S} {f_ w_ k_ : Nat} (h_ : shk9 cc_ S_ f_) (hm_ : mkq cc_ S_) (hb_ : 0 ≤ S_.1 2 cc_ 1 + S_.1 2 cc_ 2) (h2_ : S_.1 9 0 2 ≤ 64) (hw_ : (w_ : Int) < S_.1 9 0 2) (hk_ : k_ < 64) (hz_ : ∀ j_ : Nat, j_ < w_ → S_.2.2.2 95 0 (64 * f_ + j_) = 0) (hi_ : lbt (S_.2.2.2 95 0 (64 * f_ + w_)) k_ = true) (hl_ : ∀ j_ : Nat, j_ < k_ → lbt (S_.2.2.2 95 0 (64 * f_ + w_)) j_ = false) : csl cc_ S_ (f_ : Int) (64 * (w_ : Int) + (k_ : Int)) := by
  obtain ⟨s1_, s2_⟩ := h_
  obtain ⟨-, m2_, m3⟩ := hm_
  have v_ : ((k_ : Nat) : Int) < 2 ^ (S_.1 2 cc_ 1 + S_.1 2 cc_ 2).toNat ∨ 6 ≤ S_.1 2 cc_ 1 + S_.1 2 cc_ 2 := by
    by_cases c_ : ((k_ : Nat) : Int) < 2 ^ (S_.1 2 cc_ 1 + S_.1 2 cc_ 2).toNat ∨ 6 ≤ S_.1 2 cc_ 1 + S_.1 2 cc_ 2
    · exact c_
    · exact absurd ((s2_ w_ k_ (by omega) hk_ c_).symm.trans hi_) (by decide)
  have lt_ : ((64 * w_ + k_ : Nat) : Int) < 2 ^ (S_.1 2 cc_ 1 + S_.1 2 cc_ 2).toNat := by
    by_cases c_ : 6 ≤ S_.1 2 cc_ 1 + S_.1 2 cc_ 2
    · have e_ := m2_ c_
      omega
    · have e_ := m3 (by omega)
      have v_ := v_.resolve_right c_
      have w0_ : w_ = 0 := by omega
      rw [w0_]
      omega
  refine Or.inr ⟨64 * w_ + k_, by omega, lt_, ?_, fun p_ hp_ => ?_⟩
  · have z_ := s1_ (64 * w_ + k_) lt_
    rw [show (64 * w_ + k_) / 64 = w_ by omega, show (64 * w_ + k_) % 64 = k_ by omega, hi_] at z_
    exact z_
  · have z_ := s1_ p_ (by omega)
    by_cases c_ : p_ / 64 < w_
    · rw [hz_ (p_ / 64) c_, lbt_0] at z_
      exact z_
    · rw [show p_ / 64 = w_ by omega, hl_ (p_ % 64) (by omega)] at z_
      exact z_
theorem csl_no {cc_ : Nat} {S_ : sm_S} {f_ : Nat} (h_ : shk9 cc_ S_ f_) (hm_ : mkq cc_ S_) (hz_ : ∀ j_ : Nat, (j_ : Int) < S_.1 9 0 2 → S_.2.2.2 95 0 (64 * f_ + j_) = 0) : csl cc_ S_ (f_ : Int) (-1) := by
  obtain ⟨s1_, s2_⟩ := h_
  obtain ⟨-, m2_, m3⟩ := hm_
  refine Or.inl ⟨rfl, fun p_ hp_ => ?_⟩
  have z_ := s1_ p_ hp_
  have l_ : ((p_ / 64 : Nat) : Int) < S_.1 9 0 2 := by
    by_cases c_ : 6 ≤ S_.1 2 cc_ 1 + S_.1 2 cc_ 2
    · have e_ := m2_ c_
      omega
    · have e_ := m3 (by omega)
      have b_ := pw_le (n := (S_.1 2 cc_ 1 + S_.1 2 cc_ 2).toNat) (m := 6) (by omega)
      have b_ : (2 : Int) ^ (S_.1 2 cc_ 1 + S_.1 2 cc_ 2).toNat ≤ 64 := b_
      omega
  rw [hz_ (p_ / 64) l_, lbt_0] at z_
  exact z_
theorem csl_fr {w_ : sx_Wl} {cc_ : Nat} {S_ S'_ : sm_S} (f_ : ai_fr (sx_W w_) S_ S'_) {x_ v_ : Int} (h_ : csl cc_ S'_ x_ v_) (h1_ : (sx_W w_).2.1 35 = false := by rfl) (h2_ : (sx_W w_).2.1 36 = false := by rfl) (h3_ : (sx_W w_).2.1 55 = false := by rfl) (h4_ : (sx_W w_).2.1 56 = false := by rfl) (h5_ : (sx_W w_).1 2 1 = false := by rfl) (h6_ : (sx_W w_).1 2 2 = false := by rfl) (h7_ : (sx_W w_).1 2 8 = false := by rfl) (h8_ : (sx_W w_).1 2 3 = false := by rfl) (h9_ : (sx_W w_).2.1 37 = false := by rfl) (ha_ : (sx_W w_).2.1 38 = false := by rfl) : csl cc_ S_ x_ v_ := by
  have k_ : ∀ p_ b_, cshq cc_ S'_ x_ p_ b_ → cshq cc_ S_ x_ p_ b_ := fun p_ b_ q_ => (csh_fr f_ h1_ h2_ h3_ h4_ h5_ h6_ h7_ h8_ h9_ ha_).mp q_
  unfold csl at h_ ⊢
  rw [f_.1 2 cc_ 1 h5_, f_.1 2 cc_ 2 h6_] at h_
  rcases h_ with ⟨a1_, a2_⟩ | ⟨q_, a1_, a2_, a3_, a4_⟩
  · exact Or.inl ⟨a1_, fun p_ hp_ => k_ p_ _ (a2_ p_ hp_)⟩
  · exact Or.inr ⟨q_, a1_, a2_, k_ q_ _ a3_, fun p_ hp_ => k_ p_ _ (a4_ p_ hp_)⟩
/-- what is_ kept of_ a_ fault that is_ ready tells P_ -/
theorem shk_P {cc_ : Nat} {S_ : sm_S} {P_ : Nat → Nat → Bool} {f_ p_ : Nat} (hU_ : shU cc_ S_ P_) (ht_ : tok9 cc_ S_) (hf_ : (f_ : Int) < cfu9 cc_ S_) (hr_ : S_.2.2.1 96 0 f_ ≠ 0) (hp_ : (p_ : Int) < cB9 cc_ S_) : lbt (S_.2.2.2 95 0 (64 * f_ + p_ / 64)) (p_ % 64) = P_ f_ p_ := hU_ f_ p_ _ hf_ hp_ ((ht_.2.2 f_ hf_ hr_).1 p_ hp_)
/-- the_ class's set_ is_ the_ list L_ -/
def tls (cc_ : Nat) (S_ : sm_S) (L_ : List Nat) : Prop := ((L_.length : Nat) : Int) = S_.1 2 cc_ 15 ∧ ∀ k_ x_ : Nat, L_[k_]? = some x_ → S_.2.2.1 40 (0 + cc_) k_ = (x_ : Int) ∧ (x_ : Int) < cB9 cc_ S_
theorem tls_fr {w_ : sx_Wl} {cc_ : Nat} {S_ S'_ : sm_S} {L_ : List Nat} (h_ : tls cc_ S_ L_) (f_ : ai_fr (sx_W w_) S_ S'_) (h1_ : (sx_W w_).1 2 15 = false := by rfl) (h2_ : (sx_W w_).2.1 40 = false := by rfl) (h5_ : (sx_W w_).1 2 1 = false := by rfl) (h6_ : (sx_W w_).1 2 2 = false := by rfl) : tls cc_ S'_ L_ := by
  unfold tls
  rw [f_.1 2 cc_ 15 h1_, fr_arr (t := 40) (i := 0 + cc_) f_ h2_, cB_fr f_ h5_ h6_]
  exact h_
theorem tls_k {cc_ : Nat} {S_ : sm_S} {L_ : List Nat} {k_ : Int} (h_ : tls cc_ S_ L_) (h0_ : 0 ≤ k_) (h1_ : k_ < S_.1 2 cc_ 15) : ∃ x_ : Nat, L_[k_.toNat]? = some x_ ∧ S_.2.2.1 40 (0 + cc_) k_.toNat = (x_ : Int) ∧ (x_ : Int) < cB9 cc_ S_ := by
  have l_ := h_.1
  have lt_ : k_.toNat < L_.length := by omega
  have e_ := List.getElem?_eq_getElem lt_
  exact ⟨_, e_, h_.2 _ _ e_⟩
theorem tls_ap {cc_ : Nat} {S_ S'_ : sm_S} {L_ : List Nat} {v_ : Int} (h_ : tls cc_ S_ L_) (h0_ : 0 ≤ v_ ∧ v_ < cB9 cc_ S_) (e1_ : S'_.1 2 cc_ 15 = S_.1 2 cc_ 15 + 1) (e2_ : ∀ k_ : Nat, S'_.2.2.1 40 (0 + cc_) k_ = if k_ = (S_.1 2 cc_ 15).toNat then v_ else S_.2.2.1 40 (0 + cc_) k_) (e3_ : cB9 cc_ S'_ = cB9 cc_ S_) : tls cc_ S'_ (L_ ++ [v_.toNat]) := by
  have l_ := h_.1
  refine ⟨?_, fun k_ x_ q_ => ?_⟩
  · rw [List.length_append, e1_, ← l_]
    show ((L_.length + 1 : Nat) : Int) = _
    push_cast
    rfl
  · rw [e2_, e3_]
    by_cases c_ : k_ < L_.length
    · rw [List.getElem?_append_left c_] at q_
      rw [if_neg (by omega)]
      exact h_.2 k_ x_ q_
    · rw [List.getElem?_append_right (by omega)] at q_
      have z_ : k_ - L_.length = 0 := by
        cases y_ : k_ - L_.length with
        | zero => rfl
        | succ n_ => rw [y_] at q_; cases q_
      rw [z_] at q_
      have q_ : v_.toNat = x_ := Option.some.inj q_
      rw [if_pos (by omega), ← q_]
      exact ⟨by omega, by omega⟩
theorem tls_er {cc_ k_ : Nat} {S_ S'_ : sm_S} {L_ : List Nat} (h_ : tls cc_ S_ L_) (hk_ : k_ < L_.length) (e1_ : S'_.1 2 cc_ 15 = S_.1 2 cc_ 15 - 1) (e2_ : ∀ j_ : Nat, j_ < L_.length - 1 → S'_.2.2.1 40 (0 + cc_) j_ = if j_ < k_ then S_.2.2.1 40 (0 + cc_) j_ else S_.2.2.1 40 (0 + cc_) (j_ + 1)) (e3_ : cB9 cc_ S'_ = cB9 cc_ S_) : tls cc_ S'_ (L_.eraseIdx k_) := by
  have l_ := h_.1
  have n_ := List.length_eraseIdx_of_lt hk_
  refine ⟨by rw [n_, e1_]; omega, fun j_ x_ q_ => ?_⟩
  have lt_ : j_ < (L_.eraseIdx k_).length := by
    by_cases c_ : j_ < (L_.eraseIdx k_).length
    · exact c_
    · rw [List.getElem?_eq_none (by omega)] at q_
      cases q_
  rw [e2_ j_ (by omega), e3_]
  rw [List.getElem?_eraseIdx] at q_
  by_cases c_ : j_ < k_
  · rw [if_pos c_] at q_ ⊢
    exact h_.2 j_ x_ q_
  · rw [if_neg c_] at q_ ⊢
    exact h_.2 (j_ + 1) x_ q_
