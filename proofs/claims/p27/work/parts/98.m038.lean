/-! 99.ztZU -/
section
/-! all ways of a node: the class; written by wip/p55/gen/vg -/

/-! all_ ways of_ a_ node, the_ class -/
/-- the_ table of_ a_ cut_ -/
def tbo (cl_ ch_ : Nat → Nat) (tl_ tu_ : Nat → Int) (T_ : Nat → Prop) (n_ : Nat) (c_ : List Nat) (v_ : Int) : Prop := ∃ (B_ : Nat → Prop) (t_ : Nat → Int), B_ n_ ∧ (∀ x_, B_ x_ → T_ x_) ∧ tvf cl_ ch_ tl_ tu_ c_ B_ t_ ∧ v_ = t_ n_ % (if c_.length = 2 then 16 else 256)
/-- what a_ table has_ to_ be_, turned or not -/
def tbx (t_ : Nat) (x_ : Int) (len_ : Nat) : Int := if t_ = 0 then x_ else i_xor x_ (if len_ = 2 then 15 else 255)
def hcf (W_ : Nat → Int) (TB_ : Nat → Int) (Q_ : Nat → List Nat) (t_ cell i_ v_ : Nat) : Bool := decide (W_ (48 * cell + v_) = tbx t_ (TB_ i_) (Q_ i_).length)
theorem cbl_d {L_ : List (List Nat)} {S_ : sm_S} (h_ : cbl L_ S_) (d_ : dst L_) : cdi S_ (S_.1 6 0 11) := by
  intro i_ j_ hi_ hj_ n_
  have e_ := h_.1
  have hi_ : i_ < L_.length := by omega
  have hj_ : j_ < L_.length := by omega
  obtain ⟨c_, hc_⟩ : ∃ c_, L_[i_]? = some c_ := ⟨_, List.getElem?_eq_getElem hi_⟩
  obtain ⟨f_, hf_⟩ : ∃ f_, L_[j_]? = some f_ := ⟨_, List.getElem?_eq_getElem hj_⟩
  have ci_ := h_.2 i_ c_ hc_
  have cj_ := h_.2 j_ f_ hf_
  have ne : c_ ≠ f_ := fun u_ => d_ i_ j_ hi_ hj_ n_ (by
    rw [List.getD_eq_getElem?_getD, List.getD_eq_getElem?_getD, hc_, hf_, u_])
  obtain ⟨k_, k1_, k2_⟩ := cva_d ci_.1.1 cj_.1.1 ne
  refine ⟨k_, k1_, ?_⟩
  unfold cvs
  rw [ci_.2 k_ k1_, cj_.2 k_ k1_]
  exact k2_
theorem cor_g {V_ : Nat → Nat → Int} {O_ : List Nat} {n_ j_ : Nat} {A_ : Nat → Int} (h_ : cor V_ O_ n_ A_) (hj_ : j_ < n_) : O_[j_]? = some (O_.getD j_ 0) ∧ O_.getD j_ 0 < n_ ∧ A_ j_ = ((O_.getD j_ 0 : Nat) : Int) := by
  have l_ := h_.1
  obtain ⟨z_, hz_⟩ : ∃ z_, O_[j_]? = some z_ := ⟨_, List.getElem?_eq_getElem (by omega)⟩
  have e_ : O_.getD j_ 0 = z_ := by
    rw [List.getD_eq_getElem?_getD, hz_]
    rfl
  rw [e_]
  exact ⟨hz_, (h_.2.1 z_).mp (List.mem_of_getElem? hz_), h_.2.2.2 j_ z_ hz_⟩
theorem gd_s {L_ : List (List Nat)} {i_ : Nat} (h_ : i_ < L_.length) : L_[i_]? = some (L_.getD i_ []) := by
  rw [List.getD_eq_getElem?_getD, List.getElem?_eq_getElem h_]
  rfl
theorem lcv_cg {c_ e_ d_ f_ : Nat → Int} (h_ : lcv c_ e_) (h1_ : ∀ k_, k_ < 3 → c_ k_ = d_ k_) (h2_ : ∀ k_, k_ < 3 → e_ k_ = f_ k_) : lcv d_ f_ := by
  unfold lcv at *
  rw [← h1_ 0 (by decide), ← h1_ 1 (by decide), ← h1_ 2 (by decide), ← h2_ 0 (by decide), ← h2_ 1 (by decide), ← h2_ 2 (by decide)]
  exact h_
theorem cor_q {L_ : List (List Nat)} {S_ : sm_S} {O_ : List Nat} {A_ : Nat → Int} (h_ : cbl L_ S_) (d_ : dst L_) (g_ : cor (cvs S_) O_ L_.length A_) : prm L_.length (fun i_ => L_.getD (O_.getD i_ 0) []) (fun i_ => L_.getD i_ []) ∧ sor L_.length (fun i_ => L_.getD (O_.getD i_ 0) []) := by
  have lc_ : ∀ p_ q_, p_ < q_ → q_ < L_.length → lcv (cva (L_.getD (O_.getD p_ 0) [])) (cva (L_.getD (O_.getD q_ 0) [])) := by
    intro p_ q_ hpq_ hq_
    have a_ := cor_g g_ (show p_ < L_.length by omega)
    have b_ := cor_g g_ hq_
    have r_ := srtd_lt g_.2.2.1 hpq_ a_.1 b_.1
    have ca_ := (h_.2 _ _ (gd_s a_.2.1)).2
    have cb_ := (h_.2 _ _ (gd_s b_.2.1)).2
    exact lcv_cg r_ (fun k_ hk_ => ca_ k_ hk_) (fun k_ hk_ => cb_ k_ hk_)
  have ir_ : ∀ c_ : List Nat, ¬ lcv (cva c_) (cva c_) := fun c_ => lcv_q (fun _ _ => rfl)
  refine ⟨⟨fun i_ hi_ => ⟨O_.getD i_ 0, (cor_g g_ hi_).2.1, rfl⟩, fun j_ hj_ => ?_, fun i_ j_ hi_ hj_ n_ e_ => ?_⟩, lc_⟩
  · have m_ := (g_.2.1 j_).mpr hj_
    obtain ⟨i_, hi_⟩ := List.getElem?_of_mem m_
    have l_ := (List.getElem?_eq_some_iff.mp hi_).1
    refine ⟨i_, by rw [← g_.1]; exact l_, ?_⟩
    show L_.getD (O_.getD i_ 0) [] = L_.getD j_ []
    rw [List.getD_eq_getElem?_getD (l := O_), hi_]
    rfl
  · have e_ : L_.getD (O_.getD i_ 0) [] = L_.getD (O_.getD j_ 0) [] := e_
    rcases Nat.lt_trichotomy i_ j_ with u_ | u_ | u_
    · have q_ := lc_ i_ j_ u_ hj_
      rw [e_] at q_
      exact ir_ _ q_
    · exact n_ u_
    · have q_ := lc_ j_ i_ u_ hi_
      rw [e_] at q_
      exact ir_ _ q_
theorem cor_fr {w_ : sx_Wl} {O_ : List Nat} {n_ : Nat} {S_ S'_ : sm_S} (h_ : cor (cvs S_) O_ n_ (S_.2.2.1 66 0)) (g_ : ai_fr (sx_W w_) S_ S'_) (a_ : (sx_W w_).2.1 65 = false := by rfl) (b_ : (sx_W w_).2.1 66 = false := by rfl) : cor (cvs S'_) O_ n_ (S'_.2.2.1 66 0) := by
  have e_ : cvs S'_ = cvs S_ := by
    funext i_ k_
    unfold cvs
    rw [fr_arr (t := 65) g_ a_]
  rw [e_, fr_arr (t := 66) g_ b_]
  exact h_
/-- cuts, their order, their tables -/
def fwi (L_ : List (List Nat)) (P_ : List Nat → Int → Prop) (m_ : Nat) (S_ : sm_S) (O_ : List Nat) (TB_ : Nat → Int) (h_ : Int) : Prop := (cbl L_ S_ ∧ L_.length ≤ m_ / 3) ∧ cor (cvs S_) O_ L_.length (S_.2.2.1 66 0) ∧ ∀ (i_ : Nat) (c_ : List Nat), (i_ : Int) < h_ → L_[i_]? = some c_ → S_.2.2.1 67 0 i_ = TB_ i_ ∧ P_ c_ (TB_ i_)
theorem fwi_fr {w_ : sx_Wl} {L_ : List (List Nat)} {P_ : List Nat → Int → Prop} {m_ : Nat} {S_ S'_ : sm_S} {O_ : List Nat} {TB_ : Nat → Int} {h_ : Int} (q_ : fwi L_ P_ m_ S_ O_ TB_ h_) (g_ : ai_fr (sx_W w_) S_ S'_) (a_ : (sx_W w_).2.1 65 = false := by rfl) (b_ : (sx_W w_).2.1 66 = false := by rfl) (c_ : (sx_W w_).2.1 67 = false := by rfl) (d_ : (sx_W w_).1 6 11 = false := by rfl) : fwi L_ P_ m_ S'_ O_ TB_ h_ := by
  refine ⟨⟨cbl_fr q_.1.1 g_ d_ a_, q_.1.2⟩, cor_fr q_.2.1 g_ a_ b_, ?_⟩
  rw [fr_arr (t := 67) g_ c_]
  exact q_.2.2
theorem fwi_w {L_ : List (List Nat)} {P_ : List Nat → Int → Prop} {m_ i_ : Nat} {S_ : sm_S} {O_ : List Nat} {TB_ : Nat → Int} {h_ v_ : Int} {c_ : List Nat} (q_ : fwi L_ P_ m_ S_ O_ TB_ h_) (hc_ : L_[i_]? = some c_) (hi_ : (i_ : Int) = h_) (hv_ : P_ c_ v_) : ∃ TB'_ : Nat → Int, fwi L_ P_ m_ (sm_aI S_ 67 0 i_ v_) O_ TB'_ (h_ + 1) := by
  refine ⟨fun j_ => if j_ = i_ then v_ else TB_ j_, ⟨⟨?_, q_.1.2⟩, ?_, fun j_ d_ hj_ hd_ => ?_⟩⟩
  · exact cbl_fr (w_ := ([], [67], [])) q_.1.1 (ai_fr_aI rfl)
  · exact cor_fr (w_ := ([], [67], [])) q_.2.1 (ai_fr_aI rfl)
  · rw [rd_eq]
    show (if j_ = i_ then v_ else S_.2.2.1 67 0 j_) = (if j_ = i_ then v_ else TB_ j_) ∧ P_ d_ (if j_ = i_ then v_ else TB_ j_)
    by_cases e_ : j_ = i_
    · rw [if_pos e_, if_pos e_]
      rw [e_, hc_] at hd_
      rw [← Option.some.inj hd_]
      exact ⟨rfl, hv_⟩
    · rw [if_neg e_, if_neg e_]
      exact q_.2.2 j_ d_ (by omega) hd_
theorem cfo_cg {f_ g_ : Nat → Int × Int × Int × (Nat → Int) → Int × Int × Int × (Nat → Int)} {b_ : Int × Int × Int × (Nat → Int)} : ∀ m_ : Nat, (∀ i_ b_, i_ < m_ → f_ i_ b_ = g_ i_ b_) → cfo f_ m_ b_ = cfo g_ m_ b_
  | 0, _ => rfl
  | m_ + 1, h_ => by
    rw [cfo_s, cfo_s, cfo_cg m_ (fun i_ b_ hi_ => h_ i_ b_ (by omega)), h_ m_ _ (Nat.lt_succ_self m_)]
theorem cdn_m {c_ : List Nat} {ip_ o_ k_ : Nat} (hl_ : 2 ≤ c_.length ∧ c_.length ≤ 3) (hip_ : ip_ = c_.length) (ho_ : o_ ≤ 5) (hk_ : k_ < ip_) : ∃ x_ : Nat, x_ ∈ c_ ∧ cdn c_ ip_ o_ k_ = (x_ : Int) := by
  have b_ := iat_b (sz_ := (ip_ : Int)) (o_ := (o_ : Int)) (k_ := (k_ : Int)) (by omega) (by omega) (by omega)
  unfold cdn
  obtain ⟨x_, hx_⟩ : ∃ x_, c_[(iat (ip_ : Int) (o_ : Int) (k_ : Int)).toNat]? = some x_ := ⟨_, List.getElem?_eq_getElem (by omega)⟩
  refine ⟨x_, List.mem_of_getElem? hx_, ?_⟩
  unfold cva
  rw [hx_]
theorem wic_o {ip_ v_ : Nat} (hip_ : ip_ = 2 ∨ ip_ = 3) (hv_ : v_ < wic ip_) : v_ / 2 ^ ip_ ≤ 5 := by
  unfold wic at hv_
  rcases hip_ with e_ | e_
  · rw [e_] at hv_ ⊢
    rw [if_pos rfl] at hv_
    show v_ / 4 ≤ 5
    omega
  · rw [e_] at hv_ ⊢
    rw [if_neg (by decide)] at hv_
    show v_ / 8 ≤ 5
    omega
theorem wvs_cg {ad_ pc_ pd_ : Int → Int → Int} {hit_ hit'_ : Nat → Bool} {a_ : Int} {cell : Nat} {c_ : List Nat} {ip_ v_ : Nat} {b_ : Int × Int × Int × (Nat → Int)} (hl_ : 2 ≤ c_.length ∧ c_.length ≤ 3) (hip_ : ip_ = c_.length) (hv_ : v_ < wic ip_) (h_ : ∀ (x_ : Nat) (t_ : Int), x_ ∈ c_ → 0 ≤ t_ → t_ ≤ 1 → pc_ x_ t_ = pd_ x_ t_) (hh_ : hit_ v_ = hit'_ v_) : wvs ad_ pc_ hit_ a_ cell c_ ip_ v_ b_ = wvs ad_ pd_ hit'_ a_ cell c_ ip_ v_ b_ := by
  have o5_ := wic_o (by omega) hv_
  have e_ : cco ad_ pc_ a_ c_ ip_ v_ ip_ = cco ad_ pd_ a_ c_ ip_ v_ ip_ := cco_cg ip_ (fun k_ hk_ => by
    obtain ⟨x_, hx_, e_⟩ := cdn_m hl_ hip_ o5_ hk_
    rw [e_]
    exact h_ x_ _ hx_ (by omega) (by omega))
  unfold wvs
  rw [hh_, e_]
theorem wct_y {ad_ pc_ : Int → Int → Int} {hit_ : Nat → Nat → Bool} {a_ : Int} {cell ip_ i_ : Nat} {Q_ : Nat → List Nat} {b_ : Int × Int × Int × (Nat → Int)} (h_ : ip_ = (Q_ i_).length) : wct ad_ pc_ hit_ a_ cell ip_ Q_ i_ b_ = cfo (wvs ad_ pc_ (hit_ i_) a_ cell (Q_ i_) ip_) (wic ip_) b_ := if_pos h_
theorem wct_n {ad_ pc_ : Int → Int → Int} {hit_ : Nat → Nat → Bool} {a_ : Int} {cell ip_ i_ : Nat} {Q_ : Nat → List Nat} {b_ : Int × Int × Int × (Nat → Int)} (h_ : ¬ ip_ = (Q_ i_).length) : wct ad_ pc_ hit_ a_ cell ip_ Q_ i_ b_ = b_ := if_neg h_
/-- behind all_ cells: an_ inverter behind the_ other one_, or its_ own_ way_ -/
def fnc (ll_ : Nat) (S_ : sm_S) (l_ : Nat) (b_ o_ : Int × Int × Int × (Nat → Int)) : Prop := (S_.1 5 ll_ 2 ≠ -1 ∧ o_.1 + S_.2.2.1 57 (0 + ll_) (S_.1 5 ll_ 2).toNat < b_.1 ∧ S_.2.2.1 61 0 l_ = o_.1 + S_.2.2.1 57 (0 + ll_) (S_.1 5 ll_ 2).toNat ∧ S_.2.2.1 62 0 l_ = -2) ∨ (¬ (S_.1 5 ll_ 2 ≠ -1 ∧ o_.1 + S_.2.2.1 57 (0 + ll_) (S_.1 5 ll_ 2).toNat < b_.1) ∧ wrc ll_ S_ l_ b_)
theorem fnc_n {ll_ l_ l'_ : Nat} {S_ : sm_S} {b_ o_ : Int × Int × Int × (Nat → Int)} (h_ : wrc ll_ S_ l_ b_) (g_ : wrc ll_ S_ l'_ o_) (n_ : ¬ (S_.2.2.1 61 0 l'_ + S_.2.2.1 57 (0 + ll_) (S_.1 5 ll_ 2).toNat < S_.2.2.1 61 0 l_) ∨ S_.1 5 ll_ 2 = -1) : fnc ll_ S_ l_ b_ o_ := by
  have e0_ := h_.1
  have e1_ := g_.1
  exact Or.inr ⟨fun u_ => by omega, h_⟩
theorem fnc_i {ll_ l_ m_ : Nat} {S_ S'_ : sm_S} {z_ : Int} {b_ o_ : Int × Int × Int × (Nat → Int)} (hb_ : wrc ll_ S_ l_ b_) (ho_ : wrc ll_ S_ m_ o_) (ne : m_ ≠ l_) (iv_ : S_.1 5 ll_ 2 ≠ -1) (hz_ : z_ = S_.2.2.1 61 0 m_ + S_.2.2.1 57 (0 + ll_) (S_.1 5 ll_ 2).toNat) (lt_ : z_ < S_.2.2.1 61 0 l_) (a0_ : 0 ≤ S_.2.2.1 57 (0 + ll_) (S_.1 5 ll_ 2).toNat) (c55_ : ∀ k_, S_.2.2.1 55 (0 + ll_) k_ ≤ 3) (e_ : S'_ = sm_aI (sm_aI S_ 61 0 l_ z_) 62 0 l_ (-2)) : fnc ll_ S'_ l_ b_ o_ ∧ fnc ll_ S'_ m_ o_ b_ := by
  have r61_ : ∀ j_, S'_.2.2.1 61 0 j_ = if j_ = l_ then z_ else S_.2.2.1 61 0 j_ := fun j_ => by rw [e_, rd_ne (by decide), rd_eq]
  have r62_ : ∀ j_, S'_.2.2.1 62 0 j_ = if j_ = l_ then -2 else S_.2.2.1 62 0 j_ := fun j_ => by rw [e_, rd_eq, rd_ne (by decide)]
  have r5_ : S'_.1 5 ll_ 2 = S_.1 5 ll_ 2 := by rw [e_]; rfl
  have r57_ : S'_.2.2.1 57 (0 + ll_) = S_.2.2.1 57 (0 + ll_) := by rw [e_, rd_ne_ (by decide), rd_ne_ (by decide)]
  have h1_ := hb_.1
  have h2_ := ho_.1
  unfold fnc
  rw [r5_, r57_]
  refine ⟨Or.inl ⟨iv_, by omega, by rw [r61_, if_pos rfl]; omega, by rw [r62_, if_pos rfl]⟩, Or.inr ⟨fun u_ => by omega, ?_⟩⟩
  exact wrc_o ho_ (by rw [r61_, if_neg ne]) (by rw [r62_, if_neg ne]) (by rw [e_, rd_ne (by decide), rd_ne (by decide)]) (fun k_ _ => by rw [e_, rd_ne (by decide), rd_ne (by decide)]) (by rw [e_, rd_ne_ (by decide), rd_ne_ (by decide)]) c55_

/-! Mapper.findWays -/
def vw_99n : sx_Wl := ([(6, 11), (6, 13)], [61, 62, 63, 64, 65, 66, 67, 68, 70, 71], [])
def vq_99n (a1_ : Int) (dd_ : Nat) (F_ : Nat) (ll_ : Nat) (T_ : Nat → Prop) (S0_ : sm_S) (u_ : Option sm_V) (S1_ : sm_S) : Prop := u_ = none ∧ gi S1_ ∧ ai_fr (sx_W vw_99n) S0_ S1_ ∧ ((wok (1 + S0_.1 3 dd_ 1 + S0_.1 3 dd_ 2) a1_ ll_ S1_ (2 * a1_).toNat (2 * a1_ + 1).toNat ∧ wok (1 + S0_.1 3 dd_ 1 + S0_.1 3 dd_ 2) a1_ ll_ S1_ (2 * a1_ + 1).toNat (2 * a1_).toNat ∧ wfn a1_.toNat S0_ S1_) ∧ ∃ (m_ : Nat) (Q_ : Nat → List Nat) (TB_ : Nat → Int), (crn (fun x_ => decide (F_ ≤ x_ ∧ S0_.2.2.1 60 0 x_ = 0)) (fun x_ => srp dd_ S0_ (S0_.2.2.1 42 (0 + dd_) x_)) (fun x_ => srp dd_ S0_ (S0_.2.2.1 43 (0 + dd_) x_)) a1_.toNat m_).length ≤ m_ / 3 ∧ prm (crn (fun x_ => decide (F_ ≤ x_ ∧ S0_.2.2.1 60 0 x_ = 0)) (fun x_ => srp dd_ S0_ (S0_.2.2.1 42 (0 + dd_) x_)) (fun x_ => srp dd_ S0_ (S0_.2.2.1 43 (0 + dd_) x_)) a1_.toNat m_).length Q_ (fun i_ => (crn (fun x_ => decide (F_ ≤ x_ ∧ S0_.2.2.1 60 0 x_ = 0)) (fun x_ => srp dd_ S0_ (S0_.2.2.1 42 (0 + dd_) x_)) (fun x_ => srp dd_ S0_ (S0_.2.2.1 43 (0 + dd_) x_)) a1_.toNat m_).getD i_ []) ∧ sor (crn (fun x_ => decide (F_ ≤ x_ ∧ S0_.2.2.1 60 0 x_ = 0)) (fun x_ => srp dd_ S0_ (S0_.2.2.1 42 (0 + dd_) x_)) (fun x_ => srp dd_ S0_ (S0_.2.2.1 43 (0 + dd_) x_)) a1_.toNat m_).length Q_ ∧ (∀ i_, i_ < (crn (fun x_ => decide (F_ ≤ x_ ∧ S0_.2.2.1 60 0 x_ = 0)) (fun x_ => srp dd_ S0_ (S0_.2.2.1 42 (0 + dd_) x_)) (fun x_ => srp dd_ S0_ (S0_.2.2.1 43 (0 + dd_) x_)) a1_.toNat m_).length → ((2 ≤ (Q_ i_).length ∧ (Q_ i_).length ≤ 3) ∧ Q_ i_ ∈ crn (fun x_ => decide (F_ ≤ x_ ∧ S0_.2.2.1 60 0 x_ = 0)) (fun x_ => srp dd_ S0_ (S0_.2.2.1 42 (0 + dd_) x_)) (fun x_ => srp dd_ S0_ (S0_.2.2.1 43 (0 + dd_) x_)) a1_.toNat m_) ∧ (tbo (fun x_ => srp dd_ S0_ (S0_.2.2.1 42 (0 + dd_) x_)) (fun x_ => srp dd_ S0_ (S0_.2.2.1 43 (0 + dd_) x_)) (fun x_ => slt dd_ S0_ (S0_.2.2.1 42 (0 + dd_) x_) % 2) (fun x_ => slt dd_ S0_ (S0_.2.2.1 43 (0 + dd_) x_) % 2) T_ a1_.toNat) (Q_ i_) (TB_ i_)) ∧ fnc ll_ S1_ (2 * a1_).toNat (wbs adc (pcc (1 + S0_.1 3 dd_ 1 + S0_.1 3 dd_ 2) ll_ S0_) (hcf (S0_.2.2.1 69 0) TB_ Q_ 0) (fun cell => S0_.2.2.1 57 (0 + ll_) cell) (fun cell => (S0_.2.2.1 55 (0 + ll_) cell).toNat) Q_ (crn (fun x_ => decide (F_ ≤ x_ ∧ S0_.2.2.1 60 0 x_ = 0)) (fun x_ => srp dd_ S0_ (S0_.2.2.1 42 (0 + dd_) x_)) (fun x_ => srp dd_ S0_ (S0_.2.2.1 43 (0 + dd_) x_)) a1_.toNat m_).length (S0_.1 5 ll_ 1).toNat 268435456) (wbs adc (pcc (1 + S0_.1 3 dd_ 1 + S0_.1 3 dd_ 2) ll_ S0_) (hcf (S0_.2.2.1 69 0) TB_ Q_ 1) (fun cell => S0_.2.2.1 57 (0 + ll_) cell) (fun cell => (S0_.2.2.1 55 (0 + ll_) cell).toNat) Q_ (crn (fun x_ => decide (F_ ≤ x_ ∧ S0_.2.2.1 60 0 x_ = 0)) (fun x_ => srp dd_ S0_ (S0_.2.2.1 42 (0 + dd_) x_)) (fun x_ => srp dd_ S0_ (S0_.2.2.1 43 (0 + dd_) x_)) a1_.toNat m_).length (S0_.1 5 ll_ 1).toNat 268435456) ∧ fnc ll_ S1_ (2 * a1_ + 1).toNat (wbs adc (pcc (1 + S0_.1 3 dd_ 1 + S0_.1 3 dd_ 2) ll_ S0_) (hcf (S0_.2.2.1 69 0) TB_ Q_ 1) (fun cell => S0_.2.2.1 57 (0 + ll_) cell) (fun cell => (S0_.2.2.1 55 (0 + ll_) cell).toNat) Q_ (crn (fun x_ => decide (F_ ≤ x_ ∧ S0_.2.2.1 60 0 x_ = 0)) (fun x_ => srp dd_ S0_ (S0_.2.2.1 42 (0 + dd_) x_)) (fun x_ => srp dd_ S0_ (S0_.2.2.1 43 (0 + dd_) x_)) a1_.toNat m_).length (S0_.1 5 ll_ 1).toNat 268435456) (wbs adc (pcc (1 + S0_.1 3 dd_ 1 + S0_.1 3 dd_ 2) ll_ S0_) (hcf (S0_.2.2.1 69 0) TB_ Q_ 0) (fun cell => S0_.2.2.1 57 (0 + ll_) cell) (fun cell => (S0_.2.2.1 55 (0 + ll_) cell).toNat) Q_ (crn (fun x_ => decide (F_ ≤ x_ ∧ S0_.2.2.1 60 0 x_ = 0)) (fun x_ => srp dd_ S0_ (S0_.2.2.1 42 (0 + dd_) x_)) (fun x_ => srp dd_ S0_ (S0_.2.2.1 43 (0 + dd_) x_)) a1_.toNat m_).length (S0_.1 5 ll_ 1).toNat 268435456))
set_option maxHeartbeats 4000000 in
set_option maxRecDepth 20000 in
theorem vl_99n {sc_ : Nat × (Nat → Int)} (a1_ : Int) (dd_ : Nat) (F_ : Nat) (ll_ : Nat) (T_ : Nat → Prop) (S0_ : sm_S) (hd_ : S0_.2.1 6 0 0 = some dd_) (hc_ : S0_.2.1 6 0 1 = some ll_) (hg_ : dgr dd_ F_ S0_) (hs_ : swp dd_ F_ S0_) (hk_ : mkd dd_ F_ S0_ (S0_.2.2.1 59 0)) (h1_ : (F_ : Int) ≤ a1_ ∧ a1_ < S0_.1 3 dd_ 4) (hn_ : S0_.2.2.1 59 0 a1_.toNat = 1) (ht_ : trh (fun x_ => decide (F_ ≤ x_ ∧ S0_.2.2.1 60 0 x_ = 0)) (fun x_ => srp dd_ S0_ (S0_.2.2.1 42 (0 + dd_) x_)) (fun x_ => srp dd_ S0_ (S0_.2.2.1 43 (0 + dd_) x_)) a1_.toNat T_) (hlm_ : ∀ m_ : Nat, (crn (fun x_ => decide (F_ ≤ x_ ∧ S0_.2.2.1 60 0 x_ = 0)) (fun x_ => srp dd_ S0_ (S0_.2.2.1 42 (0 + dd_) x_)) (fun x_ => srp dd_ S0_ (S0_.2.2.1 43 (0 + dd_) x_)) a1_.toNat m_).length ≤ 1000) : ∀ nn_ : Nat, (∀ (i9_ : Int) (S_ : sm_S), gi S_ → ai_fr (sx_W vw_99n) S0_ S_ → ((0 ≤ i9_ ∧ i9_ ≤ 1024) ∧ (∃ (m_ : Nat) (O_ : List Nat) (TB_ : Nat → Int), fwi (crn (fun x_ => decide (F_ ≤ x_ ∧ S0_.2.2.1 60 0 x_ = 0)) (fun x_ => srp dd_ S0_ (S0_.2.2.1 42 (0 + dd_) x_)) (fun x_ => srp dd_ S0_ (S0_.2.2.1 43 (0 + dd_) x_)) a1_.toNat m_) (tbo (fun x_ => srp dd_ S0_ (S0_.2.2.1 42 (0 + dd_) x_)) (fun x_ => srp dd_ S0_ (S0_.2.2.1 43 (0 + dd_) x_)) (fun x_ => slt dd_ S0_ (S0_.2.2.1 42 (0 + dd_) x_) % 2) (fun x_ => slt dd_ S0_ (S0_.2.2.1 43 (0 + dd_) x_) % 2) T_ a1_.toNat) m_ S_ O_ TB_ i9_ ∧ wrc ll_ S_ (2 * a1_).toNat ((268435456, -1, 0, fun _ => 0)) ∧ wrc ll_ S_ (2 * a1_ + 1).toNat ((268435456, -1, 0, fun _ => 0))) ∧ (wo3 (1 + S0_.1 3 dd_ 1 + S0_.1 3 dd_ 2) a1_ ll_ S_ (2 * a1_).toNat) ∧ (wo3 (1 + S0_.1 3 dd_ 1 + S0_.1 3 dd_ 2) a1_ ll_ S_ (2 * a1_ + 1).toNat) ∧ (wfn a1_.toNat S0_ S_) ∧ (mcs (npd a1_ (S0_.2.2.1 59 0)) S_) ∧ (∀ i_ : Nat, (i_ : Int) < S_.1 6 0 11 → S_.2.2.1 66 0 i_ < S_.1 6 0 11) ∧ True) → ((90000000 - i9_).toNat) < nn_ → sm_T (mt_P sc_) 4 99 (53, [some (.inr (.inr (some (6, 0)))), some (.inl a1_), some (.inl i9_), none, none], [], S_) (fun ro9_ => ∃ u_ S1_, ro9_ = (.inl u_, S1_, 0) ∧ vq_99n a1_ dd_ F_ ll_ T_ S0_ u_ S1_)) ∧ (∀ (c9_ : Int) (S_ : sm_S), gi S_ → ai_fr (sx_W vw_99n) S0_ S_ → ((0 ≤ c9_ ∧ c9_ ≤ 12 ∧ c9_ ≤ S_.1 5 ll_ 1) ∧ (∃ (m_ : Nat) (O_ : List Nat) (TB_ : Nat → Int), fwi (crn (fun x_ => decide (F_ ≤ x_ ∧ S0_.2.2.1 60 0 x_ = 0)) (fun x_ => srp dd_ S0_ (S0_.2.2.1 42 (0 + dd_) x_)) (fun x_ => srp dd_ S0_ (S0_.2.2.1 43 (0 + dd_) x_)) a1_.toNat m_) (tbo (fun x_ => srp dd_ S0_ (S0_.2.2.1 42 (0 + dd_) x_)) (fun x_ => srp dd_ S0_ (S0_.2.2.1 43 (0 + dd_) x_)) (fun x_ => slt dd_ S0_ (S0_.2.2.1 42 (0 + dd_) x_) % 2) (fun x_ => slt dd_ S0_ (S0_.2.2.1 43 (0 + dd_) x_) % 2) T_ a1_.toNat) m_ S_ O_ TB_ (S_.1 6 0 11) ∧ wrc ll_ S_ (2 * a1_).toNat (cfo (wcl adc (pcc (1 + S0_.1 3 dd_ 1 + S0_.1 3 dd_ 2) ll_ S0_) (hcf (S0_.2.2.1 69 0) (fun i_ => TB_ (O_.getD i_ 0)) (fun i_ => (crn (fun x_ => decide (F_ ≤ x_ ∧ S0_.2.2.1 60 0 x_ = 0)) (fun x_ => srp dd_ S0_ (S0_.2.2.1 42 (0 + dd_) x_)) (fun x_ => srp dd_ S0_ (S0_.2.2.1 43 (0 + dd_) x_)) a1_.toNat m_).getD (O_.getD i_ 0) []) 0) (fun cell => S0_.2.2.1 57 (0 + ll_) cell) (fun cell => (S0_.2.2.1 55 (0 + ll_) cell).toNat) (fun i_ => (crn (fun x_ => decide (F_ ≤ x_ ∧ S0_.2.2.1 60 0 x_ = 0)) (fun x_ => srp dd_ S0_ (S0_.2.2.1 42 (0 + dd_) x_)) (fun x_ => srp dd_ S0_ (S0_.2.2.1 43 (0 + dd_) x_)) a1_.toNat m_).getD (O_.getD i_ 0) []) (crn (fun x_ => decide (F_ ≤ x_ ∧ S0_.2.2.1 60 0 x_ = 0)) (fun x_ => srp dd_ S0_ (S0_.2.2.1 42 (0 + dd_) x_)) (fun x_ => srp dd_ S0_ (S0_.2.2.1 43 (0 + dd_) x_)) a1_.toNat m_).length) (c9_.toNat) (268435456, -1, 0, fun _ => 0)) ∧ wrc ll_ S_ (2 * a1_ + 1).toNat (cfo (wcl adc (pcc (1 + S0_.1 3 dd_ 1 + S0_.1 3 dd_ 2) ll_ S0_) (hcf (S0_.2.2.1 69 0) (fun i_ => TB_ (O_.getD i_ 0)) (fun i_ => (crn (fun x_ => decide (F_ ≤ x_ ∧ S0_.2.2.1 60 0 x_ = 0)) (fun x_ => srp dd_ S0_ (S0_.2.2.1 42 (0 + dd_) x_)) (fun x_ => srp dd_ S0_ (S0_.2.2.1 43 (0 + dd_) x_)) a1_.toNat m_).getD (O_.getD i_ 0) []) 1) (fun cell => S0_.2.2.1 57 (0 + ll_) cell) (fun cell => (S0_.2.2.1 55 (0 + ll_) cell).toNat) (fun i_ => (crn (fun x_ => decide (F_ ≤ x_ ∧ S0_.2.2.1 60 0 x_ = 0)) (fun x_ => srp dd_ S0_ (S0_.2.2.1 42 (0 + dd_) x_)) (fun x_ => srp dd_ S0_ (S0_.2.2.1 43 (0 + dd_) x_)) a1_.toNat m_).getD (O_.getD i_ 0) []) (crn (fun x_ => decide (F_ ≤ x_ ∧ S0_.2.2.1 60 0 x_ = 0)) (fun x_ => srp dd_ S0_ (S0_.2.2.1 42 (0 + dd_) x_)) (fun x_ => srp dd_ S0_ (S0_.2.2.1 43 (0 + dd_) x_)) a1_.toNat m_).length) (c9_.toNat) (268435456, -1, 0, fun _ => 0))) ∧ (wo3 (1 + S0_.1 3 dd_ 1 + S0_.1 3 dd_ 2) a1_ ll_ S_ (2 * a1_).toNat) ∧ (wo3 (1 + S0_.1 3 dd_ 1 + S0_.1 3 dd_ 2) a1_ ll_ S_ (2 * a1_ + 1).toNat) ∧ (wfn a1_.toNat S0_ S_) ∧ (mcs (npd a1_ (S0_.2.2.1 59 0)) S_) ∧ (∀ i_ : Nat, (i_ : Int) < S_.1 6 0 11 → S_.2.2.1 66 0 i_ < S_.1 6 0 11) ∧ True) → ((10000 * (100 - c9_) + 9000).toNat) < nn_ → sm_T (mt_P sc_) 4 99 (81, [some (.inr (.inr (some (6, 0)))), some (.inl a1_), some (.inl c9_), none, none], [], S_) (fun ro9_ => ∃ u_ S1_, ro9_ = (.inl u_, S1_, 0) ∧ vq_99n a1_ dd_ F_ ll_ T_ S0_ u_ S1_)) ∧ (∀ (c9_ : Int) (i9_ : Int) (S_ : sm_S), gi S_ → ai_fr (sx_W vw_99n) S0_ S_ → ((0 ≤ c9_ ∧ c9_ < 12 ∧ 0 ≤ i9_ ∧ i9_ ≤ 1024 ∧ c9_ < S_.1 5 ll_ 1 ∧ i9_ ≤ S_.1 6 0 11) ∧ (∃ (m_ : Nat) (O_ : List Nat) (TB_ : Nat → Int), fwi (crn (fun x_ => decide (F_ ≤ x_ ∧ S0_.2.2.1 60 0 x_ = 0)) (fun x_ => srp dd_ S0_ (S0_.2.2.1 42 (0 + dd_) x_)) (fun x_ => srp dd_ S0_ (S0_.2.2.1 43 (0 + dd_) x_)) a1_.toNat m_) (tbo (fun x_ => srp dd_ S0_ (S0_.2.2.1 42 (0 + dd_) x_)) (fun x_ => srp dd_ S0_ (S0_.2.2.1 43 (0 + dd_) x_)) (fun x_ => slt dd_ S0_ (S0_.2.2.1 42 (0 + dd_) x_) % 2) (fun x_ => slt dd_ S0_ (S0_.2.2.1 43 (0 + dd_) x_) % 2) T_ a1_.toNat) m_ S_ O_ TB_ (S_.1 6 0 11) ∧ wrc ll_ S_ (2 * a1_).toNat (cfo (wct adc (pcc (1 + S0_.1 3 dd_ 1 + S0_.1 3 dd_ 2) ll_ S0_) ((hcf (S0_.2.2.1 69 0) (fun i_ => TB_ (O_.getD i_ 0)) (fun i_ => (crn (fun x_ => decide (F_ ≤ x_ ∧ S0_.2.2.1 60 0 x_ = 0)) (fun x_ => srp dd_ S0_ (S0_.2.2.1 42 (0 + dd_) x_)) (fun x_ => srp dd_ S0_ (S0_.2.2.1 43 (0 + dd_) x_)) a1_.toNat m_).getD (O_.getD i_ 0) []) 0) c9_.toNat) ((fun cell => S0_.2.2.1 57 (0 + ll_) cell) c9_.toNat) c9_.toNat ((fun cell => (S0_.2.2.1 55 (0 + ll_) cell).toNat) c9_.toNat) (fun i_ => (crn (fun x_ => decide (F_ ≤ x_ ∧ S0_.2.2.1 60 0 x_ = 0)) (fun x_ => srp dd_ S0_ (S0_.2.2.1 42 (0 + dd_) x_)) (fun x_ => srp dd_ S0_ (S0_.2.2.1 43 (0 + dd_) x_)) a1_.toNat m_).getD (O_.getD i_ 0) [])) (i9_.toNat) (cfo (wcl adc (pcc (1 + S0_.1 3 dd_ 1 + S0_.1 3 dd_ 2) ll_ S0_) (hcf (S0_.2.2.1 69 0) (fun i_ => TB_ (O_.getD i_ 0)) (fun i_ => (crn (fun x_ => decide (F_ ≤ x_ ∧ S0_.2.2.1 60 0 x_ = 0)) (fun x_ => srp dd_ S0_ (S0_.2.2.1 42 (0 + dd_) x_)) (fun x_ => srp dd_ S0_ (S0_.2.2.1 43 (0 + dd_) x_)) a1_.toNat m_).getD (O_.getD i_ 0) []) 0) (fun cell => S0_.2.2.1 57 (0 + ll_) cell) (fun cell => (S0_.2.2.1 55 (0 + ll_) cell).toNat) (fun i_ => (crn (fun x_ => decide (F_ ≤ x_ ∧ S0_.2.2.1 60 0 x_ = 0)) (fun x_ => srp dd_ S0_ (S0_.2.2.1 42 (0 + dd_) x_)) (fun x_ => srp dd_ S0_ (S0_.2.2.1 43 (0 + dd_) x_)) a1_.toNat m_).getD (O_.getD i_ 0) []) (crn (fun x_ => decide (F_ ≤ x_ ∧ S0_.2.2.1 60 0 x_ = 0)) (fun x_ => srp dd_ S0_ (S0_.2.2.1 42 (0 + dd_) x_)) (fun x_ => srp dd_ S0_ (S0_.2.2.1 43 (0 + dd_) x_)) a1_.toNat m_).length) (c9_.toNat) (268435456, -1, 0, fun _ => 0))) ∧ wrc ll_ S_ (2 * a1_ + 1).toNat (cfo (wct adc (pcc (1 + S0_.1 3 dd_ 1 + S0_.1 3 dd_ 2) ll_ S0_) ((hcf (S0_.2.2.1 69 0) (fun i_ => TB_ (O_.getD i_ 0)) (fun i_ => (crn (fun x_ => decide (F_ ≤ x_ ∧ S0_.2.2.1 60 0 x_ = 0)) (fun x_ => srp dd_ S0_ (S0_.2.2.1 42 (0 + dd_) x_)) (fun x_ => srp dd_ S0_ (S0_.2.2.1 43 (0 + dd_) x_)) a1_.toNat m_).getD (O_.getD i_ 0) []) 1) c9_.toNat) ((fun cell => S0_.2.2.1 57 (0 + ll_) cell) c9_.toNat) c9_.toNat ((fun cell => (S0_.2.2.1 55 (0 + ll_) cell).toNat) c9_.toNat) (fun i_ => (crn (fun x_ => decide (F_ ≤ x_ ∧ S0_.2.2.1 60 0 x_ = 0)) (fun x_ => srp dd_ S0_ (S0_.2.2.1 42 (0 + dd_) x_)) (fun x_ => srp dd_ S0_ (S0_.2.2.1 43 (0 + dd_) x_)) a1_.toNat m_).getD (O_.getD i_ 0) [])) (i9_.toNat) (cfo (wcl adc (pcc (1 + S0_.1 3 dd_ 1 + S0_.1 3 dd_ 2) ll_ S0_) (hcf (S0_.2.2.1 69 0) (fun i_ => TB_ (O_.getD i_ 0)) (fun i_ => (crn (fun x_ => decide (F_ ≤ x_ ∧ S0_.2.2.1 60 0 x_ = 0)) (fun x_ => srp dd_ S0_ (S0_.2.2.1 42 (0 + dd_) x_)) (fun x_ => srp dd_ S0_ (S0_.2.2.1 43 (0 + dd_) x_)) a1_.toNat m_).getD (O_.getD i_ 0) []) 1) (fun cell => S0_.2.2.1 57 (0 + ll_) cell) (fun cell => (S0_.2.2.1 55 (0 + ll_) cell).toNat) (fun i_ => (crn (fun x_ => decide (F_ ≤ x_ ∧ S0_.2.2.1 60 0 x_ = 0)) (fun x_ => srp dd_ S0_ (S0_.2.2.1 42 (0 + dd_) x_)) (fun x_ => srp dd_ S0_ (S0_.2.2.1 43 (0 + dd_) x_)) a1_.toNat m_).getD (O_.getD i_ 0) []) (crn (fun x_ => decide (F_ ≤ x_ ∧ S0_.2.2.1 60 0 x_ = 0)) (fun x_ => srp dd_ S0_ (S0_.2.2.1 42 (0 + dd_) x_)) (fun x_ => srp dd_ S0_ (S0_.2.2.1 43 (0 + dd_) x_)) a1_.toNat m_).length) (c9_.toNat) (268435456, -1, 0, fun _ => 0)))) ∧ (wo3 (1 + S0_.1 3 dd_ 1 + S0_.1 3 dd_ 2) a1_ ll_ S_ (2 * a1_).toNat) ∧ (wo3 (1 + S0_.1 3 dd_ 1 + S0_.1 3 dd_ 2) a1_ ll_ S_ (2 * a1_ + 1).toNat) ∧ (wfn a1_.toNat S0_ S_) ∧ (mcs (npd a1_ (S0_.2.2.1 59 0)) S_) ∧ (∀ i_ : Nat, (i_ : Int) < S_.1 6 0 11 → S_.2.2.1 66 0 i_ < S_.1 6 0 11) ∧ True) → ((10000 * (100 - c9_) + 8000 - i9_).toNat) < nn_ → sm_T (mt_P sc_) 4 99 (94, [some (.inr (.inr (some (6, 0)))), some (.inl a1_), some (.inl c9_), some (.inl i9_), none], [], S_) (fun ro9_ => ∃ u_ S1_, ro9_ = (.inl u_, S1_, 0) ∧ vq_99n a1_ dd_ F_ ll_ T_ S0_ u_ S1_)) := by
  intro nn_
  induction nn_ with
  | zero => exact ⟨fun _ _ _ _ _ h_ => absurd h_ (Nat.not_lt_zero _), fun _ _ _ _ _ h_ => absurd h_ (Nat.not_lt_zero _), fun _ _ _ _ _ _ h_ => absurd h_ (Nat.not_lt_zero _)⟩
  | succ nn_ ih_ =>
    refine ⟨?_, ?_, ?_⟩
    · rintro i9_ S_ hI_ hF_ ⟨h0_, hX_, hv0_, hv1_, hf_, hcs_, ho_, -⟩ hm_
      have f57_ : S_.2.2.1 57 (0 + ll_) = S0_.2.2.1 57 (0 + ll_) := fr_arr hF_ rfl
      have f69_ : S_.2.2.1 69 0 = S0_.2.2.1 69 0 := fr_arr hF_ rfl
      have f51_ : S_.1 5 ll_ 1 = S0_.1 5 ll_ 1 := hF_.1 5 ll_ 1 rfl
      have f55_ : S_.2.2.1 55 (0 + ll_) = S0_.2.2.1 55 (0 + ll_) := fr_arr hF_ rfl
      have f59_ : S_.2.2.1 59 0 = S0_.2.2.1 59 0 := fr_arr hF_ rfl
      have f60_ : S_.2.2.1 60 0 = S0_.2.2.1 60 0 := fr_arr hF_ rfl
      have f1_ : S_.1 3 dd_ 1 = S0_.1 3 dd_ 1 := hF_.1 3 dd_ 1 rfl
      have f2_ : S_.1 3 dd_ 2 = S0_.1 3 dd_ 2 := hF_.1 3 dd_ 2 rfl
      have f5_ : S_.1 5 ll_ 2 = S0_.1 5 ll_ 2 := hF_.1 5 ll_ 2 rfl
      have ck_ : 0 ≤ S_.1 6 0 11 ∧ S_.1 6 0 11 ≤ 1024 := hI_.1 6 0 11 rfl
      have cq_ : 0 ≤ S_.1 5 ll_ 1 ∧ S_.1 5 ll_ 1 ≤ 12 := hI_.1 5 ll_ 1 rfl
      have n13_ : 0 ≤ S_.1 3 dd_ 4 ∧ S_.1 3 dd_ 4 ≤ 1013 := hI_.1 3 dd_ 4 rfl
      have f4_ : S_.1 3 dd_ 4 = S0_.1 3 dd_ 4 := hF_.1 3 dd_ 4 rfl
      have g1_ := hg_.1
      have bx1_ : 0 ≤ S_.1 6 0 11 ∧ S_.1 6 0 11 ≤ 1024 := hI_.1 6 0 11 rfl
      refine sm_T_go 3 (c1 := (58, [some (.inr (.inr (some (6, 0)))), some (.inl a1_), some (.inl i9_), none, none], [.inl (S_.1 6 0 11), .inl i9_], S_)) rfl ?_
      refine sm_T_br (a := 3) (z := 21) rfl (fun cx2_ => ?_) (fun cx2_ => ?_)
      · have cx2_ : (S_.1 6 0 11) ≤ i9_ := of_decide_eq_true cx2_
        refine sm_T_go 2 (c1 := (81, [some (.inr (.inr (some (6, 0)))), some (.inl a1_), some (.inl 0), none, none], [], S_)) rfl ?_
        refine ih_.2.1 0 S_ hI_ hF_ ⟨?_, ?_, ?_, ?_, ?_, ?_, ?_, trivial⟩ ?_
        · omega
        · obtain ⟨m9_, O9_, B9_, q9_, r9_, s9_⟩ := hX_
          refine ⟨m9_, O9_, B9_, ⟨q9_.1, q9_.2.1, fun i_ c_ u_ w_ => q9_.2.2 i_ c_ (by omega) w_⟩, r9_, s9_⟩
        · exact hv0_
        · exact hv1_
        · exact hf_
        · exact hcs_
        · exact ho_
        · omega
      · have cx2_ : ¬ ((S_.1 6 0 11) ≤ i9_) := of_decide_eq_false cx2_
        obtain ⟨m9_, O9_, B9_, q9_, r9_, s9_⟩ := hX_
        obtain ⟨d9_, hd9_⟩ : ∃ d9_, (crn (fun x_ => decide (F_ ≤ x_ ∧ S0_.2.2.1 60 0 x_ = 0)) (fun x_ => srp dd_ S0_ (S0_.2.2.1 42 (0 + dd_) x_)) (fun x_ => srp dd_ S0_ (S0_.2.2.1 43 (0 + dd_) x_)) a1_.toNat m9_)[i9_.toNat]? = some d9_ := ⟨_, List.getElem?_eq_getElem (by (have z9_ := q9_.1.1.1; omega))⟩
        have y9_ := q9_.1.1.2 _ _ hd9_
        obtain ⟨E9_, e91_, e92_, e93_⟩ := crn_fr m9_ d9_ (List.mem_of_getElem? hd9_)
        have cl9_ := clo_of ht_ e91_
        rw [← e92_] at cl9_
        refine sm_T_go 6 (c1 := (69, [some (.inr (.inr (some (6, 0)))), some (.inl a1_), some (.inl i9_), none, none], [.inl i9_, .inl a1_, .inr (.inr (some (6, 0))), .inl i9_, .inr (.inr (some (67, 0)))], S_)) rfl ?_
        refine sm_T_cal (d1 := 2) (Q1 := vq_105n a1_ i9_ dd_ F_ (fun x_ => x_ ∈ a1_.toNat :: E9_) d9_ S_) rfl rfl (by decide) (vc_105n a1_ i9_ dd_ F_ (fun x_ => x_ ∈ a1_.toNat :: E9_) d9_ S_ hI_ (by exact (hF_.2.1 6 0 0 rfl).trans hd_) (by exact dgr_fr hg_ hF_ rfl rfl rfl rfl rfl) (by exact swp_fr hs_ hF_ rfl rfl rfl rfl) (by omega) (by omega) (by exact y9_.1) (by exact y9_.2) (by (rw [show srp dd_ S_ = srp dd_ S0_ from by (funext l9_; unfold srp; rw [fr_arr (t := 44) (i := 0 + dd_) hF_ rfl]), fr_arr (t := 42) (i := 0 + dd_) hF_ rfl, fr_arr (t := 43) (i := 0 + dd_) hF_ rfl]; exact cl9_)) (by (intro x9_ hx9_; rcases List.mem_cons.mp hx9_ with w9_ | w9_; (omega); (exact (of_decide_eq_true ((frc_a ht_ E9_ e91_).1 x9_ w9_).1).1)))) (fun u_ Sx3_ px6_ => ?_)
        obtain ⟨vx8_, rfl, hIx4_, hFx5_, px6_⟩ := px6_
        have hFx7_ : ai_fr (sx_W vw_99n) S0_ Sx3_ := ai_fr_tr hF_ (fr_le hFx5_ rfl)
        have ex9_ : Sx3_.1 6 0 11 = S_.1 6 0 11 := hFx5_.1 6 0 11 rfl
        have t69_ := (px6_).1
        have p69_ : (tbo (fun x_ => srp dd_ S0_ (S0_.2.2.1 42 (0 + dd_) x_)) (fun x_ => srp dd_ S0_ (S0_.2.2.1 43 (0 + dd_) x_)) (fun x_ => slt dd_ S0_ (S0_.2.2.1 42 (0 + dd_) x_) % 2) (fun x_ => slt dd_ S0_ (S0_.2.2.1 43 (0 + dd_) x_) % 2) T_ a1_.toNat) d9_ vx8_ := by (obtain ⟨B8_, t8_, b81_, b82_, b83_, b84_⟩ := (px6_).2; rw [show srp dd_ S_ = srp dd_ S0_ from by (funext l9_; unfold srp; rw [fr_arr (t := 44) (i := 0 + dd_) hF_ rfl]), show slt dd_ S_ = slt dd_ S0_ from by (funext l9_; unfold slt; rw [fr_arr (t := 44) (i := 0 + dd_) hF_ rfl]), fr_arr (t := 42) (i := 0 + dd_) hF_ rfl, fr_arr (t := 43) (i := 0 + dd_) hF_ rfl] at b83_; exact ⟨B8_, t8_, b81_, fun x8_ hx8_ => by (have q8_ : x8_ ∈ a1_.toNat :: E9_ := b82_ x8_ hx8_; rcases List.mem_cons.mp q8_ with w8_ | w8_; (rw [w8_]; exact ht_.1); (exact ((frc_a ht_ E9_ e91_).1 x8_ w8_).2.1)), b83_, b84_⟩)
        have q69_ := fwi_fr q9_ hFx5_
        have r69_ := wrc_fr r9_ hFx5_
        have s69_ := wrc_fr s9_ hFx5_
        have k69_ := hFx5_.1 6 0 11 rfl
        have u69_ := wo3_fr hv0_ hFx5_
        have v69_ := wo3_fr hv1_ hFx5_
        have w69_ := wfn_tr hf_ (wfn_fr (n_ := a1_.toNat) hFx5_)
        have c69_ : mcs (npd a1_ (S0_.2.2.1 59 0)) Sx3_ := mcs_fr hcs_ hFx5_
        have o69_ : ∀ i_ : Nat, (i_ : Int) < Sx3_.1 6 0 11 → Sx3_.2.2.1 66 0 i_ < Sx3_.1 6 0 11 := fun i_ q9_ => by (rw [k69_] at q9_ ⊢; rw [(hFx5_.2.2 66 rfl 0 i_).1]; exact ho_ i_ q9_)
        refine sm_T_iast (n := 1024) rfl rfl (by omega) (by omega) ?_
        have hIx10_ : gi (sm_aI Sx3_ 67 0 i9_.toNat vx8_) := gi_aI hIx4_ (show 0 ≤ vx8_ ∧ vx8_ ≤ 255 from ⟨by omega, by omega⟩)
        have hFx11_ : ai_fr (sx_W vw_99n) S0_ (sm_aI Sx3_ 67 0 i9_.toNat vx8_) := ai_fr_tr hFx7_ (ai_fr_aI rfl)
        refine sm_T_inc (a := 2) (z := 1) (v := i9_) (w := i9_ + 1) rfl rfl (by omega) (by omega) (by omega) ?_ -- pc_ 73
        refine sm_T_go 1 (c1 := (53, [some (.inr (.inr (some (6, 0)))), some (.inl a1_), some (.inl (i9_ + 1)), none, none], [], sm_aI Sx3_ 67 0 i9_.toNat vx8_)) rfl ?_
        refine ih_.1 (i9_ + 1) (sm_aI Sx3_ 67 0 i9_.toNat vx8_) hIx10_ hFx11_ ⟨?_, ?_, ?_, ?_, ?_, ?_, ?_, trivial⟩ ?_
        · omega
        · obtain ⟨T8_, t8_⟩ := fwi_w q69_ hd9_ (by omega) p69_
          skip
          exact ⟨m9_, O9_, T8_, t8_, wrc_fr (w_ := ([], [67], [])) r69_ (ai_fr_aI rfl), wrc_fr (w_ := ([], [67], [])) s69_ (ai_fr_aI rfl)⟩
        · exact u69_
        · exact v69_
        · exact w69_
        · exact c69_
        · exact o69_
        · omega
    · rintro c9_ S_ hI_ hF_ ⟨h0_, hX_, hv0_, hv1_, hf_, hcs_, ho_, -⟩ hm_
      have f57_ : S_.2.2.1 57 (0 + ll_) = S0_.2.2.1 57 (0 + ll_) := fr_arr hF_ rfl
      have f69_ : S_.2.2.1 69 0 = S0_.2.2.1 69 0 := fr_arr hF_ rfl
      have f51_ : S_.1 5 ll_ 1 = S0_.1 5 ll_ 1 := hF_.1 5 ll_ 1 rfl
      have f55_ : S_.2.2.1 55 (0 + ll_) = S0_.2.2.1 55 (0 + ll_) := fr_arr hF_ rfl
      have f59_ : S_.2.2.1 59 0 = S0_.2.2.1 59 0 := fr_arr hF_ rfl
      have f60_ : S_.2.2.1 60 0 = S0_.2.2.1 60 0 := fr_arr hF_ rfl
      have f1_ : S_.1 3 dd_ 1 = S0_.1 3 dd_ 1 := hF_.1 3 dd_ 1 rfl
      have f2_ : S_.1 3 dd_ 2 = S0_.1 3 dd_ 2 := hF_.1 3 dd_ 2 rfl
      have f5_ : S_.1 5 ll_ 2 = S0_.1 5 ll_ 2 := hF_.1 5 ll_ 2 rfl
      have ck_ : 0 ≤ S_.1 6 0 11 ∧ S_.1 6 0 11 ≤ 1024 := hI_.1 6 0 11 rfl
      have cq_ : 0 ≤ S_.1 5 ll_ 1 ∧ S_.1 5 ll_ 1 ≤ 12 := hI_.1 5 ll_ 1 rfl
      have n13_ : 0 ≤ S_.1 3 dd_ 4 ∧ S_.1 3 dd_ 4 ≤ 1013 := hI_.1 3 dd_ 4 rfl
      have f4_ : S_.1 3 dd_ 4 = S0_.1 3 dd_ 4 := hF_.1 3 dd_ 4 rfl
      have g1_ := hg_.1
      refine sm_T_go 2 (c1 := (83, [some (.inr (.inr (some (6, 0)))), some (.inl a1_), some (.inl c9_), none, none], [.inr (.inr (some (6, 0))), .inl c9_], S_)) rfl ?_
      refine sm_T_gr rfl rfl ((hF_.2.1 6 0 1 rfl).trans hc_) ?_
      have bx1_ : 0 ≤ S_.1 5 ll_ 1 ∧ S_.1 5 ll_ 1 ≤ 12 := hI_.1 5 ll_ 1 rfl
      refine sm_T_go 1 (c1 := (89, [some (.inr (.inr (some (6, 0)))), some (.inl a1_), some (.inl c9_), none, none], [.inl (S_.1 5 ll_ 1), .inl c9_], S_)) rfl ?_
      refine sm_T_br (a := 3) (z := 73) rfl (fun cx2_ => ?_) (fun cx2_ => ?_)
      · have cx2_ : (S_.1 5 ll_ 1) ≤ c9_ := of_decide_eq_true cx2_
        refine sm_T_go 1 (c1 := (163, [some (.inr (.inr (some (6, 0)))), some (.inl a1_), some (.inl c9_), none, none], [.inr (.inr (some (6, 0)))], S_)) rfl ?_
        refine sm_T_gr rfl rfl ((hF_.2.1 6 0 1 rfl).trans hc_) ?_
        have bx3_ : (-1) ≤ S_.1 5 ll_ 2 ∧ S_.1 5 ll_ 2 ≤ 11 := hI_.1 5 ll_ 2 rfl
        refine sm_T_go 2 (c1 := (170, [some (.inr (.inr (some (6, 0)))), some (.inl a1_), some (.inl c9_), none, none], [.inl (-1), .inl (S_.1 5 ll_ 2)], S_)) rfl ?_
        refine sm_T_br (a := 0) (z := 106) rfl (fun cx4_ => ?_) (fun cx4_ => ?_)
        · have cx4_ : (S_.1 5 ll_ 2) = (-1) := of_decide_eq_true cx4_
          refine sm_T_rv rfl ⟨_, _, rfl, rfl, hI_, hF_, ?_⟩
          refine ⟨?_, ?_⟩
          · first | exact ⟨Or.inl hv0_, Or.inl hv1_, hf_⟩ | (have z9_ := wok_iv hv0_ hv1_ (by omega) (by omega) (by omega) (show S_.2.2.1 61 0 (2 * a1_ + 1).toNat + S_.2.2.1 57 (0 + ll_) (S_.1 5 ll_ 2).toNat < S_.2.2.1 61 0 (2 * a1_).toNat by omega) (by omega) (by omega) (fun k9_ => (hI_.2 55 (0 + ll_) k9_).2); exact ⟨z9_.1, z9_.2.1, wfn_tr hf_ (wfn_l z9_.2.2 (by omega))⟩) | (have z9_ := wok_iv hv1_ hv0_ (by omega) (by omega) (by omega) (show S_.2.2.1 61 0 (2 * a1_).toNat + S_.2.2.1 57 (0 + ll_) (S_.1 5 ll_ 2).toNat < S_.2.2.1 61 0 (2 * a1_ + 1).toNat by omega) (by omega) (by omega) (fun k9_ => (hI_.2 55 (0 + ll_) k9_).2); exact ⟨z9_.2.1, z9_.1, wfn_tr hf_ (wfn_l z9_.2.2 (by omega))⟩)
          · obtain ⟨m9_, O9_, B9_, q9_, r9_, s9_⟩ := hX_
            have cq9_ := cor_q q9_.1.1 (crn_d m9_) q9_.2.1
            refine ⟨m9_, (fun i_ => (crn (fun x_ => decide (F_ ≤ x_ ∧ S0_.2.2.1 60 0 x_ = 0)) (fun x_ => srp dd_ S0_ (S0_.2.2.1 42 (0 + dd_) x_)) (fun x_ => srp dd_ S0_ (S0_.2.2.1 43 (0 + dd_) x_)) a1_.toNat m9_).getD (O9_.getD i_ 0) []), fun i_ => B9_ (O9_.getD i_ 0), q9_.1.2, cq9_.1, cq9_.2, fun i_ hi_ => ?_, ?_⟩
            · have g9_ := cor_g q9_.2.1 hi_
              have hd9_ := gd_s g9_.2.1
              exact ⟨⟨(q9_.1.1.2 _ _ hd9_).1.1, List.mem_of_getElem? hd9_⟩, (q9_.2.2 _ _ (by (have z9_ := q9_.1.1.1; omega)) hd9_).2⟩
            · rw [show c9_.toNat = (S0_.1 5 ll_ 1).toNat by omega] at r9_ s9_
              have a0_ : 0 ≤ S_.2.2.1 57 (0 + ll_) (S_.1 5 ll_ 2).toNat := (hI_.2 57 (0 + ll_) _).1
              first | (exact ⟨fnc_n r9_ s9_ (by omega), fnc_n s9_ r9_ (by omega)⟩) | (have z9_ := fnc_i r9_ s9_ (by omega) (by omega) rfl (show S_.2.2.1 61 0 (2 * a1_ + 1).toNat + S_.2.2.1 57 (0 + ll_) (S_.1 5 ll_ 2).toNat < S_.2.2.1 61 0 (2 * a1_).toNat by omega) a0_ (fun k9_ => (hI_.2 55 (0 + ll_) k9_).2) rfl; exact z9_) | (have z9_ := fnc_i s9_ r9_ (by omega) (by omega) rfl (show S_.2.2.1 61 0 (2 * a1_).toNat + S_.2.2.1 57 (0 + ll_) (S_.1 5 ll_ 2).toNat < S_.2.2.1 61 0 (2 * a1_ + 1).toNat by omega) a0_ (fun k9_ => (hI_.2 55 (0 + ll_) k9_).2) rfl; exact ⟨z9_.2, z9_.1⟩)
        · have cx4_ : ¬ ((S_.1 5 ll_ 2) = (-1)) := of_decide_eq_false cx4_
          refine sm_T_go 1 (c1 := (174, [some (.inr (.inr (some (6, 0)))), some (.inl a1_), some (.inl c9_), none, none], [.inr (.inr (some (6, 0)))], S_)) rfl ?_
          refine sm_T_gr rfl rfl ((hF_.2.1 6 0 1 rfl).trans hc_) ?_
          refine sm_T_go 2 (c1 := (181, [some (.inr (.inr (some (6, 0)))), some (.inl a1_), some (.inl c9_), none, none], [.inr (.inr (some (6, 0))), .inr (.inr (some (57, (0 + ll_))))], S_)) rfl ?_
          refine sm_T_gr rfl rfl ((hF_.2.1 6 0 1 rfl).trans hc_) ?_
          refine sm_T_go 1 (c1 := (187, [some (.inr (.inr (some (6, 0)))), some (.inl a1_), some (.inl c9_), none, none], [.inl (S_.1 5 ll_ 2), .inr (.inr (some (57, (0 + ll_))))], S_)) rfl ?_
          refine sm_T_iald (n := 12) rfl rfl (by omega) (by omega) ?_
          have bx5_ : 0 ≤ S_.2.2.1 57 (0 + ll_) (S_.1 5 ll_ 2).toNat ∧ S_.2.2.1 57 (0 + ll_) (S_.1 5 ll_ 2).toNat ≤ 1000 := hI_.2 57 (0 + ll_) _
          refine sm_T_go 5 (c1 := (195, [some (.inr (.inr (some (6, 0)))), some (.inl a1_), some (.inl (S_.2.2.1 57 (0 + ll_) (S_.1 5 ll_ 2).toNat)), none, none], [.inl a1_, .inl 2, .inr (.inr (some (61, 0)))], S_)) rfl ?_
          refine sm_T_bin (w := 2 * a1_) rfl (bi_mul (by omega) (by omega) (by omega)) ?_ -- pc_ 195
          refine sm_T_iald (n := 2026) rfl rfl (by omega) (by omega) ?_
          have bx6_ : 0 ≤ S_.2.2.1 61 0 (2 * a1_).toNat ∧ S_.2.2.1 61 0 (2 * a1_).toNat ≤ 268435456 := hI_.2 61 0 _
          refine sm_T_go 5 (c1 := (204, [some (.inr (.inr (some (6, 0)))), some (.inl a1_), some (.inl (S_.2.2.1 57 (0 + ll_) (S_.1 5 ll_ 2).toNat)), some (.inl (S_.2.2.1 61 0 (2 * a1_).toNat)), none], [.inl a1_, .inl 2, .inr (.inr (some (61, 0)))], S_)) rfl ?_
          refine sm_T_bin (w := 2 * a1_) rfl (bi_mul (by omega) (by omega) (by omega)) ?_ -- pc_ 204
          refine sm_T_go 1 (c1 := (206, [some (.inr (.inr (some (6, 0)))), some (.inl a1_), some (.inl (S_.2.2.1 57 (0 + ll_) (S_.1 5 ll_ 2).toNat)), some (.inl (S_.2.2.1 61 0 (2 * a1_).toNat)), none], [.inl 1, .inl (2 * a1_), .inr (.inr (some (61, 0)))], S_)) rfl ?_
          refine sm_T_bin (w := 2 * a1_ + 1) rfl (bi_add (by omega) (by omega) (by omega)) ?_ -- pc_ 206
          refine sm_T_iald (n := 2026) rfl rfl (by omega) (by omega) ?_
          have bx7_ : 0 ≤ S_.2.2.1 61 0 (2 * a1_ + 1).toNat ∧ S_.2.2.1 61 0 (2 * a1_ + 1).toNat ≤ 268435456 := hI_.2 61 0 _
          refine sm_T_go 3 (c1 := (213, [some (.inr (.inr (some (6, 0)))), some (.inl a1_), some (.inl (S_.2.2.1 57 (0 + ll_) (S_.1 5 ll_ 2).toNat)), some (.inl (S_.2.2.1 61 0 (2 * a1_).toNat)), some (.inl (S_.2.2.1 61 0 (2 * a1_ + 1).toNat))], [.inl (S_.2.2.1 57 (0 + ll_) (S_.1 5 ll_ 2).toNat), .inl (S_.2.2.1 61 0 (2 * a1_ + 1).toNat)], S_)) rfl ?_
          refine sm_T_bin (w := (S_.2.2.1 61 0 (2 * a1_ + 1).toNat) + (S_.2.2.1 57 (0 + ll_) (S_.1 5 ll_ 2).toNat)) rfl (bi_add (by omega) (by omega) (by omega)) ?_ -- pc_ 213
          refine sm_T_go 1 (c1 := (215, [some (.inr (.inr (some (6, 0)))), some (.inl a1_), some (.inl (S_.2.2.1 57 (0 + ll_) (S_.1 5 ll_ 2).toNat)), some (.inl (S_.2.2.1 61 0 (2 * a1_).toNat)), some (.inl (S_.2.2.1 61 0 (2 * a1_ + 1).toNat))], [.inl (S_.2.2.1 61 0 (2 * a1_).toNat), .inl ((S_.2.2.1 61 0 (2 * a1_ + 1).toNat) + (S_.2.2.1 57 (0 + ll_) (S_.1 5 ll_ 2).toNat))], S_)) rfl ?_
          refine sm_T_br (a := 3) (z := 28) rfl (fun cx8_ => ?_) (fun cx8_ => ?_)
          · have cx8_ : (S_.2.2.1 61 0 (2 * a1_).toNat) ≤ (S_.2.2.1 61 0 (2 * a1_ + 1).toNat) + (S_.2.2.1 57 (0 + ll_) (S_.1 5 ll_ 2).toNat) := of_decide_eq_true cx8_
            refine sm_T_go 2 (c1 := (245, [some (.inr (.inr (some (6, 0)))), some (.inl a1_), some (.inl (S_.2.2.1 57 (0 + ll_) (S_.1 5 ll_ 2).toNat)), some (.inl (S_.2.2.1 61 0 (2 * a1_).toNat)), some (.inl (S_.2.2.1 61 0 (2 * a1_ + 1).toNat))], [.inl (S_.2.2.1 57 (0 + ll_) (S_.1 5 ll_ 2).toNat), .inl (S_.2.2.1 61 0 (2 * a1_).toNat)], S_)) rfl ?_
            refine sm_T_bin (w := (S_.2.2.1 61 0 (2 * a1_).toNat) + (S_.2.2.1 57 (0 + ll_) (S_.1 5 ll_ 2).toNat)) rfl (bi_add (by omega) (by omega) (by omega)) ?_ -- pc_ 245
            refine sm_T_go 1 (c1 := (248, [some (.inr (.inr (some (6, 0)))), some (.inl a1_), some (.inl (S_.2.2.1 57 (0 + ll_) (S_.1 5 ll_ 2).toNat)), some (.inl (S_.2.2.1 61 0 (2 * a1_).toNat)), some (.inl (S_.2.2.1 61 0 (2 * a1_ + 1).toNat))], [.inl (S_.2.2.1 61 0 (2 * a1_ + 1).toNat), .inl ((S_.2.2.1 61 0 (2 * a1_).toNat) + (S_.2.2.1 57 (0 + ll_) (S_.1 5 ll_ 2).toNat))], S_)) rfl ?_
            refine sm_T_br (a := 3) (z := 28) rfl (fun cx9_ => ?_) (fun cx9_ => ?_)
            · have cx9_ : (S_.2.2.1 61 0 (2 * a1_ + 1).toNat) ≤ (S_.2.2.1 61 0 (2 * a1_).toNat) + (S_.2.2.1 57 (0 + ll_) (S_.1 5 ll_ 2).toNat) := of_decide_eq_true cx9_
              refine sm_T_rv rfl ⟨_, _, rfl, rfl, hI_, hF_, ?_⟩
              refine ⟨?_, ?_⟩
              · first | exact ⟨Or.inl hv0_, Or.inl hv1_, hf_⟩ | (have z9_ := wok_iv hv0_ hv1_ (by omega) (by omega) (by omega) (show S_.2.2.1 61 0 (2 * a1_ + 1).toNat + S_.2.2.1 57 (0 + ll_) (S_.1 5 ll_ 2).toNat < S_.2.2.1 61 0 (2 * a1_).toNat by omega) (by omega) (by omega) (fun k9_ => (hI_.2 55 (0 + ll_) k9_).2); exact ⟨z9_.1, z9_.2.1, wfn_tr hf_ (wfn_l z9_.2.2 (by omega))⟩) | (have z9_ := wok_iv hv1_ hv0_ (by omega) (by omega) (by omega) (show S_.2.2.1 61 0 (2 * a1_).toNat + S_.2.2.1 57 (0 + ll_) (S_.1 5 ll_ 2).toNat < S_.2.2.1 61 0 (2 * a1_ + 1).toNat by omega) (by omega) (by omega) (fun k9_ => (hI_.2 55 (0 + ll_) k9_).2); exact ⟨z9_.2.1, z9_.1, wfn_tr hf_ (wfn_l z9_.2.2 (by omega))⟩)
              · obtain ⟨m9_, O9_, B9_, q9_, r9_, s9_⟩ := hX_
                have cq9_ := cor_q q9_.1.1 (crn_d m9_) q9_.2.1
                refine ⟨m9_, (fun i_ => (crn (fun x_ => decide (F_ ≤ x_ ∧ S0_.2.2.1 60 0 x_ = 0)) (fun x_ => srp dd_ S0_ (S0_.2.2.1 42 (0 + dd_) x_)) (fun x_ => srp dd_ S0_ (S0_.2.2.1 43 (0 + dd_) x_)) a1_.toNat m9_).getD (O9_.getD i_ 0) []), fun i_ => B9_ (O9_.getD i_ 0), q9_.1.2, cq9_.1, cq9_.2, fun i_ hi_ => ?_, ?_⟩
                · have g9_ := cor_g q9_.2.1 hi_
                  have hd9_ := gd_s g9_.2.1
                  exact ⟨⟨(q9_.1.1.2 _ _ hd9_).1.1, List.mem_of_getElem? hd9_⟩, (q9_.2.2 _ _ (by (have z9_ := q9_.1.1.1; omega)) hd9_).2⟩
                · rw [show c9_.toNat = (S0_.1 5 ll_ 1).toNat by omega] at r9_ s9_
                  have a0_ : 0 ≤ S_.2.2.1 57 (0 + ll_) (S_.1 5 ll_ 2).toNat := (hI_.2 57 (0 + ll_) _).1
                  first | (exact ⟨fnc_n r9_ s9_ (by omega), fnc_n s9_ r9_ (by omega)⟩) | (have z9_ := fnc_i r9_ s9_ (by omega) (by omega) rfl (show S_.2.2.1 61 0 (2 * a1_ + 1).toNat + S_.2.2.1 57 (0 + ll_) (S_.1 5 ll_ 2).toNat < S_.2.2.1 61 0 (2 * a1_).toNat by omega) a0_ (fun k9_ => (hI_.2 55 (0 + ll_) k9_).2) rfl; exact z9_) | (have z9_ := fnc_i s9_ r9_ (by omega) (by omega) rfl (show S_.2.2.1 61 0 (2 * a1_).toNat + S_.2.2.1 57 (0 + ll_) (S_.1 5 ll_ 2).toNat < S_.2.2.1 61 0 (2 * a1_ + 1).toNat by omega) a0_ (fun k9_ => (hI_.2 55 (0 + ll_) k9_).2) rfl; exact ⟨z9_.2, z9_.1⟩)
            · have cx9_ : ¬ ((S_.2.2.1 61 0 (2 * a1_ + 1).toNat) ≤ (S_.2.2.1 61 0 (2 * a1_).toNat) + (S_.2.2.1 57 (0 + ll_) (S_.1 5 ll_ 2).toNat)) := of_decide_eq_false cx9_
              refine sm_T_go 4 (c1 := (257, [some (.inr (.inr (some (6, 0)))), some (.inl a1_), some (.inl (S_.2.2.1 57 (0 + ll_) (S_.1 5 ll_ 2).toNat)), some (.inl (S_.2.2.1 61 0 (2 * a1_).toNat)), some (.inl (S_.2.2.1 61 0 (2 * a1_ + 1).toNat))], [.inl a1_, .inl 2, .inr (.inr (some (61, 0)))], S_)) rfl ?_
              refine sm_T_bin (w := 2 * a1_) rfl (bi_mul (by omega) (by omega) (by omega)) ?_ -- pc_ 257
              refine sm_T_go 1 (c1 := (259, [some (.inr (.inr (some (6, 0)))), some (.inl a1_), some (.inl (S_.2.2.1 57 (0 + ll_) (S_.1 5 ll_ 2).toNat)), some (.inl (S_.2.2.1 61 0 (2 * a1_).toNat)), some (.inl (S_.2.2.1 61 0 (2 * a1_ + 1).toNat))], [.inl 1, .inl (2 * a1_), .inr (.inr (some (61, 0)))], S_)) rfl ?_
              refine sm_T_bin (w := 2 * a1_ + 1) rfl (bi_add (by omega) (by omega) (by omega)) ?_ -- pc_ 259
              refine sm_T_go 2 (c1 := (262, [some (.inr (.inr (some (6, 0)))), some (.inl a1_), some (.inl (S_.2.2.1 57 (0 + ll_) (S_.1 5 ll_ 2).toNat)), some (.inl (S_.2.2.1 61 0 (2 * a1_).toNat)), some (.inl (S_.2.2.1 61 0 (2 * a1_ + 1).toNat))], [.inl (S_.2.2.1 57 (0 + ll_) (S_.1 5 ll_ 2).toNat), .inl (S_.2.2.1 61 0 (2 * a1_).toNat), .inl (2 * a1_ + 1), .inr (.inr (some (61, 0)))], S_)) rfl ?_
              refine sm_T_bin (w := (S_.2.2.1 61 0 (2 * a1_).toNat) + (S_.2.2.1 57 (0 + ll_) (S_.1 5 ll_ 2).toNat)) rfl (bi_add (by omega) (by omega) (by omega)) ?_ -- pc_ 262
              refine sm_T_iast (n := 2026) rfl rfl (by omega) (by omega) ?_
              have hIx10_ : gi (sm_aI S_ 61 0 (2 * a1_ + 1).toNat ((S_.2.2.1 61 0 (2 * a1_).toNat) + (S_.2.2.1 57 (0 + ll_) (S_.1 5 ll_ 2).toNat))) := gi_aI hI_ (show 0 ≤ (S_.2.2.1 61 0 (2 * a1_).toNat) + (S_.2.2.1 57 (0 + ll_) (S_.1 5 ll_ 2).toNat) ∧ (S_.2.2.1 61 0 (2 * a1_).toNat) + (S_.2.2.1 57 (0 + ll_) (S_.1 5 ll_ 2).toNat) ≤ 268435456 from ⟨by omega, by omega⟩)
              have hFx11_ : ai_fr (sx_W vw_99n) S0_ (sm_aI S_ 61 0 (2 * a1_ + 1).toNat ((S_.2.2.1 61 0 (2 * a1_).toNat) + (S_.2.2.1 57 (0 + ll_) (S_.1 5 ll_ 2).toNat))) := ai_fr_tr hF_ (ai_fr_aI rfl)
              refine sm_T_go 4 (c1 := (270, [some (.inr (.inr (some (6, 0)))), some (.inl a1_), some (.inl (S_.2.2.1 57 (0 + ll_) (S_.1 5 ll_ 2).toNat)), some (.inl (S_.2.2.1 61 0 (2 * a1_).toNat)), some (.inl (S_.2.2.1 61 0 (2 * a1_ + 1).toNat))], [.inl a1_, .inl 2, .inr (.inr (some (62, 0)))], sm_aI S_ 61 0 (2 * a1_ + 1).toNat ((S_.2.2.1 61 0 (2 * a1_).toNat) + (S_.2.2.1 57 (0 + ll_) (S_.1 5 ll_ 2).toNat)))) rfl ?_
              refine sm_T_bin (w := 2 * a1_) rfl (bi_mul (by omega) (by omega) (by omega)) ?_ -- pc_ 270
              refine sm_T_go 1 (c1 := (272, [some (.inr (.inr (some (6, 0)))), some (.inl a1_), some (.inl (S_.2.2.1 57 (0 + ll_) (S_.1 5 ll_ 2).toNat)), some (.inl (S_.2.2.1 61 0 (2 * a1_).toNat)), some (.inl (S_.2.2.1 61 0 (2 * a1_ + 1).toNat))], [.inl 1, .inl (2 * a1_), .inr (.inr (some (62, 0)))], sm_aI S_ 61 0 (2 * a1_ + 1).toNat ((S_.2.2.1 61 0 (2 * a1_).toNat) + (S_.2.2.1 57 (0 + ll_) (S_.1 5 ll_ 2).toNat)))) rfl ?_
              refine sm_T_bin (w := 2 * a1_ + 1) rfl (bi_add (by omega) (by omega) (by omega)) ?_ -- pc_ 272
              refine sm_T_go 1 (c1 := (275, [some (.inr (.inr (some (6, 0)))), some (.inl a1_), some (.inl (S_.2.2.1 57 (0 + ll_) (S_.1 5 ll_ 2).toNat)), some (.inl (S_.2.2.1 61 0 (2 * a1_).toNat)), some (.inl (S_.2.2.1 61 0 (2 * a1_ + 1).toNat))], [.inl (-2), .inl (2 * a1_ + 1), .inr (.inr (some (62, 0)))], sm_aI S_ 61 0 (2 * a1_ + 1).toNat ((S_.2.2.1 61 0 (2 * a1_).toNat) + (S_.2.2.1 57 (0 + ll_) (S_.1 5 ll_ 2).toNat)))) rfl ?_
              refine sm_T_iast (n := 2026) rfl rfl (by omega) (by omega) ?_
              have hIx12_ : gi (sm_aI (sm_aI S_ 61 0 (2 * a1_ + 1).toNat ((S_.2.2.1 61 0 (2 * a1_).toNat) + (S_.2.2.1 57 (0 + ll_) (S_.1 5 ll_ 2).toNat))) 62 0 (2 * a1_ + 1).toNat (-2)) := gi_aI hIx10_ (show (-2) ≤ (-2) ∧ (-2) ≤ 11 from ⟨by omega, by omega⟩)
              have hFx13_ : ai_fr (sx_W vw_99n) S0_ (sm_aI (sm_aI S_ 61 0 (2 * a1_ + 1).toNat ((S_.2.2.1 61 0 (2 * a1_).toNat) + (S_.2.2.1 57 (0 + ll_) (S_.1 5 ll_ 2).toNat))) 62 0 (2 * a1_ + 1).toNat (-2)) := ai_fr_tr hFx11_ (ai_fr_aI rfl)
              refine sm_T_rv rfl ⟨_, _, rfl, rfl, hIx12_, hFx13_, ?_⟩
              refine ⟨?_, ?_⟩
              · first | exact ⟨Or.inl hv0_, Or.inl hv1_, hf_⟩ | (have z9_ := wok_iv hv0_ hv1_ (by omega) (by omega) (by omega) (show S_.2.2.1 61 0 (2 * a1_ + 1).toNat + S_.2.2.1 57 (0 + ll_) (S_.1 5 ll_ 2).toNat < S_.2.2.1 61 0 (2 * a1_).toNat by omega) (by omega) (by omega) (fun k9_ => (hI_.2 55 (0 + ll_) k9_).2); exact ⟨z9_.1, z9_.2.1, wfn_tr hf_ (wfn_l z9_.2.2 (by omega))⟩) | (have z9_ := wok_iv hv1_ hv0_ (by omega) (by omega) (by omega) (show S_.2.2.1 61 0 (2 * a1_).toNat + S_.2.2.1 57 (0 + ll_) (S_.1 5 ll_ 2).toNat < S_.2.2.1 61 0 (2 * a1_ + 1).toNat by omega) (by omega) (by omega) (fun k9_ => (hI_.2 55 (0 + ll_) k9_).2); exact ⟨z9_.2.1, z9_.1, wfn_tr hf_ (wfn_l z9_.2.2 (by omega))⟩)
              · obtain ⟨m9_, O9_, B9_, q9_, r9_, s9_⟩ := hX_
                have cq9_ := cor_q q9_.1.1 (crn_d m9_) q9_.2.1
                refine ⟨m9_, (fun i_ => (crn (fun x_ => decide (F_ ≤ x_ ∧ S0_.2.2.1 60 0 x_ = 0)) (fun x_ => srp dd_ S0_ (S0_.2.2.1 42 (0 + dd_) x_)) (fun x_ => srp dd_ S0_ (S0_.2.2.1 43 (0 + dd_) x_)) a1_.toNat m9_).getD (O9_.getD i_ 0) []), fun i_ => B9_ (O9_.getD i_ 0), q9_.1.2, cq9_.1, cq9_.2, fun i_ hi_ => ?_, ?_⟩
                · have g9_ := cor_g q9_.2.1 hi_
                  have hd9_ := gd_s g9_.2.1
                  exact ⟨⟨(q9_.1.1.2 _ _ hd9_).1.1, List.mem_of_getElem? hd9_⟩, (q9_.2.2 _ _ (by (have z9_ := q9_.1.1.1; omega)) hd9_).2⟩
                · rw [show c9_.toNat = (S0_.1 5 ll_ 1).toNat by omega] at r9_ s9_
                  have a0_ : 0 ≤ S_.2.2.1 57 (0 + ll_) (S_.1 5 ll_ 2).toNat := (hI_.2 57 (0 + ll_) _).1
                  first | (exact ⟨fnc_n r9_ s9_ (by omega), fnc_n s9_ r9_ (by omega)⟩) | (have z9_ := fnc_i r9_ s9_ (by omega) (by omega) rfl (show S_.2.2.1 61 0 (2 * a1_ + 1).toNat + S_.2.2.1 57 (0 + ll_) (S_.1 5 ll_ 2).toNat < S_.2.2.1 61 0 (2 * a1_).toNat by omega) a0_ (fun k9_ => (hI_.2 55 (0 + ll_) k9_).2) rfl; exact z9_) | (have z9_ := fnc_i s9_ r9_ (by omega) (by omega) rfl (show S_.2.2.1 61 0 (2 * a1_).toNat + S_.2.2.1 57 (0 + ll_) (S_.1 5 ll_ 2).toNat < S_.2.2.1 61 0 (2 * a1_ + 1).toNat by omega) a0_ (fun k9_ => (hI_.2 55 (0 + ll_) k9_).2) rfl; exact ⟨z9_.2, z9_.1⟩)
          · have cx8_ : ¬ ((S_.2.2.1 61 0 (2 * a1_).toNat) ≤ (S_.2.2.1 61 0 (2 * a1_ + 1).toNat) + (S_.2.2.1 57 (0 + ll_) (S_.1 5 ll_ 2).toNat)) := of_decide_eq_false cx8_
            refine sm_T_go 4 (c1 := (224, [some (.inr (.inr (some (6, 0)))), some (.inl a1_), some (.inl (S_.2.2.1 57 (0 + ll_) (S_.1 5 ll_ 2).toNat)), some (.inl (S_.2.2.1 61 0 (2 * a1_).toNat)), some (.inl (S_.2.2.1 61 0 (2 * a1_ + 1).toNat))], [.inl a1_, .inl 2, .inr (.inr (some (61, 0)))], S_)) rfl ?_
            refine sm_T_bin (w := 2 * a1_) rfl (bi_mul (by omega) (by omega) (by omega)) ?_ -- pc_ 224
            refine sm_T_go 2 (c1 := (228, [some (.inr (.inr (some (6, 0)))), some (.inl a1_), some (.inl (S_.2.2.1 57 (0 + ll_) (S_.1 5 ll_ 2).toNat)), some (.inl (S_.2.2.1 61 0 (2 * a1_).toNat)), some (.inl (S_.2.2.1 61 0 (2 * a1_ + 1).toNat))], [.inl (S_.2.2.1 57 (0 + ll_) (S_.1 5 ll_ 2).toNat), .inl (S_.2.2.1 61 0 (2 * a1_ + 1).toNat), .inl (2 * a1_), .inr (.inr (some (61, 0)))], S_)) rfl ?_
            refine sm_T_bin (w := (S_.2.2.1 61 0 (2 * a1_ + 1).toNat) + (S_.2.2.1 57 (0 + ll_) (S_.1 5 ll_ 2).toNat)) rfl (bi_add (by omega) (by omega) (by omega)) ?_ -- pc_ 228
            refine sm_T_iast (n := 2026) rfl rfl (by omega) (by omega) ?_
            have hIx14_ : gi (sm_aI S_ 61 0 (2 * a1_).toNat ((S_.2.2.1 61 0 (2 * a1_ + 1).toNat) + (S_.2.2.1 57 (0 + ll_) (S_.1 5 ll_ 2).toNat))) := gi_aI hI_ (show 0 ≤ (S_.2.2.1 61 0 (2 * a1_ + 1).toNat) + (S_.2.2.1 57 (0 + ll_) (S_.1 5 ll_ 2).toNat) ∧ (S_.2.2.1 61 0 (2 * a1_ + 1).toNat) + (S_.2.2.1 57 (0 + ll_) (S_.1 5 ll_ 2).toNat) ≤ 268435456 from ⟨by omega, by omega⟩)
            have hFx15_ : ai_fr (sx_W vw_99n) S0_ (sm_aI S_ 61 0 (2 * a1_).toNat ((S_.2.2.1 61 0 (2 * a1_ + 1).toNat) + (S_.2.2.1 57 (0 + ll_) (S_.1 5 ll_ 2).toNat))) := ai_fr_tr hF_ (ai_fr_aI rfl)
            refine sm_T_go 4 (c1 := (236, [some (.inr (.inr (some (6, 0)))), some (.inl a1_), some (.inl (S_.2.2.1 57 (0 + ll_) (S_.1 5 ll_ 2).toNat)), some (.inl (S_.2.2.1 61 0 (2 * a1_).toNat)), some (.inl (S_.2.2.1 61 0 (2 * a1_ + 1).toNat))], [.inl a1_, .inl 2, .inr (.inr (some (62, 0)))], sm_aI S_ 61 0 (2 * a1_).toNat ((S_.2.2.1 61 0 (2 * a1_ + 1).toNat) + (S_.2.2.1 57 (0 + ll_) (S_.1 5 ll_ 2).toNat)))) rfl ?_
            refine sm_T_bin (w := 2 * a1_) rfl (bi_mul (by omega) (by omega) (by omega)) ?_ -- pc_ 236
            refine sm_T_go 1 (c1 := (239, [some (.inr (.inr (some (6, 0)))), some (.inl a1_), some (.inl (S_.2.2.1 57 (0 + ll_) (S_.1 5 ll_ 2).toNat)), some (.inl (S_.2.2.1 61 0 (2 * a1_).toNat)), some (.inl (S_.2.2.1 61 0 (2 * a1_ + 1).toNat))], [.inl (-2), .inl (2 * a1_), .inr (.inr (some (62, 0)))], sm_aI S_ 61 0 (2 * a1_).toNat ((S_.2.2.1 61 0 (2 * a1_ + 1).toNat) + (S_.2.2.1 57 (0 + ll_) (S_.1 5 ll_ 2).toNat)))) rfl ?_
            refine sm_T_iast (n := 2026) rfl rfl (by omega) (by omega) ?_
            have hIx16_ : gi (sm_aI (sm_aI S_ 61 0 (2 * a1_).toNat ((S_.2.2.1 61 0 (2 * a1_ + 1).toNat) + (S_.2.2.1 57 (0 + ll_) (S_.1 5 ll_ 2).toNat))) 62 0 (2 * a1_).toNat (-2)) := gi_aI hIx14_ (show (-2) ≤ (-2) ∧ (-2) ≤ 11 from ⟨by omega, by omega⟩)
            have hFx17_ : ai_fr (sx_W vw_99n) S0_ (sm_aI (sm_aI S_ 61 0 (2 * a1_).toNat ((S_.2.2.1 61 0 (2 * a1_ + 1).toNat) + (S_.2.2.1 57 (0 + ll_) (S_.1 5 ll_ 2).toNat))) 62 0 (2 * a1_).toNat (-2)) := ai_fr_tr hFx15_ (ai_fr_aI rfl)
            refine sm_T_go 1 (c1 := (276, [some (.inr (.inr (some (6, 0)))), some (.inl a1_), some (.inl (S_.2.2.1 57 (0 + ll_) (S_.1 5 ll_ 2).toNat)), some (.inl (S_.2.2.1 61 0 (2 * a1_).toNat)), some (.inl (S_.2.2.1 61 0 (2 * a1_ + 1).toNat))], [], sm_aI (sm_aI S_ 61 0 (2 * a1_).toNat ((S_.2.2.1 61 0 (2 * a1_ + 1).toNat) + (S_.2.2.1 57 (0 + ll_) (S_.1 5 ll_ 2).toNat))) 62 0 (2 * a1_).toNat (-2))) rfl ?_
            refine sm_T_rv rfl ⟨_, _, rfl, rfl, hIx16_, hFx17_, ?_⟩
            refine ⟨?_, ?_⟩
            · first | exact ⟨Or.inl hv0_, Or.inl hv1_, hf_⟩ | (have z9_ := wok_iv hv0_ hv1_ (by omega) (by omega) (by omega) (show S_.2.2.1 61 0 (2 * a1_ + 1).toNat + S_.2.2.1 57 (0 + ll_) (S_.1 5 ll_ 2).toNat < S_.2.2.1 61 0 (2 * a1_).toNat by omega) (by omega) (by omega) (fun k9_ => (hI_.2 55 (0 + ll_) k9_).2); exact ⟨z9_.1, z9_.2.1, wfn_tr hf_ (wfn_l z9_.2.2 (by omega))⟩) | (have z9_ := wok_iv hv1_ hv0_ (by omega) (by omega) (by omega) (show S_.2.2.1 61 0 (2 * a1_).toNat + S_.2.2.1 57 (0 + ll_) (S_.1 5 ll_ 2).toNat < S_.2.2.1 61 0 (2 * a1_ + 1).toNat by omega) (by omega) (by omega) (fun k9_ => (hI_.2 55 (0 + ll_) k9_).2); exact ⟨z9_.2.1, z9_.1, wfn_tr hf_ (wfn_l z9_.2.2 (by omega))⟩)
            · obtain ⟨m9_, O9_, B9_, q9_, r9_, s9_⟩ := hX_
              have cq9_ := cor_q q9_.1.1 (crn_d m9_) q9_.2.1
              refine ⟨m9_, (fun i_ => (crn (fun x_ => decide (F_ ≤ x_ ∧ S0_.2.2.1 60 0 x_ = 0)) (fun x_ => srp dd_ S0_ (S0_.2.2.1 42 (0 + dd_) x_)) (fun x_ => srp dd_ S0_ (S0_.2.2.1 43 (0 + dd_) x_)) a1_.toNat m9_).getD (O9_.getD i_ 0) []), fun i_ => B9_ (O9_.getD i_ 0), q9_.1.2, cq9_.1, cq9_.2, fun i_ hi_ => ?_, ?_⟩
              · have g9_ := cor_g q9_.2.1 hi_
                have hd9_ := gd_s g9_.2.1
                exact ⟨⟨(q9_.1.1.2 _ _ hd9_).1.1, List.mem_of_getElem? hd9_⟩, (q9_.2.2 _ _ (by (have z9_ := q9_.1.1.1; omega)) hd9_).2⟩
              · rw [show c9_.toNat = (S0_.1 5 ll_ 1).toNat by omega] at r9_ s9_
                have a0_ : 0 ≤ S_.2.2.1 57 (0 + ll_) (S_.1 5 ll_ 2).toNat := (hI_.2 57 (0 + ll_) _).1
                first | (exact ⟨fnc_n r9_ s9_ (by omega), fnc_n s9_ r9_ (by omega)⟩) | (have z9_ := fnc_i r9_ s9_ (by omega) (by omega) rfl (show S_.2.2.1 61 0 (2 * a1_ + 1).toNat + S_.2.2.1 57 (0 + ll_) (S_.1 5 ll_ 2).toNat < S_.2.2.1 61 0 (2 * a1_).toNat by omega) a0_ (fun k9_ => (hI_.2 55 (0 + ll_) k9_).2) rfl; exact z9_) | (have z9_ := fnc_i s9_ r9_ (by omega) (by omega) rfl (show S_.2.2.1 61 0 (2 * a1_).toNat + S_.2.2.1 57 (0 + ll_) (S_.1 5 ll_ 2).toNat < S_.2.2.1 61 0 (2 * a1_ + 1).toNat by omega) a0_ (fun k9_ => (hI_.2 55 (0 + ll_) k9_).2) rfl; exact ⟨z9_.2, z9_.1⟩)
      · have cx2_ : ¬ ((S_.1 5 ll_ 1) ≤ c9_) := of_decide_eq_false cx2_
        refine sm_T_go 2 (c1 := (94, [some (.inr (.inr (some (6, 0)))), some (.inl a1_), some (.inl c9_), some (.inl 0), none], [], S_)) rfl ?_
        refine ih_.2.2 c9_ 0 S_ hI_ hF_ ⟨?_, ?_, ?_, ?_, ?_, ?_, ?_, trivial⟩ ?_
        · omega
        · exact hX_
        · exact hv0_
        · exact hv1_
        · exact hf_
        · exact hcs_
        · exact ho_
        · omega
    · rintro c9_ i9_ S_ hI_ hF_ ⟨h0_, hX_, hv0_, hv1_, hf_, hcs_, ho_, -⟩ hm_
      have f57_ : S_.2.2.1 57 (0 + ll_) = S0_.2.2.1 57 (0 + ll_) := fr_arr hF_ rfl
      have f69_ : S_.2.2.1 69 0 = S0_.2.2.1 69 0 := fr_arr hF_ rfl
      have f51_ : S_.1 5 ll_ 1 = S0_.1 5 ll_ 1 := hF_.1 5 ll_ 1 rfl
      have f55_ : S_.2.2.1 55 (0 + ll_) = S0_.2.2.1 55 (0 + ll_) := fr_arr hF_ rfl
      have f59_ : S_.2.2.1 59 0 = S0_.2.2.1 59 0 := fr_arr hF_ rfl
      have f60_ : S_.2.2.1 60 0 = S0_.2.2.1 60 0 := fr_arr hF_ rfl
      have f1_ : S_.1 3 dd_ 1 = S0_.1 3 dd_ 1 := hF_.1 3 dd_ 1 rfl
      have f2_ : S_.1 3 dd_ 2 = S0_.1 3 dd_ 2 := hF_.1 3 dd_ 2 rfl
      have f5_ : S_.1 5 ll_ 2 = S0_.1 5 ll_ 2 := hF_.1 5 ll_ 2 rfl
      have ck_ : 0 ≤ S_.1 6 0 11 ∧ S_.1 6 0 11 ≤ 1024 := hI_.1 6 0 11 rfl
      have cq_ : 0 ≤ S_.1 5 ll_ 1 ∧ S_.1 5 ll_ 1 ≤ 12 := hI_.1 5 ll_ 1 rfl
      have n13_ : 0 ≤ S_.1 3 dd_ 4 ∧ S_.1 3 dd_ 4 ≤ 1013 := hI_.1 3 dd_ 4 rfl
      have f4_ : S_.1 3 dd_ 4 = S0_.1 3 dd_ 4 := hF_.1 3 dd_ 4 rfl
      have g1_ := hg_.1
      have bx1_ : 0 ≤ S_.1 6 0 11 ∧ S_.1 6 0 11 ≤ 1024 := hI_.1 6 0 11 rfl
      refine sm_T_go 3 (c1 := (99, [some (.inr (.inr (some (6, 0)))), some (.inl a1_), some (.inl c9_), some (.inl i9_), none], [.inl (S_.1 6 0 11), .inl i9_], S_)) rfl ?_
      refine sm_T_br (a := 3) (z := 57) rfl (fun cx2_ => ?_) (fun cx2_ => ?_)
      · have cx2_ : (S_.1 6 0 11) ≤ i9_ := of_decide_eq_true cx2_
        refine sm_T_inc (a := 2) (z := 1) (v := c9_) (w := c9_ + 1) rfl rfl (by omega) (by omega) (by omega) ?_ -- pc_ 156
        refine sm_T_go 1 (c1 := (81, [some (.inr (.inr (some (6, 0)))), some (.inl a1_), some (.inl (c9_ + 1)), some (.inl i9_), none], [], S_)) rfl ?_
        refine sm_T_wk [some (.inr (.inr (some (6, 0)))), some (.inl a1_), some (.inl (c9_ + 1)), none, none] (by exact ⟨rfl, rfl, rfl, trivial⟩) ?_
        refine ih_.2.1 (c9_ + 1) S_ hI_ hF_ ⟨?_, ?_, ?_, ?_, ?_, ?_, ?_, trivial⟩ ?_
        · omega
        · obtain ⟨m9_, O9_, B9_, q9_, r9_, s9_⟩ := hX_
          have n9_ : i9_.toNat = (crn (fun x_ => decide (F_ ≤ x_ ∧ S0_.2.2.1 60 0 x_ = 0)) (fun x_ => srp dd_ S0_ (S0_.2.2.1 42 (0 + dd_) x_)) (fun x_ => srp dd_ S0_ (S0_.2.2.1 43 (0 + dd_) x_)) a1_.toNat m9_).length := by (have z9_ := q9_.1.1.1; omega)
          rw [n9_] at r9_ s9_
          refine ⟨m9_, O9_, B9_, q9_, ?_, ?_⟩
          · rw [show (c9_ + 1).toNat = c9_.toNat + 1 by omega, cfo_s]; exact r9_
          · rw [show (c9_ + 1).toNat = c9_.toNat + 1 by omega, cfo_s]; exact s9_
        · exact hv0_
        · exact hv1_
        · exact hf_
        · exact hcs_
        · exact ho_
        · omega
      · have cx2_ : ¬ ((S_.1 6 0 11) ≤ i9_) := of_decide_eq_false cx2_
        have o9_ := ho_ i9_.toNat (by omega)
        obtain ⟨m9_, O9_, B9_, q9_, r9_, s9_⟩ := hX_
        have g9_ := cor_g q9_.2.1 (j_ := i9_.toNat) (by (have z9_ := q9_.1.1.1; omega))
        have hd9_ := gd_s g9_.2.1
        have y9_ := q9_.1.1.2 _ _ hd9_
        have w9_ := q9_.2.2 _ _ (by omega) hd9_
        have cn9_ : (S_.2.2.1 66 0 i9_.toNat).toNat = O9_.getD i9_.toNat 0 := by omega
        have c29_ := y9_.2 2 (by decide)
        rw [show 3 * O9_.getD i9_.toNat 0 + 2 = (3 * S_.2.2.1 66 0 i9_.toNat + 2).toNat by omega] at c29_
        have l29_ : imq (S_.2.2.1 65 0 (3 * S_.2.2.1 66 0 i9_.toNat + 2).toNat = -1) (((fun i_ => (crn (fun x_ => decide (F_ ≤ x_ ∧ S0_.2.2.1 60 0 x_ = 0)) (fun x_ => srp dd_ S0_ (S0_.2.2.1 42 (0 + dd_) x_)) (fun x_ => srp dd_ S0_ (S0_.2.2.1 43 (0 + dd_) x_)) a1_.toNat m9_).getD (O9_.getD i_ 0) []) i9_.toNat).length = 2) ∧ imq (S_.2.2.1 65 0 (3 * S_.2.2.1 66 0 i9_.toNat + 2).toNat ≠ -1) (((fun i_ => (crn (fun x_ => decide (F_ ≤ x_ ∧ S0_.2.2.1 60 0 x_ = 0)) (fun x_ => srp dd_ S0_ (S0_.2.2.1 42 (0 + dd_) x_)) (fun x_ => srp dd_ S0_ (S0_.2.2.1 43 (0 + dd_) x_)) a1_.toNat m9_).getD (O9_.getD i_ 0) []) i9_.toNat).length = 3) := by (refine ⟨fun u9_ => ?_, fun u9_ => ?_⟩; (have v9_ := List.getElem?_eq_none_iff.mp (cva_z (c29_.symm.trans u9_)); have v8_ := y9_.1.1; show ((crn (fun x_ => decide (F_ ≤ x_ ∧ S0_.2.2.1 60 0 x_ = 0)) (fun x_ => srp dd_ S0_ (S0_.2.2.1 42 (0 + dd_) x_)) (fun x_ => srp dd_ S0_ (S0_.2.2.1 43 (0 + dd_) x_)) a1_.toNat m9_).getD (O9_.getD i9_.toNat 0) []).length = 2; omega); (have v9_ := (List.getElem?_eq_some_iff.mp (cva_x c29_.symm u9_)).1; have v8_ := y9_.1.1; show ((crn (fun x_ => decide (F_ ≤ x_ ∧ S0_.2.2.1 60 0 x_ = 0)) (fun x_ => srp dd_ S0_ (S0_.2.2.1 42 (0 + dd_) x_)) (fun x_ => srp dd_ S0_ (S0_.2.2.1 43 (0 + dd_) x_)) a1_.toNat m9_).getD (O9_.getD i9_.toNat 0) []).length = 3; omega))
        refine sm_T_go 3 (c1 := (107, [some (.inr (.inr (some (6, 0)))), some (.inl a1_), some (.inl c9_), some (.inl i9_), none], [.inl i9_, .inr (.inr (some (66, 0)))], S_)) rfl ?_
        refine sm_T_iald (n := 1024) rfl rfl (by omega) (by omega) ?_
        have bx3_ : 0 ≤ S_.2.2.1 66 0 i9_.toNat ∧ S_.2.2.1 66 0 i9_.toNat ≤ 1023 := hI_.2 66 0 _
        refine sm_T_go 2 (c1 := (111, [some (.inr (.inr (some (6, 0)))), some (.inl a1_), some (.inl c9_), some (.inl i9_), some (.inl (S_.2.2.1 66 0 i9_.toNat))], [.inr (.inr (some (6, 0)))], S_)) rfl ?_
        refine sm_T_gr rfl rfl ((hF_.2.1 6 0 1 rfl).trans hc_) ?_
        refine sm_T_go 2 (c1 := (118, [some (.inr (.inr (some (6, 0)))), some (.inl a1_), some (.inl c9_), some (.inl i9_), some (.inl (S_.2.2.1 66 0 i9_.toNat))], [.inl c9_, .inr (.inr (some (55, (0 + ll_))))], S_)) rfl ?_
        refine sm_T_iald (n := 12) rfl rfl (by omega) (by omega) ?_
        have bx4_ : 0 ≤ S_.2.2.1 55 (0 + ll_) c9_.toNat ∧ S_.2.2.1 55 (0 + ll_) c9_.toNat ≤ 3 := hI_.2 55 (0 + ll_) _
        refine sm_T_go 4 (c1 := (126, [some (.inr (.inr (some (6, 0)))), some (.inl a1_), some (.inl c9_), some (.inl i9_), some (.inl (S_.2.2.1 66 0 i9_.toNat))], [.inl (S_.2.2.1 66 0 i9_.toNat), .inl 3, .inr (.inr (some (65, 0))), .inl (S_.2.2.1 55 (0 + ll_) c9_.toNat)], S_)) rfl ?_
        refine sm_T_bin (w := 3 * (S_.2.2.1 66 0 i9_.toNat)) rfl (bi_mul (by omega) (by omega) (by omega)) ?_ -- pc_ 126
        refine sm_T_go 1 (c1 := (128, [some (.inr (.inr (some (6, 0)))), some (.inl a1_), some (.inl c9_), some (.inl i9_), some (.inl (S_.2.2.1 66 0 i9_.toNat))], [.inl 2, .inl (3 * (S_.2.2.1 66 0 i9_.toNat)), .inr (.inr (some (65, 0))), .inl (S_.2.2.1 55 (0 + ll_) c9_.toNat)], S_)) rfl ?_
        refine sm_T_bin (w := 3 * (S_.2.2.1 66 0 i9_.toNat) + 2) rfl (bi_add (by omega) (by omega) (by omega)) ?_ -- pc_ 128
        refine sm_T_iald (n := 3072) rfl rfl (by omega) (by omega) ?_
        have bx5_ : (-1) ≤ S_.2.2.1 65 0 (3 * (S_.2.2.1 66 0 i9_.toNat) + 2).toNat ∧ S_.2.2.1 65 0 (3 * (S_.2.2.1 66 0 i9_.toNat) + 2).toNat ≤ 1012 := hI_.2 65 0 _
        refine sm_T_go 1 (c1 := (131, [some (.inr (.inr (some (6, 0)))), some (.inl a1_), some (.inl c9_), some (.inl i9_), some (.inl (S_.2.2.1 66 0 i9_.toNat))], [.inl (-1), .inl (S_.2.2.1 65 0 (3 * (S_.2.2.1 66 0 i9_.toNat) + 2).toNat), .inl (S_.2.2.1 55 (0 + ll_) c9_.toNat)], S_)) rfl ?_
        refine sm_T_br (a := 1) (z := 7) rfl (fun cx6_ => ?_) (fun cx6_ => ?_)
        · have cx6_ : (S_.2.2.1 65 0 (3 * (S_.2.2.1 66 0 i9_.toNat) + 2).toNat) ≠ (-1) := of_decide_eq_true cx6_
          refine sm_T_go 1 (c1 := (139, [some (.inr (.inr (some (6, 0)))), some (.inl a1_), some (.inl c9_), some (.inl i9_), some (.inl (S_.2.2.1 66 0 i9_.toNat))], [.inl 3, .inl (S_.2.2.1 55 (0 + ll_) c9_.toNat)], S_)) rfl ?_
          refine sm_T_br (a := 1) (z := 11) rfl (fun cx7_ => ?_) (fun cx7_ => ?_)
          · have cx7_ : (S_.2.2.1 55 (0 + ll_) c9_.toNat) ≠ 3 := of_decide_eq_true cx7_
            refine sm_T_inc (a := 3) (z := 1) (v := i9_) (w := i9_ + 1) rfl rfl (by omega) (by omega) (by omega) ?_ -- pc_ 150
            refine sm_T_go 1 (c1 := (94, [some (.inr (.inr (some (6, 0)))), some (.inl a1_), some (.inl c9_), some (.inl (i9_ + 1)), some (.inl (S_.2.2.1 66 0 i9_.toNat))], [], S_)) rfl ?_
            refine sm_T_wk [some (.inr (.inr (some (6, 0)))), some (.inl a1_), some (.inl c9_), some (.inl (i9_ + 1)), none] (by exact ⟨rfl, rfl, rfl, rfl, trivial⟩) ?_
            refine ih_.2.2 c9_ (i9_ + 1) S_ hI_ hF_ ⟨?_, ?_, ?_, ?_, ?_, ?_, ?_, trivial⟩ ?_
            · omega
            · first | (have y8_ := A147_; rw [← k147_] at q147_; exact ⟨m9_, O9_, B9_, q147_, A147_, B147_⟩) | (refine ⟨m9_, O9_, B9_, q9_, ?_, ?_⟩; (rw [show (i9_ + 1).toNat = i9_.toNat + 1 by omega, cfo_s, wct_n (Q_ := (fun i_ => (crn (fun x_ => decide (F_ ≤ x_ ∧ S0_.2.2.1 60 0 x_ = 0)) (fun x_ => srp dd_ S0_ (S0_.2.2.1 42 (0 + dd_) x_)) (fun x_ => srp dd_ S0_ (S0_.2.2.1 43 (0 + dd_) x_)) a1_.toNat m9_).getD (O9_.getD i_ 0) [])) (i_ := i9_.toNat) (show ¬ (S0_.2.2.1 55 (0 + ll_) c9_.toNat).toNat = ((fun i_ => (crn (fun x_ => decide (F_ ≤ x_ ∧ S0_.2.2.1 60 0 x_ = 0)) (fun x_ => srp dd_ S0_ (S0_.2.2.1 42 (0 + dd_) x_)) (fun x_ => srp dd_ S0_ (S0_.2.2.1 43 (0 + dd_) x_)) a1_.toNat m9_).getD (O9_.getD i_ 0) []) i9_.toNat).length from fun u9_ => by (have z9_ := l29_; rw [← f55_] at u9_; first | (rw [z9_.1 (by omega)] at u9_; omega) | (rw [z9_.2 (by omega)] at u9_; omega)))]; exact r9_); (rw [show (i9_ + 1).toNat = i9_.toNat + 1 by omega, cfo_s, wct_n (Q_ := (fun i_ => (crn (fun x_ => decide (F_ ≤ x_ ∧ S0_.2.2.1 60 0 x_ = 0)) (fun x_ => srp dd_ S0_ (S0_.2.2.1 42 (0 + dd_) x_)) (fun x_ => srp dd_ S0_ (S0_.2.2.1 43 (0 + dd_) x_)) a1_.toNat m9_).getD (O9_.getD i_ 0) [])) (i_ := i9_.toNat) (show ¬ (S0_.2.2.1 55 (0 + ll_) c9_.toNat).toNat = ((fun i_ => (crn (fun x_ => decide (F_ ≤ x_ ∧ S0_.2.2.1 60 0 x_ = 0)) (fun x_ => srp dd_ S0_ (S0_.2.2.1 42 (0 + dd_) x_)) (fun x_ => srp dd_ S0_ (S0_.2.2.1 43 (0 + dd_) x_)) a1_.toNat m9_).getD (O9_.getD i_ 0) []) i9_.toNat).length from fun u9_ => by (have z9_ := l29_; rw [← f55_] at u9_; first | (rw [z9_.1 (by omega)] at u9_; omega) | (rw [z9_.2 (by omega)] at u9_; omega)))]; exact s9_))
            · first | exact hv0_ | exact t147_.1
            · first | exact hv1_ | exact t147_.2.1
            · first | exact hf_ | exact wfn_tr hf_ t147_.2.2
            · first | exact hcs_ | exact c147_
            · first | exact ho_ | exact o147_
            · omega
          · have cx7_ : ¬ ((S_.2.2.1 55 (0 + ll_) c9_.toNat) ≠ 3) := of_decide_eq_false cx7_
            refine sm_T_go 4 (c1 := (147, [some (.inr (.inr (some (6, 0)))), some (.inl a1_), some (.inl c9_), some (.inl i9_), some (.inl (S_.2.2.1 66 0 i9_.toNat))], [.inl (S_.2.2.1 66 0 i9_.toNat), .inl c9_, .inl a1_, .inr (.inr (some (6, 0)))], S_)) rfl ?_
            refine sm_T_cal (d1 := 3) (Q1 := vq_107n a1_ c9_ (S_.2.2.1 66 0 i9_.toNat) dd_ ll_ ((fun i_ => (crn (fun x_ => decide (F_ ≤ x_ ∧ S0_.2.2.1 60 0 x_ = 0)) (fun x_ => srp dd_ S0_ (S0_.2.2.1 42 (0 + dd_) x_)) (fun x_ => srp dd_ S0_ (S0_.2.2.1 43 (0 + dd_) x_)) a1_.toNat m9_).getD (O9_.getD i_ 0) []) i9_.toNat) (cfo (wct adc (pcc (1 + S0_.1 3 dd_ 1 + S0_.1 3 dd_ 2) ll_ S0_) ((hcf (S0_.2.2.1 69 0) (fun i_ => B9_ (O9_.getD i_ 0)) (fun i_ => (crn (fun x_ => decide (F_ ≤ x_ ∧ S0_.2.2.1 60 0 x_ = 0)) (fun x_ => srp dd_ S0_ (S0_.2.2.1 42 (0 + dd_) x_)) (fun x_ => srp dd_ S0_ (S0_.2.2.1 43 (0 + dd_) x_)) a1_.toNat m9_).getD (O9_.getD i_ 0) []) 0) c9_.toNat) ((fun cell => S0_.2.2.1 57 (0 + ll_) cell) c9_.toNat) c9_.toNat ((fun cell => (S0_.2.2.1 55 (0 + ll_) cell).toNat) c9_.toNat) (fun i_ => (crn (fun x_ => decide (F_ ≤ x_ ∧ S0_.2.2.1 60 0 x_ = 0)) (fun x_ => srp dd_ S0_ (S0_.2.2.1 42 (0 + dd_) x_)) (fun x_ => srp dd_ S0_ (S0_.2.2.1 43 (0 + dd_) x_)) a1_.toNat m9_).getD (O9_.getD i_ 0) [])) (i9_.toNat) (cfo (wcl adc (pcc (1 + S0_.1 3 dd_ 1 + S0_.1 3 dd_ 2) ll_ S0_) (hcf (S0_.2.2.1 69 0) (fun i_ => B9_ (O9_.getD i_ 0)) (fun i_ => (crn (fun x_ => decide (F_ ≤ x_ ∧ S0_.2.2.1 60 0 x_ = 0)) (fun x_ => srp dd_ S0_ (S0_.2.2.1 42 (0 + dd_) x_)) (fun x_ => srp dd_ S0_ (S0_.2.2.1 43 (0 + dd_) x_)) a1_.toNat m9_).getD (O9_.getD i_ 0) []) 0) (fun cell => S0_.2.2.1 57 (0 + ll_) cell) (fun cell => (S0_.2.2.1 55 (0 + ll_) cell).toNat) (fun i_ => (crn (fun x_ => decide (F_ ≤ x_ ∧ S0_.2.2.1 60 0 x_ = 0)) (fun x_ => srp dd_ S0_ (S0_.2.2.1 42 (0 + dd_) x_)) (fun x_ => srp dd_ S0_ (S0_.2.2.1 43 (0 + dd_) x_)) a1_.toNat m9_).getD (O9_.getD i_ 0) []) (crn (fun x_ => decide (F_ ≤ x_ ∧ S0_.2.2.1 60 0 x_ = 0)) (fun x_ => srp dd_ S0_ (S0_.2.2.1 42 (0 + dd_) x_)) (fun x_ => srp dd_ S0_ (S0_.2.2.1 43 (0 + dd_) x_)) a1_.toNat m9_).length) (c9_.toNat) (268435456, -1, 0, fun _ => 0))) (cfo (wct adc (pcc (1 + S0_.1 3 dd_ 1 + S0_.1 3 dd_ 2) ll_ S0_) ((hcf (S0_.2.2.1 69 0) (fun i_ => B9_ (O9_.getD i_ 0)) (fun i_ => (crn (fun x_ => decide (F_ ≤ x_ ∧ S0_.2.2.1 60 0 x_ = 0)) (fun x_ => srp dd_ S0_ (S0_.2.2.1 42 (0 + dd_) x_)) (fun x_ => srp dd_ S0_ (S0_.2.2.1 43 (0 + dd_) x_)) a1_.toNat m9_).getD (O9_.getD i_ 0) []) 1) c9_.toNat) ((fun cell => S0_.2.2.1 57 (0 + ll_) cell) c9_.toNat) c9_.toNat ((fun cell => (S0_.2.2.1 55 (0 + ll_) cell).toNat) c9_.toNat) (fun i_ => (crn (fun x_ => decide (F_ ≤ x_ ∧ S0_.2.2.1 60 0 x_ = 0)) (fun x_ => srp dd_ S0_ (S0_.2.2.1 42 (0 + dd_) x_)) (fun x_ => srp dd_ S0_ (S0_.2.2.1 43 (0 + dd_) x_)) a1_.toNat m9_).getD (O9_.getD i_ 0) [])) (i9_.toNat) (cfo (wcl adc (pcc (1 + S0_.1 3 dd_ 1 + S0_.1 3 dd_ 2) ll_ S0_) (hcf (S0_.2.2.1 69 0) (fun i_ => B9_ (O9_.getD i_ 0)) (fun i_ => (crn (fun x_ => decide (F_ ≤ x_ ∧ S0_.2.2.1 60 0 x_ = 0)) (fun x_ => srp dd_ S0_ (S0_.2.2.1 42 (0 + dd_) x_)) (fun x_ => srp dd_ S0_ (S0_.2.2.1 43 (0 + dd_) x_)) a1_.toNat m9_).getD (O9_.getD i_ 0) []) 1) (fun cell => S0_.2.2.1 57 (0 + ll_) cell) (fun cell => (S0_.2.2.1 55 (0 + ll_) cell).toNat) (fun i_ => (crn (fun x_ => decide (F_ ≤ x_ ∧ S0_.2.2.1 60 0 x_ = 0)) (fun x_ => srp dd_ S0_ (S0_.2.2.1 42 (0 + dd_) x_)) (fun x_ => srp dd_ S0_ (S0_.2.2.1 43 (0 + dd_) x_)) a1_.toNat m9_).getD (O9_.getD i_ 0) []) (crn (fun x_ => decide (F_ ≤ x_ ∧ S0_.2.2.1 60 0 x_ = 0)) (fun x_ => srp dd_ S0_ (S0_.2.2.1 42 (0 + dd_) x_)) (fun x_ => srp dd_ S0_ (S0_.2.2.1 43 (0 + dd_) x_)) a1_.toNat m9_).length) (c9_.toNat) (268435456, -1, 0, fun _ => 0))) S_) rfl rfl (by decide) (vc_107n a1_ c9_ (S_.2.2.1 66 0 i9_.toNat) dd_ ll_ ((fun i_ => (crn (fun x_ => decide (F_ ≤ x_ ∧ S0_.2.2.1 60 0 x_ = 0)) (fun x_ => srp dd_ S0_ (S0_.2.2.1 42 (0 + dd_) x_)) (fun x_ => srp dd_ S0_ (S0_.2.2.1 43 (0 + dd_) x_)) a1_.toNat m9_).getD (O9_.getD i_ 0) []) i9_.toNat) (cfo (wct adc (pcc (1 + S0_.1 3 dd_ 1 + S0_.1 3 dd_ 2) ll_ S0_) ((hcf (S0_.2.2.1 69 0) (fun i_ => B9_ (O9_.getD i_ 0)) (fun i_ => (crn (fun x_ => decide (F_ ≤ x_ ∧ S0_.2.2.1 60 0 x_ = 0)) (fun x_ => srp dd_ S0_ (S0_.2.2.1 42 (0 + dd_) x_)) (fun x_ => srp dd_ S0_ (S0_.2.2.1 43 (0 + dd_) x_)) a1_.toNat m9_).getD (O9_.getD i_ 0) []) 0) c9_.toNat) ((fun cell => S0_.2.2.1 57 (0 + ll_) cell) c9_.toNat) c9_.toNat ((fun cell => (S0_.2.2.1 55 (0 + ll_) cell).toNat) c9_.toNat) (fun i_ => (crn (fun x_ => decide (F_ ≤ x_ ∧ S0_.2.2.1 60 0 x_ = 0)) (fun x_ => srp dd_ S0_ (S0_.2.2.1 42 (0 + dd_) x_)) (fun x_ => srp dd_ S0_ (S0_.2.2.1 43 (0 + dd_) x_)) a1_.toNat m9_).getD (O9_.getD i_ 0) [])) (i9_.toNat) (cfo (wcl adc (pcc (1 + S0_.1 3 dd_ 1 + S0_.1 3 dd_ 2) ll_ S0_) (hcf (S0_.2.2.1 69 0) (fun i_ => B9_ (O9_.getD i_ 0)) (fun i_ => (crn (fun x_ => decide (F_ ≤ x_ ∧ S0_.2.2.1 60 0 x_ = 0)) (fun x_ => srp dd_ S0_ (S0_.2.2.1 42 (0 + dd_) x_)) (fun x_ => srp dd_ S0_ (S0_.2.2.1 43 (0 + dd_) x_)) a1_.toNat m9_).getD (O9_.getD i_ 0) []) 0) (fun cell => S0_.2.2.1 57 (0 + ll_) cell) (fun cell => (S0_.2.2.1 55 (0 + ll_) cell).toNat) (fun i_ => (crn (fun x_ => decide (F_ ≤ x_ ∧ S0_.2.2.1 60 0 x_ = 0)) (fun x_ => srp dd_ S0_ (S0_.2.2.1 42 (0 + dd_) x_)) (fun x_ => srp dd_ S0_ (S0_.2.2.1 43 (0 + dd_) x_)) a1_.toNat m9_).getD (O9_.getD i_ 0) []) (crn (fun x_ => decide (F_ ≤ x_ ∧ S0_.2.2.1 60 0 x_ = 0)) (fun x_ => srp dd_ S0_ (S0_.2.2.1 42 (0 + dd_) x_)) (fun x_ => srp dd_ S0_ (S0_.2.2.1 43 (0 + dd_) x_)) a1_.toNat m9_).length) (c9_.toNat) (268435456, -1, 0, fun _ => 0))) (cfo (wct adc (pcc (1 + S0_.1 3 dd_ 1 + S0_.1 3 dd_ 2) ll_ S0_) ((hcf (S0_.2.2.1 69 0) (fun i_ => B9_ (O9_.getD i_ 0)) (fun i_ => (crn (fun x_ => decide (F_ ≤ x_ ∧ S0_.2.2.1 60 0 x_ = 0)) (fun x_ => srp dd_ S0_ (S0_.2.2.1 42 (0 + dd_) x_)) (fun x_ => srp dd_ S0_ (S0_.2.2.1 43 (0 + dd_) x_)) a1_.toNat m9_).getD (O9_.getD i_ 0) []) 1) c9_.toNat) ((fun cell => S0_.2.2.1 57 (0 + ll_) cell) c9_.toNat) c9_.toNat ((fun cell => (S0_.2.2.1 55 (0 + ll_) cell).toNat) c9_.toNat) (fun i_ => (crn (fun x_ => decide (F_ ≤ x_ ∧ S0_.2.2.1 60 0 x_ = 0)) (fun x_ => srp dd_ S0_ (S0_.2.2.1 42 (0 + dd_) x_)) (fun x_ => srp dd_ S0_ (S0_.2.2.1 43 (0 + dd_) x_)) a1_.toNat m9_).getD (O9_.getD i_ 0) [])) (i9_.toNat) (cfo (wcl adc (pcc (1 + S0_.1 3 dd_ 1 + S0_.1 3 dd_ 2) ll_ S0_) (hcf (S0_.2.2.1 69 0) (fun i_ => B9_ (O9_.getD i_ 0)) (fun i_ => (crn (fun x_ => decide (F_ ≤ x_ ∧ S0_.2.2.1 60 0 x_ = 0)) (fun x_ => srp dd_ S0_ (S0_.2.2.1 42 (0 + dd_) x_)) (fun x_ => srp dd_ S0_ (S0_.2.2.1 43 (0 + dd_) x_)) a1_.toNat m9_).getD (O9_.getD i_ 0) []) 1) (fun cell => S0_.2.2.1 57 (0 + ll_) cell) (fun cell => (S0_.2.2.1 55 (0 + ll_) cell).toNat) (fun i_ => (crn (fun x_ => decide (F_ ≤ x_ ∧ S0_.2.2.1 60 0 x_ = 0)) (fun x_ => srp dd_ S0_ (S0_.2.2.1 42 (0 + dd_) x_)) (fun x_ => srp dd_ S0_ (S0_.2.2.1 43 (0 + dd_) x_)) a1_.toNat m9_).getD (O9_.getD i_ 0) []) (crn (fun x_ => decide (F_ ≤ x_ ∧ S0_.2.2.1 60 0 x_ = 0)) (fun x_ => srp dd_ S0_ (S0_.2.2.1 42 (0 + dd_) x_)) (fun x_ => srp dd_ S0_ (S0_.2.2.1 43 (0 + dd_) x_)) a1_.toNat m9_).length) (c9_.toNat) (268435456, -1, 0, fun _ => 0))) S_ hI_ (by (intro j9_ u9_; rw [cn9_]; exact y9_.2 j9_ u9_)) (by exact r9_) (by exact s9_) (by exact (hF_.2.1 6 0 0 rfl).trans hd_) (by exact (hF_.2.1 6 0 1 rfl).trans hc_) (by omega) (by omega) (by omega) (by omega) (by (rw [f59_]; exact hcs_)) (by (rw [f1_, f2_]; exact hv0_)) (by (rw [f1_, f2_]; exact hv1_))) (fun u_ Sx8_ px11_ => ?_)
            obtain ⟨rfl, hIx9_, hFx10_, px11_⟩ := px11_
            have hFx12_ : ai_fr (sx_W vw_99n) S0_ Sx8_ := ai_fr_tr hF_ (fr_le hFx10_ rfl)
            have ex13_ : Sx8_.1 6 0 11 = S_.1 6 0 11 := hFx10_.1 6 0 11 rfl
            have t147_ := (px11_).1
            rw [f1_, f2_] at t147_
            have X147_ := (px11_).2
            rw [f55_, f57_, f1_, f2_, f69_, cn9_, w9_.1] at X147_
            have lq9_ : (S0_.2.2.1 55 (0 + ll_) c9_.toNat).toNat = ((fun i_ => (crn (fun x_ => decide (F_ ≤ x_ ∧ S0_.2.2.1 60 0 x_ = 0)) (fun x_ => srp dd_ S0_ (S0_.2.2.1 42 (0 + dd_) x_)) (fun x_ => srp dd_ S0_ (S0_.2.2.1 43 (0 + dd_) x_)) a1_.toNat m9_).getD (O9_.getD i_ 0) []) i9_.toNat).length := by (have z9_ := l29_; rw [← f55_]; first | (rw [z9_.1 (by omega)]; omega) | (rw [z9_.2 (by omega)]; omega))
            have PQ9_ : ∀ (x_ : Nat) (t_ : Int), x_ ∈ (fun i_ => (crn (fun x_ => decide (F_ ≤ x_ ∧ S0_.2.2.1 60 0 x_ = 0)) (fun x_ => srp dd_ S0_ (S0_.2.2.1 42 (0 + dd_) x_)) (fun x_ => srp dd_ S0_ (S0_.2.2.1 43 (0 + dd_) x_)) a1_.toNat m9_).getD (O9_.getD i_ 0) []) i9_.toNat → 0 ≤ t_ → t_ ≤ 1 → pcc (1 + S0_.1 3 dd_ 1 + S0_.1 3 dd_ 2) ll_ S_ x_ t_ = pcc (1 + S0_.1 3 dd_ 1 + S0_.1 3 dd_ 2) ll_ S0_ x_ t_ := fun x_ t_ hx_ t0_ t1_ => pcc_cg (n_ := a1_) (by (obtain ⟨j9_, hj9_⟩ := List.getElem?_of_mem hx_; have jl_ := (List.getElem?_eq_some_iff.mp hj9_).1; have jv_ := y9_.2 j9_ (by (have z9_ := y9_.1.1; exact Nat.lt_of_lt_of_le jl_ z9_.2)); have je_ : cva ((fun i_ => (crn (fun x_ => decide (F_ ≤ x_ ∧ S0_.2.2.1 60 0 x_ = 0)) (fun x_ => srp dd_ S0_ (S0_.2.2.1 42 (0 + dd_) x_)) (fun x_ => srp dd_ S0_ (S0_.2.2.1 43 (0 + dd_) x_)) a1_.toNat m9_).getD (O9_.getD i_ 0) []) i9_.toNat) j9_ = (x_ : Int) := (by (unfold cva; rw [hj9_])); have jm_ := mcs_b hcs_ (i_ := ((O9_.getD i9_.toNat 0 : Nat) : Int)) (k_ := (j9_ : Int)) (by omega) (by (have z9_ := y9_.1.1; have z8_ : j9_ < 3 := Nat.lt_of_lt_of_le jl_ z9_.2; omega)) (fun u9_ => by (rw [show (3 * ((O9_.getD i9_.toNat 0 : Nat) : Int) + 2).toNat = 3 * O9_.getD i9_.toNat 0 + j9_ by omega, jv_]; rw [show cva ((crn (fun x_ => decide (F_ ≤ x_ ∧ S0_.2.2.1 60 0 x_ = 0)) (fun x_ => srp dd_ S0_ (S0_.2.2.1 42 (0 + dd_) x_)) (fun x_ => srp dd_ S0_ (S0_.2.2.1 43 (0 + dd_) x_)) a1_.toNat m9_).getD (O9_.getD i9_.toNat 0) []) j9_ = (x_ : Int) from je_]; omega)); rw [show (3 * ((O9_.getD i9_.toNat 0 : Nat) : Int) + (j9_ : Int)).toNat = 3 * O9_.getD i9_.toNat 0 + j9_ by omega, jv_, show cva ((crn (fun x_ => decide (F_ ≤ x_ ∧ S0_.2.2.1 60 0 x_ = 0)) (fun x_ => srp dd_ S0_ (S0_.2.2.1 42 (0 + dd_) x_)) (fun x_ => srp dd_ S0_ (S0_.2.2.1 43 (0 + dd_) x_)) a1_.toNat m9_).getD (O9_.getD i9_.toNat 0) []) j9_ = (x_ : Int) from je_] at jm_; exact ⟨by omega, jm_.2.1⟩)) ⟨t0_, t1_⟩ f60_ (fun j9_ u9_ => (hf_.1 j9_ (by omega) (by omega)).1) f5_ f57_
            have E147a : cfo (wvs adc (pcc (1 + S0_.1 3 dd_ 1 + S0_.1 3 dd_ 2) ll_ S_) (fun v_ => decide (S0_.2.2.1 69 0 (48 * c9_.toNat + v_) = B9_ (O9_.getD i9_.toNat 0))) (S0_.2.2.1 57 (0 + ll_) c9_.toNat) c9_.toNat ((fun i_ => (crn (fun x_ => decide (F_ ≤ x_ ∧ S0_.2.2.1 60 0 x_ = 0)) (fun x_ => srp dd_ S0_ (S0_.2.2.1 42 (0 + dd_) x_)) (fun x_ => srp dd_ S0_ (S0_.2.2.1 43 (0 + dd_) x_)) a1_.toNat m9_).getD (O9_.getD i_ 0) []) i9_.toNat) (S0_.2.2.1 55 (0 + ll_) c9_.toNat).toNat) (wic (S0_.2.2.1 55 (0 + ll_) c9_.toNat).toNat) (cfo (wct adc (pcc (1 + S0_.1 3 dd_ 1 + S0_.1 3 dd_ 2) ll_ S0_) ((hcf (S0_.2.2.1 69 0) (fun i_ => B9_ (O9_.getD i_ 0)) (fun i_ => (crn (fun x_ => decide (F_ ≤ x_ ∧ S0_.2.2.1 60 0 x_ = 0)) (fun x_ => srp dd_ S0_ (S0_.2.2.1 42 (0 + dd_) x_)) (fun x_ => srp dd_ S0_ (S0_.2.2.1 43 (0 + dd_) x_)) a1_.toNat m9_).getD (O9_.getD i_ 0) []) 0) c9_.toNat) ((fun cell => S0_.2.2.1 57 (0 + ll_) cell) c9_.toNat) c9_.toNat ((fun cell => (S0_.2.2.1 55 (0 + ll_) cell).toNat) c9_.toNat) (fun i_ => (crn (fun x_ => decide (F_ ≤ x_ ∧ S0_.2.2.1 60 0 x_ = 0)) (fun x_ => srp dd_ S0_ (S0_.2.2.1 42 (0 + dd_) x_)) (fun x_ => srp dd_ S0_ (S0_.2.2.1 43 (0 + dd_) x_)) a1_.toNat m9_).getD (O9_.getD i_ 0) [])) (i9_.toNat) (cfo (wcl adc (pcc (1 + S0_.1 3 dd_ 1 + S0_.1 3 dd_ 2) ll_ S0_) (hcf (S0_.2.2.1 69 0) (fun i_ => B9_ (O9_.getD i_ 0)) (fun i_ => (crn (fun x_ => decide (F_ ≤ x_ ∧ S0_.2.2.1 60 0 x_ = 0)) (fun x_ => srp dd_ S0_ (S0_.2.2.1 42 (0 + dd_) x_)) (fun x_ => srp dd_ S0_ (S0_.2.2.1 43 (0 + dd_) x_)) a1_.toNat m9_).getD (O9_.getD i_ 0) []) 0) (fun cell => S0_.2.2.1 57 (0 + ll_) cell) (fun cell => (S0_.2.2.1 55 (0 + ll_) cell).toNat) (fun i_ => (crn (fun x_ => decide (F_ ≤ x_ ∧ S0_.2.2.1 60 0 x_ = 0)) (fun x_ => srp dd_ S0_ (S0_.2.2.1 42 (0 + dd_) x_)) (fun x_ => srp dd_ S0_ (S0_.2.2.1 43 (0 + dd_) x_)) a1_.toNat m9_).getD (O9_.getD i_ 0) []) (crn (fun x_ => decide (F_ ≤ x_ ∧ S0_.2.2.1 60 0 x_ = 0)) (fun x_ => srp dd_ S0_ (S0_.2.2.1 42 (0 + dd_) x_)) (fun x_ => srp dd_ S0_ (S0_.2.2.1 43 (0 + dd_) x_)) a1_.toNat m9_).length) (c9_.toNat) (268435456, -1, 0, fun _ => 0))) = cfo (wvs adc (pcc (1 + S0_.1 3 dd_ 1 + S0_.1 3 dd_ 2) ll_ S0_) ((hcf (S0_.2.2.1 69 0) (fun i_ => B9_ (O9_.getD i_ 0)) (fun i_ => (crn (fun x_ => decide (F_ ≤ x_ ∧ S0_.2.2.1 60 0 x_ = 0)) (fun x_ => srp dd_ S0_ (S0_.2.2.1 42 (0 + dd_) x_)) (fun x_ => srp dd_ S0_ (S0_.2.2.1 43 (0 + dd_) x_)) a1_.toNat m9_).getD (O9_.getD i_ 0) []) 0) c9_.toNat i9_.toNat) (S0_.2.2.1 57 (0 + ll_) c9_.toNat) c9_.toNat ((fun i_ => (crn (fun x_ => decide (F_ ≤ x_ ∧ S0_.2.2.1 60 0 x_ = 0)) (fun x_ => srp dd_ S0_ (S0_.2.2.1 42 (0 + dd_) x_)) (fun x_ => srp dd_ S0_ (S0_.2.2.1 43 (0 + dd_) x_)) a1_.toNat m9_).getD (O9_.getD i_ 0) []) i9_.toNat) (S0_.2.2.1 55 (0 + ll_) c9_.toNat).toNat) (wic (S0_.2.2.1 55 (0 + ll_) c9_.toNat).toNat) (cfo (wct adc (pcc (1 + S0_.1 3 dd_ 1 + S0_.1 3 dd_ 2) ll_ S0_) ((hcf (S0_.2.2.1 69 0) (fun i_ => B9_ (O9_.getD i_ 0)) (fun i_ => (crn (fun x_ => decide (F_ ≤ x_ ∧ S0_.2.2.1 60 0 x_ = 0)) (fun x_ => srp dd_ S0_ (S0_.2.2.1 42 (0 + dd_) x_)) (fun x_ => srp dd_ S0_ (S0_.2.2.1 43 (0 + dd_) x_)) a1_.toNat m9_).getD (O9_.getD i_ 0) []) 0) c9_.toNat) ((fun cell => S0_.2.2.1 57 (0 + ll_) cell) c9_.toNat) c9_.toNat ((fun cell => (S0_.2.2.1 55 (0 + ll_) cell).toNat) c9_.toNat) (fun i_ => (crn (fun x_ => decide (F_ ≤ x_ ∧ S0_.2.2.1 60 0 x_ = 0)) (fun x_ => srp dd_ S0_ (S0_.2.2.1 42 (0 + dd_) x_)) (fun x_ => srp dd_ S0_ (S0_.2.2.1 43 (0 + dd_) x_)) a1_.toNat m9_).getD (O9_.getD i_ 0) [])) (i9_.toNat) (cfo (wcl adc (pcc (1 + S0_.1 3 dd_ 1 + S0_.1 3 dd_ 2) ll_ S0_) (hcf (S0_.2.2.1 69 0) (fun i_ => B9_ (O9_.getD i_ 0)) (fun i_ => (crn (fun x_ => decide (F_ ≤ x_ ∧ S0_.2.2.1 60 0 x_ = 0)) (fun x_ => srp dd_ S0_ (S0_.2.2.1 42 (0 + dd_) x_)) (fun x_ => srp dd_ S0_ (S0_.2.2.1 43 (0 + dd_) x_)) a1_.toNat m9_).getD (O9_.getD i_ 0) []) 0) (fun cell => S0_.2.2.1 57 (0 + ll_) cell) (fun cell => (S0_.2.2.1 55 (0 + ll_) cell).toNat) (fun i_ => (crn (fun x_ => decide (F_ ≤ x_ ∧ S0_.2.2.1 60 0 x_ = 0)) (fun x_ => srp dd_ S0_ (S0_.2.2.1 42 (0 + dd_) x_)) (fun x_ => srp dd_ S0_ (S0_.2.2.1 43 (0 + dd_) x_)) a1_.toNat m9_).getD (O9_.getD i_ 0) []) (crn (fun x_ => decide (F_ ≤ x_ ∧ S0_.2.2.1 60 0 x_ = 0)) (fun x_ => srp dd_ S0_ (S0_.2.2.1 42 (0 + dd_) x_)) (fun x_ => srp dd_ S0_ (S0_.2.2.1 43 (0 + dd_) x_)) a1_.toNat m9_).length) (c9_.toNat) (268435456, -1, 0, fun _ => 0))) := cfo_cg _ (fun v9_ b9_ hv9_ => wvs_cg y9_.1.1 lq9_ hv9_ PQ9_ (by rfl))
            have E147b : cfo (wvs adc (pcc (1 + S0_.1 3 dd_ 1 + S0_.1 3 dd_ 2) ll_ S_) (fun v_ => decide (S0_.2.2.1 69 0 (48 * c9_.toNat + v_) = i_xor (B9_ (O9_.getD i9_.toNat 0)) (if S0_.2.2.1 55 (0 + ll_) c9_.toNat = 2 then 15 else 255))) (S0_.2.2.1 57 (0 + ll_) c9_.toNat) c9_.toNat ((fun i_ => (crn (fun x_ => decide (F_ ≤ x_ ∧ S0_.2.2.1 60 0 x_ = 0)) (fun x_ => srp dd_ S0_ (S0_.2.2.1 42 (0 + dd_) x_)) (fun x_ => srp dd_ S0_ (S0_.2.2.1 43 (0 + dd_) x_)) a1_.toNat m9_).getD (O9_.getD i_ 0) []) i9_.toNat) (S0_.2.2.1 55 (0 + ll_) c9_.toNat).toNat) (wic (S0_.2.2.1 55 (0 + ll_) c9_.toNat).toNat) (cfo (wct adc (pcc (1 + S0_.1 3 dd_ 1 + S0_.1 3 dd_ 2) ll_ S0_) ((hcf (S0_.2.2.1 69 0) (fun i_ => B9_ (O9_.getD i_ 0)) (fun i_ => (crn (fun x_ => decide (F_ ≤ x_ ∧ S0_.2.2.1 60 0 x_ = 0)) (fun x_ => srp dd_ S0_ (S0_.2.2.1 42 (0 + dd_) x_)) (fun x_ => srp dd_ S0_ (S0_.2.2.1 43 (0 + dd_) x_)) a1_.toNat m9_).getD (O9_.getD i_ 0) []) 1) c9_.toNat) ((fun cell => S0_.2.2.1 57 (0 + ll_) cell) c9_.toNat) c9_.toNat ((fun cell => (S0_.2.2.1 55 (0 + ll_) cell).toNat) c9_.toNat) (fun i_ => (crn (fun x_ => decide (F_ ≤ x_ ∧ S0_.2.2.1 60 0 x_ = 0)) (fun x_ => srp dd_ S0_ (S0_.2.2.1 42 (0 + dd_) x_)) (fun x_ => srp dd_ S0_ (S0_.2.2.1 43 (0 + dd_) x_)) a1_.toNat m9_).getD (O9_.getD i_ 0) [])) (i9_.toNat) (cfo (wcl adc (pcc (1 + S0_.1 3 dd_ 1 + S0_.1 3 dd_ 2) ll_ S0_) (hcf (S0_.2.2.1 69 0) (fun i_ => B9_ (O9_.getD i_ 0)) (fun i_ => (crn (fun x_ => decide (F_ ≤ x_ ∧ S0_.2.2.1 60 0 x_ = 0)) (fun x_ => srp dd_ S0_ (S0_.2.2.1 42 (0 + dd_) x_)) (fun x_ => srp dd_ S0_ (S0_.2.2.1 43 (0 + dd_) x_)) a1_.toNat m9_).getD (O9_.getD i_ 0) []) 1) (fun cell => S0_.2.2.1 57 (0 + ll_) cell) (fun cell => (S0_.2.2.1 55 (0 + ll_) cell).toNat) (fun i_ => (crn (fun x_ => decide (F_ ≤ x_ ∧ S0_.2.2.1 60 0 x_ = 0)) (fun x_ => srp dd_ S0_ (S0_.2.2.1 42 (0 + dd_) x_)) (fun x_ => srp dd_ S0_ (S0_.2.2.1 43 (0 + dd_) x_)) a1_.toNat m9_).getD (O9_.getD i_ 0) []) (crn (fun x_ => decide (F_ ≤ x_ ∧ S0_.2.2.1 60 0 x_ = 0)) (fun x_ => srp dd_ S0_ (S0_.2.2.1 42 (0 + dd_) x_)) (fun x_ => srp dd_ S0_ (S0_.2.2.1 43 (0 + dd_) x_)) a1_.toNat m9_).length) (c9_.toNat) (268435456, -1, 0, fun _ => 0))) = cfo (wvs adc (pcc (1 + S0_.1 3 dd_ 1 + S0_.1 3 dd_ 2) ll_ S0_) ((hcf (S0_.2.2.1 69 0) (fun i_ => B9_ (O9_.getD i_ 0)) (fun i_ => (crn (fun x_ => decide (F_ ≤ x_ ∧ S0_.2.2.1 60 0 x_ = 0)) (fun x_ => srp dd_ S0_ (S0_.2.2.1 42 (0 + dd_) x_)) (fun x_ => srp dd_ S0_ (S0_.2.2.1 43 (0 + dd_) x_)) a1_.toNat m9_).getD (O9_.getD i_ 0) []) 1) c9_.toNat i9_.toNat) (S0_.2.2.1 57 (0 + ll_) c9_.toNat) c9_.toNat ((fun i_ => (crn (fun x_ => decide (F_ ≤ x_ ∧ S0_.2.2.1 60 0 x_ = 0)) (fun x_ => srp dd_ S0_ (S0_.2.2.1 42 (0 + dd_) x_)) (fun x_ => srp dd_ S0_ (S0_.2.2.1 43 (0 + dd_) x_)) a1_.toNat m9_).getD (O9_.getD i_ 0) []) i9_.toNat) (S0_.2.2.1 55 (0 + ll_) c9_.toNat).toNat) (wic (S0_.2.2.1 55 (0 + ll_) c9_.toNat).toNat) (cfo (wct adc (pcc (1 + S0_.1 3 dd_ 1 + S0_.1 3 dd_ 2) ll_ S0_) ((hcf (S0_.2.2.1 69 0) (fun i_ => B9_ (O9_.getD i_ 0)) (fun i_ => (crn (fun x_ => decide (F_ ≤ x_ ∧ S0_.2.2.1 60 0 x_ = 0)) (fun x_ => srp dd_ S0_ (S0_.2.2.1 42 (0 + dd_) x_)) (fun x_ => srp dd_ S0_ (S0_.2.2.1 43 (0 + dd_) x_)) a1_.toNat m9_).getD (O9_.getD i_ 0) []) 1) c9_.toNat) ((fun cell => S0_.2.2.1 57 (0 + ll_) cell) c9_.toNat) c9_.toNat ((fun cell => (S0_.2.2.1 55 (0 + ll_) cell).toNat) c9_.toNat) (fun i_ => (crn (fun x_ => decide (F_ ≤ x_ ∧ S0_.2.2.1 60 0 x_ = 0)) (fun x_ => srp dd_ S0_ (S0_.2.2.1 42 (0 + dd_) x_)) (fun x_ => srp dd_ S0_ (S0_.2.2.1 43 (0 + dd_) x_)) a1_.toNat m9_).getD (O9_.getD i_ 0) [])) (i9_.toNat) (cfo (wcl adc (pcc (1 + S0_.1 3 dd_ 1 + S0_.1 3 dd_ 2) ll_ S0_) (hcf (S0_.2.2.1 69 0) (fun i_ => B9_ (O9_.getD i_ 0)) (fun i_ => (crn (fun x_ => decide (F_ ≤ x_ ∧ S0_.2.2.1 60 0 x_ = 0)) (fun x_ => srp dd_ S0_ (S0_.2.2.1 42 (0 + dd_) x_)) (fun x_ => srp dd_ S0_ (S0_.2.2.1 43 (0 + dd_) x_)) a1_.toNat m9_).getD (O9_.getD i_ 0) []) 1) (fun cell => S0_.2.2.1 57 (0 + ll_) cell) (fun cell => (S0_.2.2.1 55 (0 + ll_) cell).toNat) (fun i_ => (crn (fun x_ => decide (F_ ≤ x_ ∧ S0_.2.2.1 60 0 x_ = 0)) (fun x_ => srp dd_ S0_ (S0_.2.2.1 42 (0 + dd_) x_)) (fun x_ => srp dd_ S0_ (S0_.2.2.1 43 (0 + dd_) x_)) a1_.toNat m9_).getD (O9_.getD i_ 0) []) (crn (fun x_ => decide (F_ ≤ x_ ∧ S0_.2.2.1 60 0 x_ = 0)) (fun x_ => srp dd_ S0_ (S0_.2.2.1 42 (0 + dd_) x_)) (fun x_ => srp dd_ S0_ (S0_.2.2.1 43 (0 + dd_) x_)) a1_.toNat m9_).length) (c9_.toNat) (268435456, -1, 0, fun _ => 0))) := cfo_cg _ (fun v9_ b9_ hv9_ => wvs_cg y9_.1.1 lq9_ hv9_ PQ9_ (by (show decide (S0_.2.2.1 69 0 (48 * c9_.toNat + v9_) = i_xor (B9_ (O9_.getD i9_.toNat 0)) (if S0_.2.2.1 55 (0 + ll_) c9_.toNat = 2 then 15 else 255)) = decide (S0_.2.2.1 69 0 (48 * c9_.toNat + v9_) = i_xor (B9_ (O9_.getD i9_.toNat 0)) (if ((fun i_ => (crn (fun x_ => decide (F_ ≤ x_ ∧ S0_.2.2.1 60 0 x_ = 0)) (fun x_ => srp dd_ S0_ (S0_.2.2.1 42 (0 + dd_) x_)) (fun x_ => srp dd_ S0_ (S0_.2.2.1 43 (0 + dd_) x_)) a1_.toNat m9_).getD (O9_.getD i_ 0) []) i9_.toNat).length = 2 then 15 else 255)); rw [← lq9_]; by_cases u9_ : S0_.2.2.1 55 (0 + ll_) c9_.toNat = 2; (rw [if_pos u9_, if_pos (show (S0_.2.2.1 55 (0 + ll_) c9_.toNat).toNat = 2 by omega)]); (rw [if_neg u9_, if_neg (show ¬ (S0_.2.2.1 55 (0 + ll_) c9_.toNat).toNat = 2 by omega)]))))
            have A147_ : wrc ll_ Sx8_ (2 * a1_).toNat (cfo (wct adc (pcc (1 + S0_.1 3 dd_ 1 + S0_.1 3 dd_ 2) ll_ S0_) ((hcf (S0_.2.2.1 69 0) (fun i_ => B9_ (O9_.getD i_ 0)) (fun i_ => (crn (fun x_ => decide (F_ ≤ x_ ∧ S0_.2.2.1 60 0 x_ = 0)) (fun x_ => srp dd_ S0_ (S0_.2.2.1 42 (0 + dd_) x_)) (fun x_ => srp dd_ S0_ (S0_.2.2.1 43 (0 + dd_) x_)) a1_.toNat m9_).getD (O9_.getD i_ 0) []) 0) c9_.toNat) ((fun cell => S0_.2.2.1 57 (0 + ll_) cell) c9_.toNat) c9_.toNat ((fun cell => (S0_.2.2.1 55 (0 + ll_) cell).toNat) c9_.toNat) (fun i_ => (crn (fun x_ => decide (F_ ≤ x_ ∧ S0_.2.2.1 60 0 x_ = 0)) (fun x_ => srp dd_ S0_ (S0_.2.2.1 42 (0 + dd_) x_)) (fun x_ => srp dd_ S0_ (S0_.2.2.1 43 (0 + dd_) x_)) a1_.toNat m9_).getD (O9_.getD i_ 0) [])) ((i9_ + 1).toNat) (cfo (wcl adc (pcc (1 + S0_.1 3 dd_ 1 + S0_.1 3 dd_ 2) ll_ S0_) (hcf (S0_.2.2.1 69 0) (fun i_ => B9_ (O9_.getD i_ 0)) (fun i_ => (crn (fun x_ => decide (F_ ≤ x_ ∧ S0_.2.2.1 60 0 x_ = 0)) (fun x_ => srp dd_ S0_ (S0_.2.2.1 42 (0 + dd_) x_)) (fun x_ => srp dd_ S0_ (S0_.2.2.1 43 (0 + dd_) x_)) a1_.toNat m9_).getD (O9_.getD i_ 0) []) 0) (fun cell => S0_.2.2.1 57 (0 + ll_) cell) (fun cell => (S0_.2.2.1 55 (0 + ll_) cell).toNat) (fun i_ => (crn (fun x_ => decide (F_ ≤ x_ ∧ S0_.2.2.1 60 0 x_ = 0)) (fun x_ => srp dd_ S0_ (S0_.2.2.1 42 (0 + dd_) x_)) (fun x_ => srp dd_ S0_ (S0_.2.2.1 43 (0 + dd_) x_)) a1_.toNat m9_).getD (O9_.getD i_ 0) []) (crn (fun x_ => decide (F_ ≤ x_ ∧ S0_.2.2.1 60 0 x_ = 0)) (fun x_ => srp dd_ S0_ (S0_.2.2.1 42 (0 + dd_) x_)) (fun x_ => srp dd_ S0_ (S0_.2.2.1 43 (0 + dd_) x_)) a1_.toNat m9_).length) (c9_.toNat) (268435456, -1, 0, fun _ => 0))) := by (have z9_ : wrc ll_ Sx8_ (2 * a1_).toNat (cfo (wvs adc (pcc (1 + S0_.1 3 dd_ 1 + S0_.1 3 dd_ 2) ll_ S_) (fun v_ => decide (S0_.2.2.1 69 0 (48 * c9_.toNat + v_) = B9_ (O9_.getD i9_.toNat 0))) (S0_.2.2.1 57 (0 + ll_) c9_.toNat) c9_.toNat ((fun i_ => (crn (fun x_ => decide (F_ ≤ x_ ∧ S0_.2.2.1 60 0 x_ = 0)) (fun x_ => srp dd_ S0_ (S0_.2.2.1 42 (0 + dd_) x_)) (fun x_ => srp dd_ S0_ (S0_.2.2.1 43 (0 + dd_) x_)) a1_.toNat m9_).getD (O9_.getD i_ 0) []) i9_.toNat) (S0_.2.2.1 55 (0 + ll_) c9_.toNat).toNat) (wic (S0_.2.2.1 55 (0 + ll_) c9_.toNat).toNat) (cfo (wct adc (pcc (1 + S0_.1 3 dd_ 1 + S0_.1 3 dd_ 2) ll_ S0_) ((hcf (S0_.2.2.1 69 0) (fun i_ => B9_ (O9_.getD i_ 0)) (fun i_ => (crn (fun x_ => decide (F_ ≤ x_ ∧ S0_.2.2.1 60 0 x_ = 0)) (fun x_ => srp dd_ S0_ (S0_.2.2.1 42 (0 + dd_) x_)) (fun x_ => srp dd_ S0_ (S0_.2.2.1 43 (0 + dd_) x_)) a1_.toNat m9_).getD (O9_.getD i_ 0) []) 0) c9_.toNat) ((fun cell => S0_.2.2.1 57 (0 + ll_) cell) c9_.toNat) c9_.toNat ((fun cell => (S0_.2.2.1 55 (0 + ll_) cell).toNat) c9_.toNat) (fun i_ => (crn (fun x_ => decide (F_ ≤ x_ ∧ S0_.2.2.1 60 0 x_ = 0)) (fun x_ => srp dd_ S0_ (S0_.2.2.1 42 (0 + dd_) x_)) (fun x_ => srp dd_ S0_ (S0_.2.2.1 43 (0 + dd_) x_)) a1_.toNat m9_).getD (O9_.getD i_ 0) [])) (i9_.toNat) (cfo (wcl adc (pcc (1 + S0_.1 3 dd_ 1 + S0_.1 3 dd_ 2) ll_ S0_) (hcf (S0_.2.2.1 69 0) (fun i_ => B9_ (O9_.getD i_ 0)) (fun i_ => (crn (fun x_ => decide (F_ ≤ x_ ∧ S0_.2.2.1 60 0 x_ = 0)) (fun x_ => srp dd_ S0_ (S0_.2.2.1 42 (0 + dd_) x_)) (fun x_ => srp dd_ S0_ (S0_.2.2.1 43 (0 + dd_) x_)) a1_.toNat m9_).getD (O9_.getD i_ 0) []) 0) (fun cell => S0_.2.2.1 57 (0 + ll_) cell) (fun cell => (S0_.2.2.1 55 (0 + ll_) cell).toNat) (fun i_ => (crn (fun x_ => decide (F_ ≤ x_ ∧ S0_.2.2.1 60 0 x_ = 0)) (fun x_ => srp dd_ S0_ (S0_.2.2.1 42 (0 + dd_) x_)) (fun x_ => srp dd_ S0_ (S0_.2.2.1 43 (0 + dd_) x_)) a1_.toNat m9_).getD (O9_.getD i_ 0) []) (crn (fun x_ => decide (F_ ≤ x_ ∧ S0_.2.2.1 60 0 x_ = 0)) (fun x_ => srp dd_ S0_ (S0_.2.2.1 42 (0 + dd_) x_)) (fun x_ => srp dd_ S0_ (S0_.2.2.1 43 (0 + dd_) x_)) a1_.toNat m9_).length) (c9_.toNat) (268435456, -1, 0, fun _ => 0)))) := X147_.1; rw [E147a] at z9_; rw [show (i9_ + 1).toNat = i9_.toNat + 1 by omega, cfo_s, wct_y (Q_ := (fun i_ => (crn (fun x_ => decide (F_ ≤ x_ ∧ S0_.2.2.1 60 0 x_ = 0)) (fun x_ => srp dd_ S0_ (S0_.2.2.1 42 (0 + dd_) x_)) (fun x_ => srp dd_ S0_ (S0_.2.2.1 43 (0 + dd_) x_)) a1_.toNat m9_).getD (O9_.getD i_ 0) [])) (i_ := i9_.toNat) lq9_]; exact z9_)
            have B147_ : wrc ll_ Sx8_ (2 * a1_ + 1).toNat (cfo (wct adc (pcc (1 + S0_.1 3 dd_ 1 + S0_.1 3 dd_ 2) ll_ S0_) ((hcf (S0_.2.2.1 69 0) (fun i_ => B9_ (O9_.getD i_ 0)) (fun i_ => (crn (fun x_ => decide (F_ ≤ x_ ∧ S0_.2.2.1 60 0 x_ = 0)) (fun x_ => srp dd_ S0_ (S0_.2.2.1 42 (0 + dd_) x_)) (fun x_ => srp dd_ S0_ (S0_.2.2.1 43 (0 + dd_) x_)) a1_.toNat m9_).getD (O9_.getD i_ 0) []) 1) c9_.toNat) ((fun cell => S0_.2.2.1 57 (0 + ll_) cell) c9_.toNat) c9_.toNat ((fun cell => (S0_.2.2.1 55 (0 + ll_) cell).toNat) c9_.toNat) (fun i_ => (crn (fun x_ => decide (F_ ≤ x_ ∧ S0_.2.2.1 60 0 x_ = 0)) (fun x_ => srp dd_ S0_ (S0_.2.2.1 42 (0 + dd_) x_)) (fun x_ => srp dd_ S0_ (S0_.2.2.1 43 (0 + dd_) x_)) a1_.toNat m9_).getD (O9_.getD i_ 0) [])) ((i9_ + 1).toNat) (cfo (wcl adc (pcc (1 + S0_.1 3 dd_ 1 + S0_.1 3 dd_ 2) ll_ S0_) (hcf (S0_.2.2.1 69 0) (fun i_ => B9_ (O9_.getD i_ 0)) (fun i_ => (crn (fun x_ => decide (F_ ≤ x_ ∧ S0_.2.2.1 60 0 x_ = 0)) (fun x_ => srp dd_ S0_ (S0_.2.2.1 42 (0 + dd_) x_)) (fun x_ => srp dd_ S0_ (S0_.2.2.1 43 (0 + dd_) x_)) a1_.toNat m9_).getD (O9_.getD i_ 0) []) 1) (fun cell => S0_.2.2.1 57 (0 + ll_) cell) (fun cell => (S0_.2.2.1 55 (0 + ll_) cell).toNat) (fun i_ => (crn (fun x_ => decide (F_ ≤ x_ ∧ S0_.2.2.1 60 0 x_ = 0)) (fun x_ => srp dd_ S0_ (S0_.2.2.1 42 (0 + dd_) x_)) (fun x_ => srp dd_ S0_ (S0_.2.2.1 43 (0 + dd_) x_)) a1_.toNat m9_).getD (O9_.getD i_ 0) []) (crn (fun x_ => decide (F_ ≤ x_ ∧ S0_.2.2.1 60 0 x_ = 0)) (fun x_ => srp dd_ S0_ (S0_.2.2.1 42 (0 + dd_) x_)) (fun x_ => srp dd_ S0_ (S0_.2.2.1 43 (0 + dd_) x_)) a1_.toNat m9_).length) (c9_.toNat) (268435456, -1, 0, fun _ => 0))) := by (have z9_ : wrc ll_ Sx8_ (2 * a1_ + 1).toNat (cfo (wvs adc (pcc (1 + S0_.1 3 dd_ 1 + S0_.1 3 dd_ 2) ll_ S_) (fun v_ => decide (S0_.2.2.1 69 0 (48 * c9_.toNat + v_) = i_xor (B9_ (O9_.getD i9_.toNat 0)) (if S0_.2.2.1 55 (0 + ll_) c9_.toNat = 2 then 15 else 255))) (S0_.2.2.1 57 (0 + ll_) c9_.toNat) c9_.toNat ((fun i_ => (crn (fun x_ => decide (F_ ≤ x_ ∧ S0_.2.2.1 60 0 x_ = 0)) (fun x_ => srp dd_ S0_ (S0_.2.2.1 42 (0 + dd_) x_)) (fun x_ => srp dd_ S0_ (S0_.2.2.1 43 (0 + dd_) x_)) a1_.toNat m9_).getD (O9_.getD i_ 0) []) i9_.toNat) (S0_.2.2.1 55 (0 + ll_) c9_.toNat).toNat) (wic (S0_.2.2.1 55 (0 + ll_) c9_.toNat).toNat) (cfo (wct adc (pcc (1 + S0_.1 3 dd_ 1 + S0_.1 3 dd_ 2) ll_ S0_) ((hcf (S0_.2.2.1 69 0) (fun i_ => B9_ (O9_.getD i_ 0)) (fun i_ => (crn (fun x_ => decide (F_ ≤ x_ ∧ S0_.2.2.1 60 0 x_ = 0)) (fun x_ => srp dd_ S0_ (S0_.2.2.1 42 (0 + dd_) x_)) (fun x_ => srp dd_ S0_ (S0_.2.2.1 43 (0 + dd_) x_)) a1_.toNat m9_).getD (O9_.getD i_ 0) []) 1) c9_.toNat) ((fun cell => S0_.2.2.1 57 (0 + ll_) cell) c9_.toNat) c9_.toNat ((fun cell => (S0_.2.2.1 55 (0 + ll_) cell).toNat) c9_.toNat) (fun i_ => (crn (fun x_ => decide (F_ ≤ x_ ∧ S0_.2.2.1 60 0 x_ = 0)) (fun x_ => srp dd_ S0_ (S0_.2.2.1 42 (0 + dd_) x_)) (fun x_ => srp dd_ S0_ (S0_.2.2.1 43 (0 + dd_) x_)) a1_.toNat m9_).getD (O9_.getD i_ 0) [])) (i9_.toNat) (cfo (wcl adc (pcc (1 + S0_.1 3 dd_ 1 + S0_.1 3 dd_ 2) ll_ S0_) (hcf (S0_.2.2.1 69 0) (fun i_ => B9_ (O9_.getD i_ 0)) (fun i_ => (crn (fun x_ => decide (F_ ≤ x_ ∧ S0_.2.2.1 60 0 x_ = 0)) (fun x_ => srp dd_ S0_ (S0_.2.2.1 42 (0 + dd_) x_)) (fun x_ => srp dd_ S0_ (S0_.2.2.1 43 (0 + dd_) x_)) a1_.toNat m9_).getD (O9_.getD i_ 0) []) 1) (fun cell => S0_.2.2.1 57 (0 + ll_) cell) (fun cell => (S0_.2.2.1 55 (0 + ll_) cell).toNat) (fun i_ => (crn (fun x_ => decide (F_ ≤ x_ ∧ S0_.2.2.1 60 0 x_ = 0)) (fun x_ => srp dd_ S0_ (S0_.2.2.1 42 (0 + dd_) x_)) (fun x_ => srp dd_ S0_ (S0_.2.2.1 43 (0 + dd_) x_)) a1_.toNat m9_).getD (O9_.getD i_ 0) []) (crn (fun x_ => decide (F_ ≤ x_ ∧ S0_.2.2.1 60 0 x_ = 0)) (fun x_ => srp dd_ S0_ (S0_.2.2.1 42 (0 + dd_) x_)) (fun x_ => srp dd_ S0_ (S0_.2.2.1 43 (0 + dd_) x_)) a1_.toNat m9_).length) (c9_.toNat) (268435456, -1, 0, fun _ => 0)))) := X147_.2; rw [E147b] at z9_; rw [show (i9_ + 1).toNat = i9_.toNat + 1 by omega, cfo_s, wct_y (Q_ := (fun i_ => (crn (fun x_ => decide (F_ ≤ x_ ∧ S0_.2.2.1 60 0 x_ = 0)) (fun x_ => srp dd_ S0_ (S0_.2.2.1 42 (0 + dd_) x_)) (fun x_ => srp dd_ S0_ (S0_.2.2.1 43 (0 + dd_) x_)) a1_.toNat m9_).getD (O9_.getD i_ 0) [])) (i_ := i9_.toNat) lq9_]; exact z9_)
            have q147_ := fwi_fr q9_ hFx10_
            have l147_ := hFx10_.1 5 ll_ 1 rfl
            have k147_ := hFx10_.1 6 0 11 rfl
            have c147_ : mcs (npd a1_ (S0_.2.2.1 59 0)) Sx8_ := mcs_fr hcs_ hFx10_
            have o147_ : ∀ i_ : Nat, (i_ : Int) < Sx8_.1 6 0 11 → Sx8_.2.2.1 66 0 i_ < Sx8_.1 6 0 11 := fun i_ q9_ => by (rw [k147_] at q9_ ⊢; rw [(hFx10_.2.2 66 rfl 0 i_).1]; exact ho_ i_ q9_)
            refine sm_T_inc (a := 3) (z := 1) (v := i9_) (w := i9_ + 1) rfl rfl (by omega) (by omega) (by omega) ?_ -- pc_ 150
            refine sm_T_go 1 (c1 := (94, [some (.inr (.inr (some (6, 0)))), some (.inl a1_), some (.inl c9_), some (.inl (i9_ + 1)), some (.inl (S_.2.2.1 66 0 i9_.toNat))], [], Sx8_)) rfl ?_
            refine sm_T_wk [some (.inr (.inr (some (6, 0)))), some (.inl a1_), some (.inl c9_), some (.inl (i9_ + 1)), none] (by exact ⟨rfl, rfl, rfl, rfl, trivial⟩) ?_
            refine ih_.2.2 c9_ (i9_ + 1) Sx8_ hIx9_ hFx12_ ⟨?_, ?_, ?_, ?_, ?_, ?_, ?_, trivial⟩ ?_
            · omega
            · first | (have y8_ := A147_; rw [← k147_] at q147_; exact ⟨m9_, O9_, B9_, q147_, A147_, B147_⟩) | (refine ⟨m9_, O9_, B9_, q9_, ?_, ?_⟩; (rw [show (i9_ + 1).toNat = i9_.toNat + 1 by omega, cfo_s, wct_n (Q_ := (fun i_ => (crn (fun x_ => decide (F_ ≤ x_ ∧ S0_.2.2.1 60 0 x_ = 0)) (fun x_ => srp dd_ S0_ (S0_.2.2.1 42 (0 + dd_) x_)) (fun x_ => srp dd_ S0_ (S0_.2.2.1 43 (0 + dd_) x_)) a1_.toNat m9_).getD (O9_.getD i_ 0) [])) (i_ := i9_.toNat) (show ¬ (S0_.2.2.1 55 (0 + ll_) c9_.toNat).toNat = ((fun i_ => (crn (fun x_ => decide (F_ ≤ x_ ∧ S0_.2.2.1 60 0 x_ = 0)) (fun x_ => srp dd_ S0_ (S0_.2.2.1 42 (0 + dd_) x_)) (fun x_ => srp dd_ S0_ (S0_.2.2.1 43 (0 + dd_) x_)) a1_.toNat m9_).getD (O9_.getD i_ 0) []) i9_.toNat).length from fun u9_ => by (have z9_ := l29_; rw [← f55_] at u9_; first | (rw [z9_.1 (by omega)] at u9_; omega) | (rw [z9_.2 (by omega)] at u9_; omega)))]; exact r9_); (rw [show (i9_ + 1).toNat = i9_.toNat + 1 by omega, cfo_s, wct_n (Q_ := (fun i_ => (crn (fun x_ => decide (F_ ≤ x_ ∧ S0_.2.2.1 60 0 x_ = 0)) (fun x_ => srp dd_ S0_ (S0_.2.2.1 42 (0 + dd_) x_)) (fun x_ => srp dd_ S0_ (S0_.2.2.1 43 (0 + dd_) x_)) a1_.toNat m9_).getD (O9_.getD i_ 0) [])) (i_ := i9_.toNat) (show ¬ (S0_.2.2.1 55 (0 + ll_) c9_.toNat).toNat = ((fun i_ => (crn (fun x_ => decide (F_ ≤ x_ ∧ S0_.2.2.1 60 0 x_ = 0)) (fun x_ => srp dd_ S0_ (S0_.2.2.1 42 (0 + dd_) x_)) (fun x_ => srp dd_ S0_ (S0_.2.2.1 43 (0 + dd_) x_)) a1_.toNat m9_).getD (O9_.getD i_ 0) []) i9_.toNat).length from fun u9_ => by (have z9_ := l29_; rw [← f55_] at u9_; first | (rw [z9_.1 (by omega)] at u9_; omega) | (rw [z9_.2 (by omega)] at u9_; omega)))]; exact s9_))
            · first | exact hv0_ | exact t147_.1
            · first | exact hv1_ | exact t147_.2.1
            · first | exact hf_ | exact wfn_tr hf_ t147_.2.2
            · first | exact hcs_ | exact c147_
            · first | exact ho_ | exact o147_
            · omega
        · have cx6_ : ¬ ((S_.2.2.1 65 0 (3 * (S_.2.2.1 66 0 i9_.toNat) + 2).toNat) ≠ (-1)) := of_decide_eq_false cx6_
          refine sm_T_go 2 (c1 := (139, [some (.inr (.inr (some (6, 0)))), some (.inl a1_), some (.inl c9_), some (.inl i9_), some (.inl (S_.2.2.1 66 0 i9_.toNat))], [.inl 2, .inl (S_.2.2.1 55 (0 + ll_) c9_.toNat)], S_)) rfl ?_
          refine sm_T_br (a := 1) (z := 11) rfl (fun cx14_ => ?_) (fun cx14_ => ?_)
          · have cx14_ : (S_.2.2.1 55 (0 + ll_) c9_.toNat) ≠ 2 := of_decide_eq_true cx14_
            refine sm_T_inc (a := 3) (z := 1) (v := i9_) (w := i9_ + 1) rfl rfl (by omega) (by omega) (by omega) ?_ -- pc_ 150
            refine sm_T_go 1 (c1 := (94, [some (.inr (.inr (some (6, 0)))), some (.inl a1_), some (.inl c9_), some (.inl (i9_ + 1)), some (.inl (S_.2.2.1 66 0 i9_.toNat))], [], S_)) rfl ?_
            refine sm_T_wk [some (.inr (.inr (some (6, 0)))), some (.inl a1_), some (.inl c9_), some (.inl (i9_ + 1)), none] (by exact ⟨rfl, rfl, rfl, rfl, trivial⟩) ?_
            refine ih_.2.2 c9_ (i9_ + 1) S_ hI_ hF_ ⟨?_, ?_, ?_, ?_, ?_, ?_, ?_, trivial⟩ ?_
            · omega
            · first | (have y8_ := A147_; rw [← k147_] at q147_; exact ⟨m9_, O9_, B9_, q147_, A147_, B147_⟩) | (refine ⟨m9_, O9_, B9_, q9_, ?_, ?_⟩; (rw [show (i9_ + 1).toNat = i9_.toNat + 1 by omega, cfo_s, wct_n (Q_ := (fun i_ => (crn (fun x_ => decide (F_ ≤ x_ ∧ S0_.2.2.1 60 0 x_ = 0)) (fun x_ => srp dd_ S0_ (S0_.2.2.1 42 (0 + dd_) x_)) (fun x_ => srp dd_ S0_ (S0_.2.2.1 43 (0 + dd_) x_)) a1_.toNat m9_).getD (O9_.getD i_ 0) [])) (i_ := i9_.toNat) (show ¬ (S0_.2.2.1 55 (0 + ll_) c9_.toNat).toNat = ((fun i_ => (crn (fun x_ => decide (F_ ≤ x_ ∧ S0_.2.2.1 60 0 x_ = 0)) (fun x_ => srp dd_ S0_ (S0_.2.2.1 42 (0 + dd_) x_)) (fun x_ => srp dd_ S0_ (S0_.2.2.1 43 (0 + dd_) x_)) a1_.toNat m9_).getD (O9_.getD i_ 0) []) i9_.toNat).length from fun u9_ => by (have z9_ := l29_; rw [← f55_] at u9_; first | (rw [z9_.1 (by omega)] at u9_; omega) | (rw [z9_.2 (by omega)] at u9_; omega)))]; exact r9_); (rw [show (i9_ + 1).toNat = i9_.toNat + 1 by omega, cfo_s, wct_n (Q_ := (fun i_ => (crn (fun x_ => decide (F_ ≤ x_ ∧ S0_.2.2.1 60 0 x_ = 0)) (fun x_ => srp dd_ S0_ (S0_.2.2.1 42 (0 + dd_) x_)) (fun x_ => srp dd_ S0_ (S0_.2.2.1 43 (0 + dd_) x_)) a1_.toNat m9_).getD (O9_.getD i_ 0) [])) (i_ := i9_.toNat) (show ¬ (S0_.2.2.1 55 (0 + ll_) c9_.toNat).toNat = ((fun i_ => (crn (fun x_ => decide (F_ ≤ x_ ∧ S0_.2.2.1 60 0 x_ = 0)) (fun x_ => srp dd_ S0_ (S0_.2.2.1 42 (0 + dd_) x_)) (fun x_ => srp dd_ S0_ (S0_.2.2.1 43 (0 + dd_) x_)) a1_.toNat m9_).getD (O9_.getD i_ 0) []) i9_.toNat).length from fun u9_ => by (have z9_ := l29_; rw [← f55_] at u9_; first | (rw [z9_.1 (by omega)] at u9_; omega) | (rw [z9_.2 (by omega)] at u9_; omega)))]; exact s9_))
            · first | exact hv0_ | exact t147_.1
            · first | exact hv1_ | exact t147_.2.1
            · first | exact hf_ | exact wfn_tr hf_ t147_.2.2
            · first | exact hcs_ | exact c147_
            · first | exact ho_ | exact o147_
            · omega
          · have cx14_ : ¬ ((S_.2.2.1 55 (0 + ll_) c9_.toNat) ≠ 2) := of_decide_eq_false cx14_
            refine sm_T_go 4 (c1 := (147, [some (.inr (.inr (some (6, 0)))), some (.inl a1_), some (.inl c9_), some (.inl i9_), some (.inl (S_.2.2.1 66 0 i9_.toNat))], [.inl (S_.2.2.1 66 0 i9_.toNat), .inl c9_, .inl a1_, .inr (.inr (some (6, 0)))], S_)) rfl ?_
            refine sm_T_cal (d1 := 3) (Q1 := vq_107n a1_ c9_ (S_.2.2.1 66 0 i9_.toNat) dd_ ll_ ((fun i_ => (crn (fun x_ => decide (F_ ≤ x_ ∧ S0_.2.2.1 60 0 x_ = 0)) (fun x_ => srp dd_ S0_ (S0_.2.2.1 42 (0 + dd_) x_)) (fun x_ => srp dd_ S0_ (S0_.2.2.1 43 (0 + dd_) x_)) a1_.toNat m9_).getD (O9_.getD i_ 0) []) i9_.toNat) (cfo (wct adc (pcc (1 + S0_.1 3 dd_ 1 + S0_.1 3 dd_ 2) ll_ S0_) ((hcf (S0_.2.2.1 69 0) (fun i_ => B9_ (O9_.getD i_ 0)) (fun i_ => (crn (fun x_ => decide (F_ ≤ x_ ∧ S0_.2.2.1 60 0 x_ = 0)) (fun x_ => srp dd_ S0_ (S0_.2.2.1 42 (0 + dd_) x_)) (fun x_ => srp dd_ S0_ (S0_.2.2.1 43 (0 + dd_) x_)) a1_.toNat m9_).getD (O9_.getD i_ 0) []) 0) c9_.toNat) ((fun cell => S0_.2.2.1 57 (0 + ll_) cell) c9_.toNat) c9_.toNat ((fun cell => (S0_.2.2.1 55 (0 + ll_) cell).toNat) c9_.toNat) (fun i_ => (crn (fun x_ => decide (F_ ≤ x_ ∧ S0_.2.2.1 60 0 x_ = 0)) (fun x_ => srp dd_ S0_ (S0_.2.2.1 42 (0 + dd_) x_)) (fun x_ => srp dd_ S0_ (S0_.2.2.1 43 (0 + dd_) x_)) a1_.toNat m9_).getD (O9_.getD i_ 0) [])) (i9_.toNat) (cfo (wcl adc (pcc (1 + S0_.1 3 dd_ 1 + S0_.1 3 dd_ 2) ll_ S0_) (hcf (S0_.2.2.1 69 0) (fun i_ => B9_ (O9_.getD i_ 0)) (fun i_ => (crn (fun x_ => decide (F_ ≤ x_ ∧ S0_.2.2.1 60 0 x_ = 0)) (fun x_ => srp dd_ S0_ (S0_.2.2.1 42 (0 + dd_) x_)) (fun x_ => srp dd_ S0_ (S0_.2.2.1 43 (0 + dd_) x_)) a1_.toNat m9_).getD (O9_.getD i_ 0) []) 0) (fun cell => S0_.2.2.1 57 (0 + ll_) cell) (fun cell => (S0_.2.2.1 55 (0 + ll_) cell).toNat) (fun i_ => (crn (fun x_ => decide (F_ ≤ x_ ∧ S0_.2.2.1 60 0 x_ = 0)) (fun x_ => srp dd_ S0_ (S0_.2.2.1 42 (0 + dd_) x_)) (fun x_ => srp dd_ S0_ (S0_.2.2.1 43 (0 + dd_) x_)) a1_.toNat m9_).getD (O9_.getD i_ 0) []) (crn (fun x_ => decide (F_ ≤ x_ ∧ S0_.2.2.1 60 0 x_ = 0)) (fun x_ => srp dd_ S0_ (S0_.2.2.1 42 (0 + dd_) x_)) (fun x_ => srp dd_ S0_ (S0_.2.2.1 43 (0 + dd_) x_)) a1_.toNat m9_).length) (c9_.toNat) (268435456, -1, 0, fun _ => 0))) (cfo (wct adc (pcc (1 + S0_.1 3 dd_ 1 + S0_.1 3 dd_ 2) ll_ S0_) ((hcf (S0_.2.2.1 69 0) (fun i_ => B9_ (O9_.getD i_ 0)) (fun i_ => (crn (fun x_ => decide (F_ ≤ x_ ∧ S0_.2.2.1 60 0 x_ = 0)) (fun x_ => srp dd_ S0_ (S0_.2.2.1 42 (0 + dd_) x_)) (fun x_ => srp dd_ S0_ (S0_.2.2.1 43 (0 + dd_) x_)) a1_.toNat m9_).getD (O9_.getD i_ 0) []) 1) c9_.toNat) ((fun cell => S0_.2.2.1 57 (0 + ll_) cell) c9_.toNat) c9_.toNat ((fun cell => (S0_.2.2.1 55 (0 + ll_) cell).toNat) c9_.toNat) (fun i_ => (crn (fun x_ => decide (F_ ≤ x_ ∧ S0_.2.2.1 60 0 x_ = 0)) (fun x_ => srp dd_ S0_ (S0_.2.2.1 42 (0 + dd_) x_)) (fun x_ => srp dd_ S0_ (S0_.2.2.1 43 (0 + dd_) x_)) a1_.toNat m9_).getD (O9_.getD i_ 0) [])) (i9_.toNat) (cfo (wcl adc (pcc (1 + S0_.1 3 dd_ 1 + S0_.1 3 dd_ 2) ll_ S0_) (hcf (S0_.2.2.1 69 0) (fun i_ => B9_ (O9_.getD i_ 0)) (fun i_ => (crn (fun x_ => decide (F_ ≤ x_ ∧ S0_.2.2.1 60 0 x_ = 0)) (fun x_ => srp dd_ S0_ (S0_.2.2.1 42 (0 + dd_) x_)) (fun x_ => srp dd_ S0_ (S0_.2.2.1 43 (0 + dd_) x_)) a1_.toNat m9_).getD (O9_.getD i_ 0) []) 1) (fun cell => S0_.2.2.1 57 (0 + ll_) cell) (fun cell => (S0_.2.2.1 55 (0 + ll_) cell).toNat) (fun i_ => (crn (fun x_ => decide (F_ ≤ x_ ∧ S0_.2.2.1 60 0 x_ = 0)) (fun x_ => srp dd_ S0_ (S0_.2.2.1 42 (0 + dd_) x_)) (fun x_ => srp dd_ S0_ (S0_.2.2.1 43 (0 + dd_) x_)) a1_.toNat m9_).getD (O9_.getD i_ 0) []) (crn (fun x_ => decide (F_ ≤ x_ ∧ S0_.2.2.1 60 0 x_ = 0)) (fun x_ => srp dd_ S0_ (S0_.2.2.1 42 (0 + dd_) x_)) (fun x_ => srp dd_ S0_ (S0_.2.2.1 43 (0 + dd_) x_)) a1_.toNat m9_).length) (c9_.toNat) (268435456, -1, 0, fun _ => 0))) S_) rfl rfl (by decide) (vc_107n a1_ c9_ (S_.2.2.1 66 0 i9_.toNat) dd_ ll_ ((fun i_ => (crn (fun x_ => decide (F_ ≤ x_ ∧ S0_.2.2.1 60 0 x_ = 0)) (fun x_ => srp dd_ S0_ (S0_.2.2.1 42 (0 + dd_) x_)) (fun x_ => srp dd_ S0_ (S0_.2.2.1 43 (0 + dd_) x_)) a1_.toNat m9_).getD (O9_.getD i_ 0) []) i9_.toNat) (cfo (wct adc (pcc (1 + S0_.1 3 dd_ 1 + S0_.1 3 dd_ 2) ll_ S0_) ((hcf (S0_.2.2.1 69 0) (fun i_ => B9_ (O9_.getD i_ 0)) (fun i_ => (crn (fun x_ => decide (F_ ≤ x_ ∧ S0_.2.2.1 60 0 x_ = 0)) (fun x_ => srp dd_ S0_ (S0_.2.2.1 42 (0 + dd_) x_)) (fun x_ => srp dd_ S0_ (S0_.2.2.1 43 (0 + dd_) x_)) a1_.toNat m9_).getD (O9_.getD i_ 0) []) 0) c9_.toNat) ((fun cell => S0_.2.2.1 57 (0 + ll_) cell) c9_.toNat) c9_.toNat ((fun cell => (S0_.2.2.1 55 (0 + ll_) cell).toNat) c9_.toNat) (fun i_ => (crn (fun x_ => decide (F_ ≤ x_ ∧ S0_.2.2.1 60 0 x_ = 0)) (fun x_ => srp dd_ S0_ (S0_.2.2.1 42 (0 + dd_) x_)) (fun x_ => srp dd_ S0_ (S0_.2.2.1 43 (0 + dd_) x_)) a1_.toNat m9_).getD (O9_.getD i_ 0) [])) (i9_.toNat) (cfo (wcl adc (pcc (1 + S0_.1 3 dd_ 1 + S0_.1 3 dd_ 2) ll_ S0_) (hcf (S0_.2.2.1 69 0) (fun i_ => B9_ (O9_.getD i_ 0)) (fun i_ => (crn (fun x_ => decide (F_ ≤ x_ ∧ S0_.2.2.1 60 0 x_ = 0)) (fun x_ => srp dd_ S0_ (S0_.2.2.1 42 (0 + dd_) x_)) (fun x_ => srp dd_ S0_ (S0_.2.2.1 43 (0 + dd_) x_)) a1_.toNat m9_).getD (O9_.getD i_ 0) []) 0) (fun cell => S0_.2.2.1 57 (0 + ll_) cell) (fun cell => (S0_.2.2.1 55 (0 + ll_) cell).toNat) (fun i_ => (crn (fun x_ => decide (F_ ≤ x_ ∧ S0_.2.2.1 60 0 x_ = 0)) (fun x_ => srp dd_ S0_ (S0_.2.2.1 42 (0 + dd_) x_)) (fun x_ => srp dd_ S0_ (S0_.2.2.1 43 (0 + dd_) x_)) a1_.toNat m9_).getD (O9_.getD i_ 0) []) (crn (fun x_ => decide (F_ ≤ x_ ∧ S0_.2.2.1 60 0 x_ = 0)) (fun x_ => srp dd_ S0_ (S0_.2.2.1 42 (0 + dd_) x_)) (fun x_ => srp dd_ S0_ (S0_.2.2.1 43 (0 + dd_) x_)) a1_.toNat m9_).length) (c9_.toNat) (268435456, -1, 0, fun _ => 0))) (cfo (wct adc (pcc (1 + S0_.1 3 dd_ 1 + S0_.1 3 dd_ 2) ll_ S0_) ((hcf (S0_.2.2.1 69 0) (fun i_ => B9_ (O9_.getD i_ 0)) (fun i_ => (crn (fun x_ => decide (F_ ≤ x_ ∧ S0_.2.2.1 60 0 x_ = 0)) (fun x_ => srp dd_ S0_ (S0_.2.2.1 42 (0 + dd_) x_)) (fun x_ => srp dd_ S0_ (S0_.2.2.1 43 (0 + dd_) x_)) a1_.toNat m9_).getD (O9_.getD i_ 0) []) 1) c9_.toNat) ((fun cell => S0_.2.2.1 57 (0 + ll_) cell) c9_.toNat) c9_.toNat ((fun cell => (S0_.2.2.1 55 (0 + ll_) cell).toNat) c9_.toNat) (fun i_ => (crn (fun x_ => decide (F_ ≤ x_ ∧ S0_.2.2.1 60 0 x_ = 0)) (fun x_ => srp dd_ S0_ (S0_.2.2.1 42 (0 + dd_) x_)) (fun x_ => srp dd_ S0_ (S0_.2.2.1 43 (0 + dd_) x_)) a1_.toNat m9_).getD (O9_.getD i_ 0) [])) (i9_.toNat) (cfo (wcl adc (pcc (1 + S0_.1 3 dd_ 1 + S0_.1 3 dd_ 2) ll_ S0_) (hcf (S0_.2.2.1 69 0) (fun i_ => B9_ (O9_.getD i_ 0)) (fun i_ => (crn (fun x_ => decide (F_ ≤ x_ ∧ S0_.2.2.1 60 0 x_ = 0)) (fun x_ => srp dd_ S0_ (S0_.2.2.1 42 (0 + dd_) x_)) (fun x_ => srp dd_ S0_ (S0_.2.2.1 43 (0 + dd_) x_)) a1_.toNat m9_).getD (O9_.getD i_ 0) []) 1) (fun cell => S0_.2.2.1 57 (0 + ll_) cell) (fun cell => (S0_.2.2.1 55 (0 + ll_) cell).toNat) (fun i_ => (crn (fun x_ => decide (F_ ≤ x_ ∧ S0_.2.2.1 60 0 x_ = 0)) (fun x_ => srp dd_ S0_ (S0_.2.2.1 42 (0 + dd_) x_)) (fun x_ => srp dd_ S0_ (S0_.2.2.1 43 (0 + dd_) x_)) a1_.toNat m9_).getD (O9_.getD i_ 0) []) (crn (fun x_ => decide (F_ ≤ x_ ∧ S0_.2.2.1 60 0 x_ = 0)) (fun x_ => srp dd_ S0_ (S0_.2.2.1 42 (0 + dd_) x_)) (fun x_ => srp dd_ S0_ (S0_.2.2.1 43 (0 + dd_) x_)) a1_.toNat m9_).length) (c9_.toNat) (268435456, -1, 0, fun _ => 0))) S_ hI_ (by (intro j9_ u9_; rw [cn9_]; exact y9_.2 j9_ u9_)) (by exact r9_) (by exact s9_) (by exact (hF_.2.1 6 0 0 rfl).trans hd_) (by exact (hF_.2.1 6 0 1 rfl).trans hc_) (by omega) (by omega) (by omega) (by omega) (by (rw [f59_]; exact hcs_)) (by (rw [f1_, f2_]; exact hv0_)) (by (rw [f1_, f2_]; exact hv1_))) (fun u_ Sx15_ px18_ => ?_)
            obtain ⟨rfl, hIx16_, hFx17_, px18_⟩ := px18_
            have hFx19_ : ai_fr (sx_W vw_99n) S0_ Sx15_ := ai_fr_tr hF_ (fr_le hFx17_ rfl)
            have ex20_ : Sx15_.1 6 0 11 = S_.1 6 0 11 := hFx17_.1 6 0 11 rfl
            have t147_ := (px18_).1
            rw [f1_, f2_] at t147_
            have X147_ := (px18_).2
            rw [f55_, f57_, f1_, f2_, f69_, cn9_, w9_.1] at X147_
            have lq9_ : (S0_.2.2.1 55 (0 + ll_) c9_.toNat).toNat = ((fun i_ => (crn (fun x_ => decide (F_ ≤ x_ ∧ S0_.2.2.1 60 0 x_ = 0)) (fun x_ => srp dd_ S0_ (S0_.2.2.1 42 (0 + dd_) x_)) (fun x_ => srp dd_ S0_ (S0_.2.2.1 43 (0 + dd_) x_)) a1_.toNat m9_).getD (O9_.getD i_ 0) []) i9_.toNat).length := by (have z9_ := l29_; rw [← f55_]; first | (rw [z9_.1 (by omega)]; omega) | (rw [z9_.2 (by omega)]; omega))
            have PQ9_ : ∀ (x_ : Nat) (t_ : Int), x_ ∈ (fun i_ => (crn (fun x_ => decide (F_ ≤ x_ ∧ S0_.2.2.1 60 0 x_ = 0)) (fun x_ => srp dd_ S0_ (S0_.2.2.1 42 (0 + dd_) x_)) (fun x_ => srp dd_ S0_ (S0_.2.2.1 43 (0 + dd_) x_)) a1_.toNat m9_).getD (O9_.getD i_ 0) []) i9_.toNat → 0 ≤ t_ → t_ ≤ 1 → pcc (1 + S0_.1 3 dd_ 1 + S0_.1 3 dd_ 2) ll_ S_ x_ t_ = pcc (1 + S0_.1 3 dd_ 1 + S0_.1 3 dd_ 2) ll_ S0_ x_ t_ := fun x_ t_ hx_ t0_ t1_ => pcc_cg (n_ := a1_) (by (obtain ⟨j9_, hj9_⟩ := List.getElem?_of_mem hx_; have jl_ := (List.getElem?_eq_some_iff.mp hj9_).1; have jv_ := y9_.2 j9_ (by (have z9_ := y9_.1.1; exact Nat.lt_of_lt_of_le jl_ z9_.2)); have je_ : cva ((fun i_ => (crn (fun x_ => decide (F_ ≤ x_ ∧ S0_.2.2.1 60 0 x_ = 0)) (fun x_ => srp dd_ S0_ (S0_.2.2.1 42 (0 + dd_) x_)) (fun x_ => srp dd_ S0_ (S0_.2.2.1 43 (0 + dd_) x_)) a1_.toNat m9_).getD (O9_.getD i_ 0) []) i9_.toNat) j9_ = (x_ : Int) := (by (unfold cva; rw [hj9_])); have jm_ := mcs_b hcs_ (i_ := ((O9_.getD i9_.toNat 0 : Nat) : Int)) (k_ := (j9_ : Int)) (by omega) (by (have z9_ := y9_.1.1; have z8_ : j9_ < 3 := Nat.lt_of_lt_of_le jl_ z9_.2; omega)) (fun u9_ => by (rw [show (3 * ((O9_.getD i9_.toNat 0 : Nat) : Int) + 2).toNat = 3 * O9_.getD i9_.toNat 0 + j9_ by omega, jv_]; rw [show cva ((crn (fun x_ => decide (F_ ≤ x_ ∧ S0_.2.2.1 60 0 x_ = 0)) (fun x_ => srp dd_ S0_ (S0_.2.2.1 42 (0 + dd_) x_)) (fun x_ => srp dd_ S0_ (S0_.2.2.1 43 (0 + dd_) x_)) a1_.toNat m9_).getD (O9_.getD i9_.toNat 0) []) j9_ = (x_ : Int) from je_]; omega)); rw [show (3 * ((O9_.getD i9_.toNat 0 : Nat) : Int) + (j9_ : Int)).toNat = 3 * O9_.getD i9_.toNat 0 + j9_ by omega, jv_, show cva ((crn (fun x_ => decide (F_ ≤ x_ ∧ S0_.2.2.1 60 0 x_ = 0)) (fun x_ => srp dd_ S0_ (S0_.2.2.1 42 (0 + dd_) x_)) (fun x_ => srp dd_ S0_ (S0_.2.2.1 43 (0 + dd_) x_)) a1_.toNat m9_).getD (O9_.getD i9_.toNat 0) []) j9_ = (x_ : Int) from je_] at jm_; exact ⟨by omega, jm_.2.1⟩)) ⟨t0_, t1_⟩ f60_ (fun j9_ u9_ => (hf_.1 j9_ (by omega) (by omega)).1) f5_ f57_
            have E147a : cfo (wvs adc (pcc (1 + S0_.1 3 dd_ 1 + S0_.1 3 dd_ 2) ll_ S_) (fun v_ => decide (S0_.2.2.1 69 0 (48 * c9_.toNat + v_) = B9_ (O9_.getD i9_.toNat 0))) (S0_.2.2.1 57 (0 + ll_) c9_.toNat) c9_.toNat ((fun i_ => (crn (fun x_ => decide (F_ ≤ x_ ∧ S0_.2.2.1 60 0 x_ = 0)) (fun x_ => srp dd_ S0_ (S0_.2.2.1 42 (0 + dd_) x_)) (fun x_ => srp dd_ S0_ (S0_.2.2.1 43 (0 + dd_) x_)) a1_.toNat m9_).getD (O9_.getD i_ 0) []) i9_.toNat) (S0_.2.2.1 55 (0 + ll_) c9_.toNat).toNat) (wic (S0_.2.2.1 55 (0 + ll_) c9_.toNat).toNat) (cfo (wct adc (pcc (1 + S0_.1 3 dd_ 1 + S0_.1 3 dd_ 2) ll_ S0_) ((hcf (S0_.2.2.1 69 0) (fun i_ => B9_ (O9_.getD i_ 0)) (fun i_ => (crn (fun x_ => decide (F_ ≤ x_ ∧ S0_.2.2.1 60 0 x_ = 0)) (fun x_ => srp dd_ S0_ (S0_.2.2.1 42 (0 + dd_) x_)) (fun x_ => srp dd_ S0_ (S0_.2.2.1 43 (0 + dd_) x_)) a1_.toNat m9_).getD (O9_.getD i_ 0) []) 0) c9_.toNat) ((fun cell => S0_.2.2.1 57 (0 + ll_) cell) c9_.toNat) c9_.toNat ((fun cell => (S0_.2.2.1 55 (0 + ll_) cell).toNat) c9_.toNat) (fun i_ => (crn (fun x_ => decide (F_ ≤ x_ ∧ S0_.2.2.1 60 0 x_ = 0)) (fun x_ => srp dd_ S0_ (S0_.2.2.1 42 (0 + dd_) x_)) (fun x_ => srp dd_ S0_ (S0_.2.2.1 43 (0 + dd_) x_)) a1_.toNat m9_).getD (O9_.getD i_ 0) [])) (i9_.toNat) (cfo (wcl adc (pcc (1 + S0_.1 3 dd_ 1 + S0_.1 3 dd_ 2) ll_ S0_) (hcf (S0_.2.2.1 69 0) (fun i_ => B9_ (O9_.getD i_ 0)) (fun i_ => (crn (fun x_ => decide (F_ ≤ x_ ∧ S0_.2.2.1 60 0 x_ = 0)) (fun x_ => srp dd_ S0_ (S0_.2.2.1 42 (0 + dd_) x_)) (fun x_ => srp dd_ S0_ (S0_.2.2.1 43 (0 + dd_) x_)) a1_.toNat m9_).getD (O9_.getD i_ 0) []) 0) (fun cell => S0_.2.2.1 57 (0 + ll_) cell) (fun cell => (S0_.2.2.1 55 (0 + ll_) cell).toNat) (fun i_ => (crn (fun x_ => decide (F_ ≤ x_ ∧ S0_.2.2.1 60 0 x_ = 0)) (fun x_ => srp dd_ S0_ (S0_.2.2.1 42 (0 + dd_) x_)) (fun x_ => srp dd_ S0_ (S0_.2.2.1 43 (0 + dd_) x_)) a1_.toNat m9_).getD (O9_.getD i_ 0) []) (crn (fun x_ => decide (F_ ≤ x_ ∧ S0_.2.2.1 60 0 x_ = 0)) (fun x_ => srp dd_ S0_ (S0_.2.2.1 42 (0 + dd_) x_)) (fun x_ => srp dd_ S0_ (S0_.2.2.1 43 (0 + dd_) x_)) a1_.toNat m9_).length) (c9_.toNat) (268435456, -1, 0, fun _ => 0))) = cfo (wvs adc (pcc (1 + S0_.1 3 dd_ 1 + S0_.1 3 dd_ 2) ll_ S0_) ((hcf (S0_.2.2.1 69 0) (fun i_ => B9_ (O9_.getD i_ 0)) (fun i_ => (crn (fun x_ => decide (F_ ≤ x_ ∧ S0_.2.2.1 60 0 x_ = 0)) (fun x_ => srp dd_ S0_ (S0_.2.2.1 42 (0 + dd_) x_)) (fun x_ => srp dd_ S0_ (S0_.2.2.1 43 (0 + dd_) x_)) a1_.toNat m9_).getD (O9_.getD i_ 0) []) 0) c9_.toNat i9_.toNat) (S0_.2.2.1 57 (0 + ll_) c9_.toNat) c9_.toNat ((fun i_ => (crn (fun x_ => decide (F_ ≤ x_ ∧ S0_.2.2.1 60 0 x_ = 0)) (fun x_ => srp dd_ S0_ (S0_.2.2.1 42 (0 + dd_) x_)) (fun x_ => srp dd_ S0_ (S0_.2.2.1 43 (0 + dd_) x_)) a1_.toNat m9_).getD (O9_.getD i_ 0) []) i9_.toNat) (S0_.2.2.1 55 (0 + ll_) c9_.toNat).toNat) (wic (S0_.2.2.1 55 (0 + ll_) c9_.toNat).toNat) (cfo (wct adc (pcc (1 + S0_.1 3 dd_ 1 + S0_.1 3 dd_ 2) ll_ S0_) ((hcf (S0_.2.2.1 69 0) (fun i_ => B9_ (O9_.getD i_ 0)) (fun i_ => (crn (fun x_ => decide (F_ ≤ x_ ∧ S0_.2.2.1 60 0 x_ = 0)) (fun x_ => srp dd_ S0_ (S0_.2.2.1 42 (0 + dd_) x_)) (fun x_ => srp dd_ S0_ (S0_.2.2.1 43 (0 + dd_) x_)) a1_.toNat m9_).getD (O9_.getD i_ 0) []) 0) c9_.toNat) ((fun cell => S0_.2.2.1 57 (0 + ll_) cell) c9_.toNat) c9_.toNat ((fun cell => (S0_.2.2.1 55 (0 + ll_) cell).toNat) c9_.toNat) (fun i_ => (crn (fun x_ => decide (F_ ≤ x_ ∧ S0_.2.2.1 60 0 x_ = 0)) (fun x_ => srp dd_ S0_ (S0_.2.2.1 42 (0 + dd_) x_)) (fun x_ => srp dd_ S0_ (S0_.2.2.1 43 (0 + dd_) x_)) a1_.toNat m9_).getD (O9_.getD i_ 0) [])) (i9_.toNat) (cfo (wcl adc (pcc (1 + S0_.1 3 dd_ 1 + S0_.1 3 dd_ 2) ll_ S0_) (hcf (S0_.2.2.1 69 0) (fun i_ => B9_ (O9_.getD i_ 0)) (fun i_ => (crn (fun x_ => decide (F_ ≤ x_ ∧ S0_.2.2.1 60 0 x_ = 0)) (fun x_ => srp dd_ S0_ (S0_.2.2.1 42 (0 + dd_) x_)) (fun x_ => srp dd_ S0_ (S0_.2.2.1 43 (0 + dd_) x_)) a1_.toNat m9_).getD (O9_.getD i_ 0) []) 0) (fun cell => S0_.2.2.1 57 (0 + ll_) cell) (fun cell => (S0_.2.2.1 55 (0 + ll_) cell).toNat) (fun i_ => (crn (fun x_ => decide (F_ ≤ x_ ∧ S0_.2.2.1 60 0 x_ = 0)) (fun x_ => srp dd_ S0_ (S0_.2.2.1 42 (0 + dd_) x_)) (fun x_ => srp dd_ S0_ (S0_.2.2.1 43 (0 + dd_) x_)) a1_.toNat m9_).getD (O9_.getD i_ 0) []) (crn (fun x_ => decide (F_ ≤ x_ ∧ S0_.2.2.1 60 0 x_ = 0)) (fun x_ => srp dd_ S0_ (S0_.2.2.1 42 (0 + dd_) x_)) (fun x_ => srp dd_ S0_ (S0_.2.2.1 43 (0 + dd_) x_)) a1_.toNat m9_).length) (c9_.toNat) (268435456, -1, 0, fun _ => 0))) := cfo_cg _ (fun v9_ b9_ hv9_ => wvs_cg y9_.1.1 lq9_ hv9_ PQ9_ (by rfl))
            have E147b : cfo (wvs adc (pcc (1 + S0_.1 3 dd_ 1 + S0_.1 3 dd_ 2) ll_ S_) (fun v_ => decide (S0_.2.2.1 69 0 (48 * c9_.toNat + v_) = i_xor (B9_ (O9_.getD i9_.toNat 0)) (if S0_.2.2.1 55 (0 + ll_) c9_.toNat = 2 then 15 else 255))) (S0_.2.2.1 57 (0 + ll_) c9_.toNat) c9_.toNat ((fun i_ => (crn (fun x_ => decide (F_ ≤ x_ ∧ S0_.2.2.1 60 0 x_ = 0)) (fun x_ => srp dd_ S0_ (S0_.2.2.1 42 (0 + dd_) x_)) (fun x_ => srp dd_ S0_ (S0_.2.2.1 43 (0 + dd_) x_)) a1_.toNat m9_).getD (O9_.getD i_ 0) []) i9_.toNat) (S0_.2.2.1 55 (0 + ll_) c9_.toNat).toNat) (wic (S0_.2.2.1 55 (0 + ll_) c9_.toNat).toNat) (cfo (wct adc (pcc (1 + S0_.1 3 dd_ 1 + S0_.1 3 dd_ 2) ll_ S0_) ((hcf (S0_.2.2.1 69 0) (fun i_ => B9_ (O9_.getD i_ 0)) (fun i_ => (crn (fun x_ => decide (F_ ≤ x_ ∧ S0_.2.2.1 60 0 x_ = 0)) (fun x_ => srp dd_ S0_ (S0_.2.2.1 42 (0 + dd_) x_)) (fun x_ => srp dd_ S0_ (S0_.2.2.1 43 (0 + dd_) x_)) a1_.toNat m9_).getD (O9_.getD i_ 0) []) 1) c9_.toNat) ((fun cell => S0_.2.2.1 57 (0 + ll_) cell) c9_.toNat) c9_.toNat ((fun cell => (S0_.2.2.1 55 (0 + ll_) cell).toNat) c9_.toNat) (fun i_ => (crn (fun x_ => decide (F_ ≤ x_ ∧ S0_.2.2.1 60 0 x_ = 0)) (fun x_ => srp dd_ S0_ (S0_.2.2.1 42 (0 + dd_) x_)) (fun x_ => srp dd_ S0_ (S0_.2.2.1 43 (0 + dd_) x_)) a1_.toNat m9_).getD (O9_.getD i_ 0) [])) (i9_.toNat) (cfo (wcl adc (pcc (1 + S0_.1 3 dd_ 1 + S0_.1 3 dd_ 2) ll_ S0_) (hcf (S0_.2.2.1 69 0) (fun i_ => B9_ (O9_.getD i_ 0)) (fun i_ => (crn (fun x_ => decide (F_ ≤ x_ ∧ S0_.2.2.1 60 0 x_ = 0)) (fun x_ => srp dd_ S0_ (S0_.2.2.1 42 (0 + dd_) x_)) (fun x_ => srp dd_ S0_ (S0_.2.2.1 43 (0 + dd_) x_)) a1_.toNat m9_).getD (O9_.getD i_ 0) []) 1) (fun cell => S0_.2.2.1 57 (0 + ll_) cell) (fun cell => (S0_.2.2.1 55 (0 + ll_) cell).toNat) (fun i_ => (crn (fun x_ => decide (F_ ≤ x_ ∧ S0_.2.2.1 60 0 x_ = 0)) (fun x_ => srp dd_ S0_ (S0_.2.2.1 42 (0 + dd_) x_)) (fun x_ => srp dd_ S0_ (S0_.2.2.1 43 (0 + dd_) x_)) a1_.toNat m9_).getD (O9_.getD i_ 0) []) (crn (fun x_ => decide (F_ ≤ x_ ∧ S0_.2.2.1 60 0 x_ = 0)) (fun x_ => srp dd_ S0_ (S0_.2.2.1 42 (0 + dd_) x_)) (fun x_ => srp dd_ S0_ (S0_.2.2.1 43 (0 + dd_) x_)) a1_.toNat m9_).length) (c9_.toNat) (268435456, -1, 0, fun _ => 0))) = cfo (wvs adc (pcc (1 + S0_.1 3 dd_ 1 + S0_.1 3 dd_ 2) ll_ S0_) ((hcf (S0_.2.2.1 69 0) (fun i_ => B9_ (O9_.getD i_ 0)) (fun i_ => (crn (fun x_ => decide (F_ ≤ x_ ∧ S0_.2.2.1 60 0 x_ = 0)) (fun x_ => srp dd_ S0_ (S0_.2.2.1 42 (0 + dd_) x_)) (fun x_ => srp dd_ S0_ (S0_.2.2.1 43 (0 + dd_) x_)) a1_.toNat m9_).getD (O9_.getD i_ 0) []) 1) c9_.toNat i9_.toNat) (S0_.2.2.1 57 (0 + ll_) c9_.toNat) c9_.toNat ((fun i_ => (crn (fun x_ => decide (F_ ≤ x_ ∧ S0_.2.2.1 60 0 x_ = 0)) (fun x_ => srp dd_ S0_ (S0_.2.2.1 42 (0 + dd_) x_)) (fun x_ => srp dd_ S0_ (S0_.2.2.1 43 (0 + dd_) x_)) a1_.toNat m9_).getD (O9_.getD i_ 0) []) i9_.toNat) (S0_.2.2.1 55 (0 + ll_) c9_.toNat).toNat) (wic (S0_.2.2.1 55 (0 + ll_) c9_.toNat).toNat) (cfo (wct adc (pcc (1 + S0_.1 3 dd_ 1 + S0_.1 3 dd_ 2) ll_ S0_) ((hcf (S0_.2.2.1 69 0) (fun i_ => B9_ (O9_.getD i_ 0)) (fun i_ => (crn (fun x_ => decide (F_ ≤ x_ ∧ S0_.2.2.1 60 0 x_ = 0)) (fun x_ => srp dd_ S0_ (S0_.2.2.1 42 (0 + dd_) x_)) (fun x_ => srp dd_ S0_ (S0_.2.2.1 43 (0 + dd_) x_)) a1_.toNat m9_).getD (O9_.getD i_ 0) []) 1) c9_.toNat) ((fun cell => S0_.2.2.1 57 (0 + ll_) cell) c9_.toNat) c9_.toNat ((fun cell => (S0_.2.2.1 55 (0 + ll_) cell).toNat) c9_.toNat) (fun i_ => (crn (fun x_ => decide (F_ ≤ x_ ∧ S0_.2.2.1 60 0 x_ = 0)) (fun x_ => srp dd_ S0_ (S0_.2.2.1 42 (0 + dd_) x_)) (fun x_ => srp dd_ S0_ (S0_.2.2.1 43 (0 + dd_) x_)) a1_.toNat m9_).getD (O9_.getD i_ 0) [])) (i9_.toNat) (cfo (wcl adc (pcc (1 + S0_.1 3 dd_ 1 + S0_.1 3 dd_ 2) ll_ S0_) (hcf (S0_.2.2.1 69 0) (fun i_ => B9_ (O9_.getD i_ 0)) (fun i_ => (crn (fun x_ => decide (F_ ≤ x_ ∧ S0_.2.2.1 60 0 x_ = 0)) (fun x_ => srp dd_ S0_ (S0_.2.2.1 42 (0 + dd_) x_)) (fun x_ => srp dd_ S0_ (S0_.2.2.1 43 (0 + dd_) x_)) a1_.toNat m9_).getD (O9_.getD i_ 0) []) 1) (fun cell => S0_.2.2.1 57 (0 + ll_) cell) (fun cell => (S0_.2.2.1 55 (0 + ll_) cell).toNat) (fun i_ => (crn (fun x_ => decide (F_ ≤ x_ ∧ S0_.2.2.1 60 0 x_ = 0)) (fun x_ => srp dd_ S0_ (S0_.2.2.1 42 (0 + dd_) x_)) (fun x_ => srp dd_ S0_ (S0_.2.2.1 43 (0 + dd_) x_)) a1_.toNat m9_).getD (O9_.getD i_ 0) []) (crn (fun x_ => decide (F_ ≤ x_ ∧ S0_.2.2.1 60 0 x_ = 0)) (fun x_ => srp dd_ S0_ (S0_.2.2.1 42 (0 + dd_) x_)) (fun x_ => srp dd_ S0_ (S0_.2.2.1 43 (0 + dd_) x_)) a1_.toNat m9_).length) (c9_.toNat) (268435456, -1, 0, fun _ => 0))) := cfo_cg _ (fun v9_ b9_ hv9_ => wvs_cg y9_.1.1 lq9_ hv9_ PQ9_ (by (show decide (S0_.2.2.1 69 0 (48 * c9_.toNat + v9_) = i_xor (B9_ (O9_.getD i9_.toNat 0)) (if S0_.2.2.1 55 (0 + ll_) c9_.toNat = 2 then 15 else 255)) = decide (S0_.2.2.1 69 0 (48 * c9_.toNat + v9_) = i_xor (B9_ (O9_.getD i9_.toNat 0)) (if ((fun i_ => (crn (fun x_ => decide (F_ ≤ x_ ∧ S0_.2.2.1 60 0 x_ = 0)) (fun x_ => srp dd_ S0_ (S0_.2.2.1 42 (0 + dd_) x_)) (fun x_ => srp dd_ S0_ (S0_.2.2.1 43 (0 + dd_) x_)) a1_.toNat m9_).getD (O9_.getD i_ 0) []) i9_.toNat).length = 2 then 15 else 255)); rw [← lq9_]; by_cases u9_ : S0_.2.2.1 55 (0 + ll_) c9_.toNat = 2; (rw [if_pos u9_, if_pos (show (S0_.2.2.1 55 (0 + ll_) c9_.toNat).toNat = 2 by omega)]); (rw [if_neg u9_, if_neg (show ¬ (S0_.2.2.1 55 (0 + ll_) c9_.toNat).toNat = 2 by omega)]))))
            have A147_ : wrc ll_ Sx15_ (2 * a1_).toNat (cfo (wct adc (pcc (1 + S0_.1 3 dd_ 1 + S0_.1 3 dd_ 2) ll_ S0_) ((hcf (S0_.2.2.1 69 0) (fun i_ => B9_ (O9_.getD i_ 0)) (fun i_ => (crn (fun x_ => decide (F_ ≤ x_ ∧ S0_.2.2.1 60 0 x_ = 0)) (fun x_ => srp dd_ S0_ (S0_.2.2.1 42 (0 + dd_) x_)) (fun x_ => srp dd_ S0_ (S0_.2.2.1 43 (0 + dd_) x_)) a1_.toNat m9_).getD (O9_.getD i_ 0) []) 0) c9_.toNat) ((fun cell => S0_.2.2.1 57 (0 + ll_) cell) c9_.toNat) c9_.toNat ((fun cell => (S0_.2.2.1 55 (0 + ll_) cell).toNat) c9_.toNat) (fun i_ => (crn (fun x_ => decide (F_ ≤ x_ ∧ S0_.2.2.1 60 0 x_ = 0)) (fun x_ => srp dd_ S0_ (S0_.2.2.1 42 (0 + dd_) x_)) (fun x_ => srp dd_ S0_ (S0_.2.2.1 43 (0 + dd_) x_)) a1_.toNat m9_).getD (O9_.getD i_ 0) [])) ((i9_ + 1).toNat) (cfo (wcl adc (pcc (1 + S0_.1 3 dd_ 1 + S0_.1 3 dd_ 2) ll_ S0_) (hcf (S0_.2.2.1 69 0) (fun i_ => B9_ (O9_.getD i_ 0)) (fun i_ => (crn (fun x_ => decide (F_ ≤ x_ ∧ S0_.2.2.1 60 0 x_ = 0)) (fun x_ => srp dd_ S0_ (S0_.2.2.1 42 (0 + dd_) x_)) (fun x_ => srp dd_ S0_ (S0_.2.2.1 43 (0 + dd_) x_)) a1_.toNat m9_).getD (O9_.getD i_ 0) []) 0) (fun cell => S0_.2.2.1 57 (0 + ll_) cell) (fun cell => (S0_.2.2.1 55 (0 + ll_) cell).toNat) (fun i_ => (crn (fun x_ => decide (F_ ≤ x_ ∧ S0_.2.2.1 60 0 x_ = 0)) (fun x_ => srp dd_ S0_ (S0_.2.2.1 42 (0 + dd_) x_)) (fun x_ => srp dd_ S0_ (S0_.2.2.1 43 (0 + dd_) x_)) a1_.toNat m9_).getD (O9_.getD i_ 0) []) (crn (fun x_ => decide (F_ ≤ x_ ∧ S0_.2.2.1 60 0 x_ = 0)) (fun x_ => srp dd_ S0_ (S0_.2.2.1 42 (0 + dd_) x_)) (fun x_ => srp dd_ S0_ (S0_.2.2.1 43 (0 + dd_) x_)) a1_.toNat m9_).length) (c9_.toNat) (268435456, -1, 0, fun _ => 0))) := by (have z9_ : wrc ll_ Sx15_ (2 * a1_).toNat (cfo (wvs adc (pcc (1 + S0_.1 3 dd_ 1 + S0_.1 3 dd_ 2) ll_ S_) (fun v_ => decide (S0_.2.2.1 69 0 (48 * c9_.toNat + v_) = B9_ (O9_.getD i9_.toNat 0))) (S0_.2.2.1 57 (0 + ll_) c9_.toNat) c9_.toNat ((fun i_ => (crn (fun x_ => decide (F_ ≤ x_ ∧ S0_.2.2.1 60 0 x_ = 0)) (fun x_ => srp dd_ S0_ (S0_.2.2.1 42 (0 + dd_) x_)) (fun x_ => srp dd_ S0_ (S0_.2.2.1 43 (0 + dd_) x_)) a1_.toNat m9_).getD (O9_.getD i_ 0) []) i9_.toNat) (S0_.2.2.1 55 (0 + ll_) c9_.toNat).toNat) (wic (S0_.2.2.1 55 (0 + ll_) c9_.toNat).toNat) (cfo (wct adc (pcc (1 + S0_.1 3 dd_ 1 + S0_.1 3 dd_ 2) ll_ S0_) ((hcf (S0_.2.2.1 69 0) (fun i_ => B9_ (O9_.getD i_ 0)) (fun i_ => (crn (fun x_ => decide (F_ ≤ x_ ∧ S0_.2.2.1 60 0 x_ = 0)) (fun x_ => srp dd_ S0_ (S0_.2.2.1 42 (0 + dd_) x_)) (fun x_ => srp dd_ S0_ (S0_.2.2.1 43 (0 + dd_) x_)) a1_.toNat m9_).getD (O9_.getD i_ 0) []) 0) c9_.toNat) ((fun cell => S0_.2.2.1 57 (0 + ll_) cell) c9_.toNat) c9_.toNat ((fun cell => (S0_.2.2.1 55 (0 + ll_) cell).toNat) c9_.toNat) (fun i_ => (crn (fun x_ => decide (F_ ≤ x_ ∧ S0_.2.2.1 60 0 x_ = 0)) (fun x_ => srp dd_ S0_ (S0_.2.2.1 42 (0 + dd_) x_)) (fun x_ => srp dd_ S0_ (S0_.2.2.1 43 (0 + dd_) x_)) a1_.toNat m9_).getD (O9_.getD i_ 0) [])) (i9_.toNat) (cfo (wcl adc (pcc (1 + S0_.1 3 dd_ 1 + S0_.1 3 dd_ 2) ll_ S0_) (hcf (S0_.2.2.1 69 0) (fun i_ => B9_ (O9_.getD i_ 0)) (fun i_ => (crn (fun x_ => decide (F_ ≤ x_ ∧ S0_.2.2.1 60 0 x_ = 0)) (fun x_ => srp dd_ S0_ (S0_.2.2.1 42 (0 + dd_) x_)) (fun x_ => srp dd_ S0_ (S0_.2.2.1 43 (0 + dd_) x_)) a1_.toNat m9_).getD (O9_.getD i_ 0) []) 0) (fun cell => S0_.2.2.1 57 (0 + ll_) cell) (fun cell => (S0_.2.2.1 55 (0 + ll_) cell).toNat) (fun i_ => (crn (fun x_ => decide (F_ ≤ x_ ∧ S0_.2.2.1 60 0 x_ = 0)) (fun x_ => srp dd_ S0_ (S0_.2.2.1 42 (0 + dd_) x_)) (fun x_ => srp dd_ S0_ (S0_.2.2.1 43 (0 + dd_) x_)) a1_.toNat m9_).getD (O9_.getD i_ 0) []) (crn (fun x_ => decide (F_ ≤ x_ ∧ S0_.2.2.1 60 0 x_ = 0)) (fun x_ => srp dd_ S0_ (S0_.2.2.1 42 (0 + dd_) x_)) (fun x_ => srp dd_ S0_ (S0_.2.2.1 43 (0 + dd_) x_)) a1_.toNat m9_).length) (c9_.toNat) (268435456, -1, 0, fun _ => 0)))) := X147_.1; rw [E147a] at z9_; rw [show (i9_ + 1).toNat = i9_.toNat + 1 by omega, cfo_s, wct_y (Q_ := (fun i_ => (crn (fun x_ => decide (F_ ≤ x_ ∧ S0_.2.2.1 60 0 x_ = 0)) (fun x_ => srp dd_ S0_ (S0_.2.2.1 42 (0 + dd_) x_)) (fun x_ => srp dd_ S0_ (S0_.2.2.1 43 (0 + dd_) x_)) a1_.toNat m9_).getD (O9_.getD i_ 0) [])) (i_ := i9_.toNat) lq9_]; exact z9_)
            have B147_ : wrc ll_ Sx15_ (2 * a1_ + 1).toNat (cfo (wct adc (pcc (1 + S0_.1 3 dd_ 1 + S0_.1 3 dd_ 2) ll_ S0_) ((hcf (S0_.2.2.1 69 0) (fun i_ => B9_ (O9_.getD i_ 0)) (fun i_ => (crn (fun x_ => decide (F_ ≤ x_ ∧ S0_.2.2.1 60 0 x_ = 0)) (fun x_ => srp dd_ S0_ (S0_.2.2.1 42 (0 + dd_) x_)) (fun x_ => srp dd_ S0_ (S0_.2.2.1 43 (0 + dd_) x_)) a1_.toNat m9_).getD (O9_.getD i_ 0) []) 1) c9_.toNat) ((fun cell => S0_.2.2.1 57 (0 + ll_) cell) c9_.toNat) c9_.toNat ((fun cell => (S0_.2.2.1 55 (0 + ll_) cell).toNat) c9_.toNat) (fun i_ => (crn (fun x_ => decide (F_ ≤ x_ ∧ S0_.2.2.1 60 0 x_ = 0)) (fun x_ => srp dd_ S0_ (S0_.2.2.1 42 (0 + dd_) x_)) (fun x_ => srp dd_ S0_ (S0_.2.2.1 43 (0 + dd_) x_)) a1_.toNat m9_).getD (O9_.getD i_ 0) [])) ((i9_ + 1).toNat) (cfo (wcl adc (pcc (1 + S0_.1 3 dd_ 1 + S0_.1 3 dd_ 2) ll_ S0_) (hcf (S0_.2.2.1 69 0) (fun i_ => B9_ (O9_.getD i_ 0)) (fun i_ => (crn (fun x_ => decide (F_ ≤ x_ ∧ S0_.2.2.1 60 0 x_ = 0)) (fun x_ => srp dd_ S0_ (S0_.2.2.1 42 (0 + dd_) x_)) (fun x_ => srp dd_ S0_ (S0_.2.2.1 43 (0 + dd_) x_)) a1_.toNat m9_).getD (O9_.getD i_ 0) []) 1) (fun cell => S0_.2.2.1 57 (0 + ll_) cell) (fun cell => (S0_.2.2.1 55 (0 + ll_) cell).toNat) (fun i_ => (crn (fun x_ => decide (F_ ≤ x_ ∧ S0_.2.2.1 60 0 x_ = 0)) (fun x_ => srp dd_ S0_ (S0_.2.2.1 42 (0 + dd_) x_)) (fun x_ => srp dd_ S0_ (S0_.2.2.1 43 (0 + dd_) x_)) a1_.toNat m9_).getD (O9_.getD i_ 0) []) (crn (fun x_ => decide (F_ ≤ x_ ∧ S0_.2.2.1 60 0 x_ = 0)) (fun x_ => srp dd_ S0_ (S0_.2.2.1 42 (0 + dd_) x_)) (fun x_ => srp dd_ S0_ (S0_.2.2.1 43 (0 + dd_) x_)) a1_.toNat m9_).length) (c9_.toNat) (268435456, -1, 0, fun _ => 0))) := by (have z9_ : wrc ll_ Sx15_ (2 * a1_ + 1).toNat (cfo (wvs adc (pcc (1 + S0_.1 3 dd_ 1 + S0_.1 3 dd_ 2) ll_ S_) (fun v_ => decide (S0_.2.2.1 69 0 (48 * c9_.toNat + v_) = i_xor (B9_ (O9_.getD i9_.toNat 0)) (if S0_.2.2.1 55 (0 + ll_) c9_.toNat = 2 then 15 else 255))) (S0_.2.2.1 57 (0 + ll_) c9_.toNat) c9_.toNat ((fun i_ => (crn (fun x_ => decide (F_ ≤ x_ ∧ S0_.2.2.1 60 0 x_ = 0)) (fun x_ => srp dd_ S0_ (S0_.2.2.1 42 (0 + dd_) x_)) (fun x_ => srp dd_ S0_ (S0_.2.2.1 43 (0 + dd_) x_)) a1_.toNat m9_).getD (O9_.getD i_ 0) []) i9_.toNat) (S0_.2.2.1 55 (0 + ll_) c9_.toNat).toNat) (wic (S0_.2.2.1 55 (0 + ll_) c9_.toNat).toNat) (cfo (wct adc (pcc (1 + S0_.1 3 dd_ 1 + S0_.1 3 dd_ 2) ll_ S0_) ((hcf (S0_.2.2.1 69 0) (fun i_ => B9_ (O9_.getD i_ 0)) (fun i_ => (crn (fun x_ => decide (F_ ≤ x_ ∧ S0_.2.2.1 60 0 x_ = 0)) (fun x_ => srp dd_ S0_ (S0_.2.2.1 42 (0 + dd_) x_)) (fun x_ => srp dd_ S0_ (S0_.2.2.1 43 (0 + dd_) x_)) a1_.toNat m9_).getD (O9_.getD i_ 0) []) 1) c9_.toNat) ((fun cell => S0_.2.2.1 57 (0 + ll_) cell) c9_.toNat) c9_.toNat ((fun cell => (S0_.2.2.1 55 (0 + ll_) cell).toNat) c9_.toNat) (fun i_ => (crn (fun x_ => decide (F_ ≤ x_ ∧ S0_.2.2.1 60 0 x_ = 0)) (fun x_ => srp dd_ S0_ (S0_.2.2.1 42 (0 + dd_) x_)) (fun x_ => srp dd_ S0_ (S0_.2.2.1 43 (0 + dd_) x_)) a1_.toNat m9_).getD (O9_.getD i_ 0) [])) (i9_.toNat) (cfo (wcl adc (pcc (1 + S0_.1 3 dd_ 1 + S0_.1 3 dd_ 2) ll_ S0_) (hcf (S0_.2.2.1 69 0) (fun i_ => B9_ (O9_.getD i_ 0)) (fun i_ => (crn (fun x_ => decide (F_ ≤ x_ ∧ S0_.2.2.1 60 0 x_ = 0)) (fun x_ => srp dd_ S0_ (S0_.2.2.1 42 (0 + dd_) x_)) (fun x_ => srp dd_ S0_ (S0_.2.2.1 43 (0 + dd_) x_)) a1_.toNat m9_).getD (O9_.getD i_ 0) []) 1) (fun cell => S0_.2.2.1 57 (0 + ll_) cell) (fun cell => (S0_.2.2.1 55 (0 + ll_) cell).toNat) (fun i_ => (crn (fun x_ => decide (F_ ≤ x_ ∧ S0_.2.2.1 60 0 x_ = 0)) (fun x_ => srp dd_ S0_ (S0_.2.2.1 42 (0 + dd_) x_)) (fun x_ => srp dd_ S0_ (S0_.2.2.1 43 (0 + dd_) x_)) a1_.toNat m9_).getD (O9_.getD i_ 0) []) (crn (fun x_ => decide (F_ ≤ x_ ∧ S0_.2.2.1 60 0 x_ = 0)) (fun x_ => srp dd_ S0_ (S0_.2.2.1 42 (0 + dd_) x_)) (fun x_ => srp dd_ S0_ (S0_.2.2.1 43 (0 + dd_) x_)) a1_.toNat m9_).length) (c9_.toNat) (268435456, -1, 0, fun _ => 0)))) := X147_.2; rw [E147b] at z9_; rw [show (i9_ + 1).toNat = i9_.toNat + 1 by omega, cfo_s, wct_y (Q_ := (fun i_ => (crn (fun x_ => decide (F_ ≤ x_ ∧ S0_.2.2.1 60 0 x_ = 0)) (fun x_ => srp dd_ S0_ (S0_.2.2.1 42 (0 + dd_) x_)) (fun x_ => srp dd_ S0_ (S0_.2.2.1 43 (0 + dd_) x_)) a1_.toNat m9_).getD (O9_.getD i_ 0) [])) (i_ := i9_.toNat) lq9_]; exact z9_)
            have q147_ := fwi_fr q9_ hFx17_
            have l147_ := hFx17_.1 5 ll_ 1 rfl
            have k147_ := hFx17_.1 6 0 11 rfl
            have c147_ : mcs (npd a1_ (S0_.2.2.1 59 0)) Sx15_ := mcs_fr hcs_ hFx17_
            have o147_ : ∀ i_ : Nat, (i_ : Int) < Sx15_.1 6 0 11 → Sx15_.2.2.1 66 0 i_ < Sx15_.1 6 0 11 := fun i_ q9_ => by (rw [k147_] at q9_ ⊢; rw [(hFx17_.2.2 66 rfl 0 i_).1]; exact ho_ i_ q9_)
            refine sm_T_inc (a := 3) (z := 1) (v := i9_) (w := i9_ + 1) rfl rfl (by omega) (by omega) (by omega) ?_ -- pc_ 150
            refine sm_T_go 1 (c1 := (94, [some (.inr (.inr (some (6, 0)))), some (.inl a1_), some (.inl c9_), some (.inl (i9_ + 1)), some (.inl (S_.2.2.1 66 0 i9_.toNat))], [], Sx15_)) rfl ?_
            refine sm_T_wk [some (.inr (.inr (some (6, 0)))), some (.inl a1_), some (.inl c9_), some (.inl (i9_ + 1)), none] (by exact ⟨rfl, rfl, rfl, rfl, trivial⟩) ?_
            refine ih_.2.2 c9_ (i9_ + 1) Sx15_ hIx16_ hFx19_ ⟨?_, ?_, ?_, ?_, ?_, ?_, ?_, trivial⟩ ?_
            · omega
            · first | (have y8_ := A147_; rw [← k147_] at q147_; exact ⟨m9_, O9_, B9_, q147_, A147_, B147_⟩) | (refine ⟨m9_, O9_, B9_, q9_, ?_, ?_⟩; (rw [show (i9_ + 1).toNat = i9_.toNat + 1 by omega, cfo_s, wct_n (Q_ := (fun i_ => (crn (fun x_ => decide (F_ ≤ x_ ∧ S0_.2.2.1 60 0 x_ = 0)) (fun x_ => srp dd_ S0_ (S0_.2.2.1 42 (0 + dd_) x_)) (fun x_ => srp dd_ S0_ (S0_.2.2.1 43 (0 + dd_) x_)) a1_.toNat m9_).getD (O9_.getD i_ 0) [])) (i_ := i9_.toNat) (show ¬ (S0_.2.2.1 55 (0 + ll_) c9_.toNat).toNat = ((fun i_ => (crn (fun x_ => decide (F_ ≤ x_ ∧ S0_.2.2.1 60 0 x_ = 0)) (fun x_ => srp dd_ S0_ (S0_.2.2.1 42 (0 + dd_) x_)) (fun x_ => srp dd_ S0_ (S0_.2.2.1 43 (0 + dd_) x_)) a1_.toNat m9_).getD (O9_.getD i_ 0) []) i9_.toNat).length from fun u9_ => by (have z9_ := l29_; rw [← f55_] at u9_; first | (rw [z9_.1 (by omega)] at u9_; omega) | (rw [z9_.2 (by omega)] at u9_; omega)))]; exact r9_); (rw [show (i9_ + 1).toNat = i9_.toNat + 1 by omega, cfo_s, wct_n (Q_ := (fun i_ => (crn (fun x_ => decide (F_ ≤ x_ ∧ S0_.2.2.1 60 0 x_ = 0)) (fun x_ => srp dd_ S0_ (S0_.2.2.1 42 (0 + dd_) x_)) (fun x_ => srp dd_ S0_ (S0_.2.2.1 43 (0 + dd_) x_)) a1_.toNat m9_).getD (O9_.getD i_ 0) [])) (i_ := i9_.toNat) (show ¬ (S0_.2.2.1 55 (0 + ll_) c9_.toNat).toNat = ((fun i_ => (crn (fun x_ => decide (F_ ≤ x_ ∧ S0_.2.2.1 60 0 x_ = 0)) (fun x_ => srp dd_ S0_ (S0_.2.2.1 42 (0 + dd_) x_)) (fun x_ => srp dd_ S0_ (S0_.2.2.1 43 (0 + dd_) x_)) a1_.toNat m9_).getD (O9_.getD i_ 0) []) i9_.toNat).length from fun u9_ => by (have z9_ := l29_; rw [← f55_] at u9_; first | (rw [z9_.1 (by omega)] at u9_; omega) | (rw [z9_.2 (by omega)] at u9_; omega)))]; exact s9_))
            · first | exact hv0_ | exact t147_.1
            · first | exact hv1_ | exact t147_.2.1
            · first | exact hf_ | exact wfn_tr hf_ t147_.2.2
            · first | exact hcs_ | exact c147_
            · first | exact ho_ | exact o147_
            · omega
set_option maxHeartbeats 4000000 in
set_option maxRecDepth 20000 in
theorem vc_99n {sc_ : Nat × (Nat → Int)} (a1_ : Int) (dd_ : Nat) (F_ : Nat) (ll_ : Nat) (T_ : Nat → Prop) (S0_ : sm_S) (hI_ : gi S0_) (hd_ : S0_.2.1 6 0 0 = some dd_) (hc_ : S0_.2.1 6 0 1 = some ll_) (hg_ : dgr dd_ F_ S0_) (hs_ : swp dd_ F_ S0_) (hk_ : mkd dd_ F_ S0_ (S0_.2.2.1 59 0)) (h1_ : (F_ : Int) ≤ a1_ ∧ a1_ < S0_.1 3 dd_ 4) (hn_ : S0_.2.2.1 59 0 a1_.toNat = 1) (ht_ : trh (fun x_ => decide (F_ ≤ x_ ∧ S0_.2.2.1 60 0 x_ = 0)) (fun x_ => srp dd_ S0_ (S0_.2.2.1 42 (0 + dd_) x_)) (fun x_ => srp dd_ S0_ (S0_.2.2.1 43 (0 + dd_) x_)) a1_.toNat T_) (hlm_ : ∀ m_ : Nat, (crn (fun x_ => decide (F_ ≤ x_ ∧ S0_.2.2.1 60 0 x_ = 0)) (fun x_ => srp dd_ S0_ (S0_.2.2.1 42 (0 + dd_) x_)) (fun x_ => srp dd_ S0_ (S0_.2.2.1 43 (0 + dd_) x_)) a1_.toNat m_).length ≤ 1000) : sm_T (mt_P sc_) 4 99 (0, [some (.inr (.inr (some (6, 0)))), some (.inl a1_), none, none, none], [], S0_) (fun ro9_ => ∃ u_ S1_, ro9_ = (.inl u_, S1_, 0) ∧ vq_99n a1_ dd_ F_ ll_ T_ S0_ u_ S1_) := by
  have hF_ : ai_fr (sx_W vw_99n) S0_ S0_ := ai_fr_rf
  have g1_ := hg_.1
  have n13_ : 0 ≤ S0_.1 3 dd_ 4 ∧ S0_.1 3 dd_ 4 ≤ 1013 := hI_.1 3 dd_ 4 rfl
  refine sm_T_go 4 (c1 := (6, [some (.inr (.inr (some (6, 0)))), some (.inl a1_), none, none, none], [.inl a1_, .inl 2, .inr (.inr (some (61, 0)))], S0_)) rfl ?_
  refine sm_T_bin (w := 2 * a1_) rfl (bi_mul (by omega) (by omega) (by omega)) ?_ -- pc_ 6
  refine sm_T_nt (u := some (.inl 268435456)) (S1 := S0_) rfl rfl rfl ?_
  refine sm_T_iast (n := 2026) rfl rfl (by omega) (by omega) ?_
  have hIx1_ : gi (sm_aI S0_ 61 0 (2 * a1_).toNat 268435456) := gi_aI hI_ (show 0 ≤ 268435456 ∧ 268435456 ≤ 268435456 from ⟨by omega, by omega⟩)
  have hFx2_ : ai_fr (sx_W vw_99n) S0_ (sm_aI S0_ 61 0 (2 * a1_).toNat 268435456) := ai_fr_tr hF_ (ai_fr_aI rfl)
  refine sm_T_go 4 (c1 := (16, [some (.inr (.inr (some (6, 0)))), some (.inl a1_), none, none, none], [.inl a1_, .inl 2, .inr (.inr (some (61, 0)))], sm_aI S0_ 61 0 (2 * a1_).toNat 268435456)) rfl ?_
  refine sm_T_bin (w := 2 * a1_) rfl (bi_mul (by omega) (by omega) (by omega)) ?_ -- pc_ 16
  refine sm_T_go 1 (c1 := (18, [some (.inr (.inr (some (6, 0)))), some (.inl a1_), none, none, none], [.inl 1, .inl (2 * a1_), .inr (.inr (some (61, 0)))], sm_aI S0_ 61 0 (2 * a1_).toNat 268435456)) rfl ?_
  refine sm_T_bin (w := 2 * a1_ + 1) rfl (bi_add (by omega) (by omega) (by omega)) ?_ -- pc_ 18
  refine sm_T_nt (u := some (.inl 268435456)) (S1 := sm_aI S0_ 61 0 (2 * a1_).toNat 268435456) rfl rfl rfl ?_
  refine sm_T_iast (n := 2026) rfl rfl (by omega) (by omega) ?_
  have hIx3_ : gi (sm_aI (sm_aI S0_ 61 0 (2 * a1_).toNat 268435456) 61 0 (2 * a1_ + 1).toNat 268435456) := gi_aI hIx1_ (show 0 ≤ 268435456 ∧ 268435456 ≤ 268435456 from ⟨by omega, by omega⟩)
  have hFx4_ : ai_fr (sx_W vw_99n) S0_ (sm_aI (sm_aI S0_ 61 0 (2 * a1_).toNat 268435456) 61 0 (2 * a1_ + 1).toNat 268435456) := ai_fr_tr hFx2_ (ai_fr_aI rfl)
  refine sm_T_go 4 (c1 := (28, [some (.inr (.inr (some (6, 0)))), some (.inl a1_), none, none, none], [.inl a1_, .inl 2, .inr (.inr (some (62, 0)))], sm_aI (sm_aI S0_ 61 0 (2 * a1_).toNat 268435456) 61 0 (2 * a1_ + 1).toNat 268435456)) rfl ?_
  refine sm_T_bin (w := 2 * a1_) rfl (bi_mul (by omega) (by omega) (by omega)) ?_ -- pc_ 28
  refine sm_T_go 1 (c1 := (30, [some (.inr (.inr (some (6, 0)))), some (.inl a1_), none, none, none], [.inl (-1), .inl (2 * a1_), .inr (.inr (some (62, 0)))], sm_aI (sm_aI S0_ 61 0 (2 * a1_).toNat 268435456) 61 0 (2 * a1_ + 1).toNat 268435456)) rfl ?_
  refine sm_T_iast (n := 2026) rfl rfl (by omega) (by omega) ?_
  have hIx5_ : gi (sm_aI (sm_aI (sm_aI S0_ 61 0 (2 * a1_).toNat 268435456) 61 0 (2 * a1_ + 1).toNat 268435456) 62 0 (2 * a1_).toNat (-1)) := gi_aI hIx3_ (show (-2) ≤ (-1) ∧ (-1) ≤ 11 from ⟨by omega, by omega⟩)
  have hFx6_ : ai_fr (sx_W vw_99n) S0_ (sm_aI (sm_aI (sm_aI S0_ 61 0 (2 * a1_).toNat 268435456) 61 0 (2 * a1_ + 1).toNat 268435456) 62 0 (2 * a1_).toNat (-1)) := ai_fr_tr hFx4_ (ai_fr_aI rfl)
  refine sm_T_go 4 (c1 := (37, [some (.inr (.inr (some (6, 0)))), some (.inl a1_), none, none, none], [.inl a1_, .inl 2, .inr (.inr (some (62, 0)))], sm_aI (sm_aI (sm_aI S0_ 61 0 (2 * a1_).toNat 268435456) 61 0 (2 * a1_ + 1).toNat 268435456) 62 0 (2 * a1_).toNat (-1))) rfl ?_
  refine sm_T_bin (w := 2 * a1_) rfl (bi_mul (by omega) (by omega) (by omega)) ?_ -- pc_ 37
  refine sm_T_go 1 (c1 := (39, [some (.inr (.inr (some (6, 0)))), some (.inl a1_), none, none, none], [.inl 1, .inl (2 * a1_), .inr (.inr (some (62, 0)))], sm_aI (sm_aI (sm_aI S0_ 61 0 (2 * a1_).toNat 268435456) 61 0 (2 * a1_ + 1).toNat 268435456) 62 0 (2 * a1_).toNat (-1))) rfl ?_
  refine sm_T_bin (w := 2 * a1_ + 1) rfl (bi_add (by omega) (by omega) (by omega)) ?_ -- pc_ 39
  refine sm_T_go 1 (c1 := (41, [some (.inr (.inr (some (6, 0)))), some (.inl a1_), none, none, none], [.inl (-1), .inl (2 * a1_ + 1), .inr (.inr (some (62, 0)))], sm_aI (sm_aI (sm_aI S0_ 61 0 (2 * a1_).toNat 268435456) 61 0 (2 * a1_ + 1).toNat 268435456) 62 0 (2 * a1_).toNat (-1))) rfl ?_
  refine sm_T_iast (n := 2026) rfl rfl (by omega) (by omega) ?_
  have hIx7_ : gi (sm_aI (sm_aI (sm_aI (sm_aI S0_ 61 0 (2 * a1_).toNat 268435456) 61 0 (2 * a1_ + 1).toNat 268435456) 62 0 (2 * a1_).toNat (-1)) 62 0 (2 * a1_ + 1).toNat (-1)) := gi_aI hIx5_ (show (-2) ≤ (-1) ∧ (-1) ≤ 11 from ⟨by omega, by omega⟩)
  have hFx8_ : ai_fr (sx_W vw_99n) S0_ (sm_aI (sm_aI (sm_aI (sm_aI S0_ 61 0 (2 * a1_).toNat 268435456) 61 0 (2 * a1_ + 1).toNat 268435456) 62 0 (2 * a1_).toNat (-1)) 62 0 (2 * a1_ + 1).toNat (-1)) := ai_fr_tr hFx6_ (ai_fr_aI rfl)
  refine sm_T_go 2 (c1 := (44, [some (.inr (.inr (some (6, 0)))), some (.inl a1_), none, none, none], [.inl a1_, .inr (.inr (some (6, 0)))], sm_aI (sm_aI (sm_aI (sm_aI S0_ 61 0 (2 * a1_).toNat 268435456) 61 0 (2 * a1_ + 1).toNat 268435456) 62 0 (2 * a1_).toNat (-1)) 62 0 (2 * a1_ + 1).toNat (-1))) rfl ?_
  refine sm_T_cal (d1 := 2) (Q1 := vq_100n a1_ dd_ F_ (sm_aI (sm_aI (sm_aI (sm_aI S0_ 61 0 (2 * a1_).toNat 268435456) 61 0 (2 * a1_ + 1).toNat 268435456) 62 0 (2 * a1_).toNat (-1)) 62 0 (2 * a1_ + 1).toNat (-1))) rfl rfl (by decide) (vc_100n a1_ dd_ F_ (sm_aI (sm_aI (sm_aI (sm_aI S0_ 61 0 (2 * a1_).toNat 268435456) 61 0 (2 * a1_ + 1).toNat 268435456) 62 0 (2 * a1_).toNat (-1)) 62 0 (2 * a1_ + 1).toNat (-1)) hIx7_ (by exact hd_) (by exact dgr_fr hg_ hFx8_ rfl rfl rfl rfl rfl) (by exact swp_fr hs_ hFx8_ rfl rfl rfl rfl) (by exact mkd_fr hk_ hFx8_) (by exact h1_) (by exact hn_) (by (intro m9_; rw [fr_arr (t := 60) (i := 0) hFx8_ rfl, fr_arr (t := 42) (i := 0 + dd_) hFx8_ rfl, fr_arr (t := 43) (i := 0 + dd_) hFx8_ rfl, show srp dd_ (sm_aI (sm_aI (sm_aI (sm_aI S0_ 61 0 (2 * a1_).toNat 268435456) 61 0 (2 * a1_ + 1).toNat 268435456) 62 0 (2 * a1_).toNat (-1)) 62 0 (2 * a1_ + 1).toNat (-1)) = srp dd_ S0_ from by (funext l9_; unfold srp; rw [fr_arr (t := 44) (i := 0 + dd_) hFx8_ rfl])]; exact hlm_ m9_))) (fun u_ Sx9_ px12_ => ?_)
  obtain ⟨rfl, hIx10_, hFx11_, px12_⟩ := px12_
  have hFx13_ : ai_fr (sx_W vw_99n) S0_ Sx9_ := ai_fr_tr hFx8_ (fr_le hFx11_ rfl)
  have c44_ := (px12_).1
  have x60_ := (fr_arr (t := 60) (i := 0) hFx11_ rfl).symm.trans (fr_arr (t := 60) (i := 0) hFx13_ rfl)
  have x42_ := (fr_arr (t := 42) (i := 0 + dd_) hFx11_ rfl).symm.trans (fr_arr (t := 42) (i := 0 + dd_) hFx13_ rfl)
  have x43_ := (fr_arr (t := 43) (i := 0 + dd_) hFx11_ rfl).symm.trans (fr_arr (t := 43) (i := 0 + dd_) hFx13_ rfl)
  have xs : srp dd_ (sm_aI (sm_aI (sm_aI (sm_aI S0_ 61 0 (2 * a1_).toNat 268435456) 61 0 (2 * a1_ + 1).toNat 268435456) 62 0 (2 * a1_).toNat (-1)) 62 0 (2 * a1_ + 1).toNat (-1)) = srp dd_ S0_ := by (funext l9_; unfold srp; rw [(fr_arr (t := 44) (i := 0 + dd_) hFx11_ rfl).symm.trans (fr_arr (t := 44) (i := 0 + dd_) hFx13_ rfl)])
  obtain ⟨m9_, hcb9_, hml9_⟩ := (px12_).2
  rw [x60_, xs, x42_, x43_] at hcb9_ hml9_
  have z44_ : wrc ll_ Sx9_ (2 * a1_).toNat ((268435456, -1, 0, fun _ => 0)) := ⟨by (rw [(hFx11_.2.2 61 rfl 0 _).1, rd_ne (by decide), rd_ne (by decide), rd_eq, if_neg (by omega), rd_eq, if_pos rfl]), Or.inl ⟨rfl, by (rw [(hFx11_.2.2 62 rfl 0 _).1, rd_eq, if_neg (by omega), rd_eq, if_pos rfl])⟩⟩
  have k44_ : wrc ll_ Sx9_ (2 * a1_ + 1).toNat ((268435456, -1, 0, fun _ => 0)) := ⟨by (rw [(hFx11_.2.2 61 rfl 0 _).1, rd_ne (by decide), rd_ne (by decide), rd_eq, if_pos rfl]), Or.inl ⟨rfl, by (rw [(hFx11_.2.2 62 rfl 0 _).1, rd_eq, if_pos rfl])⟩⟩
  have y44_ := hFx13_
  have A44_ : ∀ j9_, Sx9_.2.2.1 61 0 j9_ = if j9_ = (2 * a1_ + 1).toNat then 268435456 else if j9_ = (2 * a1_).toNat then 268435456 else S0_.2.2.1 61 0 j9_ := fun j9_ => by (rw [(hFx11_.2.2 61 rfl 0 j9_).1, rd_ne (by decide), rd_ne (by decide), rd_eq, rd_eq])
  have B44_ : ∀ j9_, Sx9_.2.2.1 62 0 j9_ = if j9_ = (2 * a1_ + 1).toNat then -1 else if j9_ = (2 * a1_).toNat then -1 else S0_.2.2.1 62 0 j9_ := fun j9_ => by (rw [(hFx11_.2.2 62 rfl 0 j9_).1, rd_eq, rd_eq, rd_ne (by decide), rd_ne (by decide)])
  have D44_ : ∀ j9_, Sx9_.2.2.1 63 0 j9_ = S0_.2.2.1 63 0 j9_ := fun j9_ => by (rw [(hFx11_.2.2 63 rfl 0 j9_).1, rd_ne (by decide), rd_ne (by decide), rd_ne (by decide), rd_ne (by decide)])
  have E44_ : ∀ j9_, Sx9_.2.2.1 64 0 j9_ = S0_.2.2.1 64 0 j9_ := fun j9_ => by (rw [(hFx11_.2.2 64 rfl 0 j9_).1, rd_ne (by decide), rd_ne (by decide), rd_ne (by decide), rd_ne (by decide)])
  have u44_ : wo3 (1 + S0_.1 3 dd_ 1 + S0_.1 3 dd_ 2) a1_ ll_ Sx9_ (2 * a1_).toNat := Or.inl ⟨by rw [B44_, if_neg (by omega), if_pos rfl], by rw [A44_, if_neg (by omega), if_pos rfl]⟩
  have v44_ : wo3 (1 + S0_.1 3 dd_ 1 + S0_.1 3 dd_ 2) a1_ ll_ Sx9_ (2 * a1_ + 1).toNat := Or.inl ⟨by rw [B44_, if_pos rfl], by rw [A44_, if_pos rfl]⟩
  have w44_ : wfn a1_.toNat S0_ Sx9_ := ⟨fun j9_ p9_ q9_ => ⟨by rw [A44_, if_neg (by omega), if_neg (by omega)], by rw [B44_, if_neg (by omega), if_neg (by omega)], D44_ j9_⟩, fun j9_ _ => E44_ j9_⟩
  refine sm_T_go 1 (c1 := (48, [some (.inr (.inr (some (6, 0)))), some (.inl a1_), none, none, none], [.inr (.inr (some (6, 0)))], Sx9_)) rfl ?_
  refine sm_T_cal (d1 := 1) (Q1 := vq_103n  Sx9_) rfl rfl (by decide) (vc_103n  Sx9_ hIx10_ (by exact cbl_d hcb9_ (crn_d m9_))) (fun u_ Sx14_ px17_ => ?_)
  obtain ⟨rfl, hIx15_, hFx16_, px17_⟩ := px17_
  have hFx18_ : ai_fr (sx_W vw_99n) S0_ Sx14_ := ai_fr_tr hFx13_ (fr_le hFx16_ rfl)
  obtain ⟨O9_, ho9_⟩ := px17_
  have n48_ : (Sx9_.1 6 0 11).toNat = (crn (fun x_ => decide (F_ ≤ x_ ∧ S0_.2.2.1 60 0 x_ = 0)) (fun x_ => srp dd_ S0_ (S0_.2.2.1 42 (0 + dd_) x_)) (fun x_ => srp dd_ S0_ (S0_.2.2.1 43 (0 + dd_) x_)) a1_.toNat m9_).length := by (have z9_ := hcb9_.1; omega)
  rw [n48_] at ho9_
  have o48_ : ∀ i_ : Nat, (i_ : Int) < Sx9_.1 6 0 11 → Sx14_.2.2.1 66 0 i_ < Sx9_.1 6 0 11 := fun i_ q9_ => by (have z9_ := cor_g ho9_ (j_ := i_) (by omega); rw [z9_.2.2]; omega)
  have s48_ : cvs Sx14_ = cvs Sx9_ := by (funext i9_ k9_; unfold cvs; rw [fr_arr (t := 65) (i := 0) hFx16_ rfl])
  have f48_ : fwi (crn (fun x_ => decide (F_ ≤ x_ ∧ S0_.2.2.1 60 0 x_ = 0)) (fun x_ => srp dd_ S0_ (S0_.2.2.1 42 (0 + dd_) x_)) (fun x_ => srp dd_ S0_ (S0_.2.2.1 43 (0 + dd_) x_)) a1_.toNat m9_) (tbo (fun x_ => srp dd_ S0_ (S0_.2.2.1 42 (0 + dd_) x_)) (fun x_ => srp dd_ S0_ (S0_.2.2.1 43 (0 + dd_) x_)) (fun x_ => slt dd_ S0_ (S0_.2.2.1 42 (0 + dd_) x_) % 2) (fun x_ => slt dd_ S0_ (S0_.2.2.1 43 (0 + dd_) x_) % 2) T_ a1_.toNat) m9_ Sx14_ O9_ (fun _ => 0) 0 := ⟨⟨cbl_fr hcb9_ hFx16_, hml9_⟩, by (rw [s48_]; exact ho9_), fun i9_ c9_ u9_ _ => by (exfalso; omega)⟩
  have r48_ := wrc_fr z44_ hFx16_
  have q48_ := wrc_fr k44_ hFx16_
  have k48_ := hFx16_.1 6 0 11 rfl
  have u48_ := wo3_fr u44_ hFx16_
  have v48_ := wo3_fr v44_ hFx16_
  have w48_ := wfn_tr w44_ (wfn_fr (n_ := a1_.toNat) hFx16_)
  have c48_ : mcs (npd a1_ (S0_.2.2.1 59 0)) Sx14_ := mcs_fr c44_ hFx16_
  refine sm_T_go 2 (c1 := (53, [some (.inr (.inr (some (6, 0)))), some (.inl a1_), some (.inl 0), none, none], [], Sx14_)) rfl ?_
  refine (vl_99n a1_ dd_ F_ ll_ T_ S0_ hd_ hc_ hg_ hs_ hk_ h1_ hn_ ht_ hlm_ _).1 0 Sx14_ hIx15_ hFx18_ ⟨?_, ?_, ?_, ?_, ?_, ?_, ?_, trivial⟩ (Nat.lt_succ_self _)
  · omega
  · exact ⟨m9_, O9_, _, f48_, r48_, q48_⟩
  · exact u48_
  · exact v48_
  · exact w48_
  · exact c48_
  · (intro i_ q9_; rw [k48_] at q9_ ⊢; exact o48_ i_ q9_)
end
/-! 99.ztZV -/
section
/-! ways of a literal: the reference; written by wip/p55/gen/vg -/

/-! the_ ways of_ a_ literal, the_ reference -/
def wrr (S_ : sm_S) (w_ : Nat) (b_ : Int × Int × Int × (Nat → Int)) : Prop := S_.2.2.1 206 0 w_ = b_.1 ∧ (b_.1 = 1000000000 ∨ (b_.1 < 1000000000 ∧ S_.2.2.1 207 0 w_ = b_.2.1 ∧ S_.2.2.1 209 0 w_ = b_.2.2.1 ∧ ∀ k_ : Nat, (k_ : Int) < S_.2.2.1 185 0 (12 * S_.1 13 0 106 + b_.2.1).toNat → S_.2.2.1 208 0 (3 * w_ + k_) = b_.2.2.2 k_))
def adr (a_ b_ : Int) : Int := a_ + b_
def pcq (F_ : Int) (S_ : sm_S) (x_ t_ : Int) : Int := cst F_ S_ x_ t_
def tbr (t_ : Nat) (x_ : Int) : Int := if t_ = 0 then x_ else i_xor x_ 255
theorem wrr_o {w_ : Nat} {S_ S'_ : sm_S} {b_ : Int × Int × Int × (Nat → Int)} (h_ : wrr S_ w_ b_) (e1_ : S'_.2.2.1 206 0 w_ = S_.2.2.1 206 0 w_) (e2_ : S'_.2.2.1 207 0 w_ = S_.2.2.1 207 0 w_) (e3_ : S'_.2.2.1 209 0 w_ = S_.2.2.1 209 0 w_) (e4_ : ∀ k_, k_ < 3 → S'_.2.2.1 208 0 (3 * w_ + k_) = S_.2.2.1 208 0 (3 * w_ + k_)) (e5_ : S'_.2.2.1 185 0 = S_.2.2.1 185 0) (e6_ : S'_.1 13 0 106 = S_.1 13 0 106) (c85_ : ∀ k_, S_.2.2.1 185 0 k_ ≤ 3) : wrr S'_ w_ b_ := by
  unfold wrr at *
  rw [e1_, e2_, e3_, e5_, e6_]
  refine ⟨h_.1, ?_⟩
  rcases h_.2 with g_ | g_
  · exact Or.inl g_
  · refine Or.inr ⟨g_.1, g_.2.1, g_.2.2.1, fun k_ hk_ => ?_⟩
    have q_ := c85_ (12 * S_.1 13 0 106 + b_.2.1).toNat
    rw [e4_ k_ (by omega)]
    exact g_.2.2.2 k_ hk_
theorem wrr_f {w_ v_ : Int} {S_ S'_ : sm_S} {b_ : Int × Int × Int × (Nat → Int)} (h_ : wrr S_ w_.toNat b_) (g_ : wfr v_ S_ S'_) (ne : w_.toNat ≠ v_.toNat) (e5_ : S'_.2.2.1 185 0 = S_.2.2.1 185 0) (e6_ : S'_.1 13 0 106 = S_.1 13 0 106) (c85_ : ∀ k_, S_.2.2.1 185 0 k_ ≤ 3) : wrr S'_ w_.toNat b_ := wrr_o h_ (g_.1 _ ne).1 (g_.1 _ ne).2.1 (g_.1 _ ne).2.2 (fun k_ hk_ => g_.2 _ (by omega)) e5_ e6_ c85_
theorem wrr_fr {u_ : sx_Wl} {w_ : Nat} {S_ S'_ : sm_S} {b_ : Int × Int × Int × (Nat → Int)} (h_ : wrr S_ w_ b_) (g_ : ai_fr (sx_W u_) S_ S'_) (a1_ : (sx_W u_).2.1 206 = false := by rfl) (a2_ : (sx_W u_).2.1 207 = false := by rfl) (a3_ : (sx_W u_).2.1 208 = false := by rfl) (a4_ : (sx_W u_).2.1 209 = false := by rfl) (a5_ : (sx_W u_).2.1 185 = false := by rfl) (a6_ : (sx_W u_).1 13 106 = false := by rfl) : wrr S'_ w_ b_ := by
  unfold wrr at *
  rw [fr_arr (t := 206) g_ a1_, fr_arr (t := 207) g_ a2_, fr_arr (t := 208) g_ a3_, fr_arr (t := 209) g_ a4_, fr_arr (t := 185) g_ a5_, g_.1 13 0 106 a6_]
  exact h_
theorem wfr_rf {w_ : Int} {S_ : sm_S} : wfr w_ S_ S_ := ⟨fun _ _ => ⟨rfl, rfl, rfl⟩, fun _ _ => rfl⟩
theorem cdn_r {dl_ : List Nat} {V_ : Nat → Int} {cu_ o_ k_ sz_ : Int} {vv_ : Nat} (hl_ : 2 ≤ dl_.length ∧ dl_.length ≤ 3) (hsz_ : sz_ = (dl_.length : Int)) (hcv_ : ∀ k_ x_ : Nat, dl_[k_]? = some x_ → V_ (3 * cu_.toNat + k_) = (x_ : Int)) (h0_ : 0 ≤ cu_) (ho_ : o_ = ((vv_ / 2 ^ dl_.length : Nat) : Int)) (h5_ : vv_ / 2 ^ dl_.length ≤ 5) (hk_ : 0 ≤ k_ ∧ k_ < sz_) : cdn dl_ dl_.length (vv_ / 2 ^ dl_.length) k_.toNat = V_ (3 * cu_ + iat sz_ o_ k_).toNat := by
  have o0_ : 0 ≤ o_ := by
    rw [ho_]
    first | exact Int.natCast_nonneg _ | exact Int.ofNat_nonneg _ | exact Int.ofNat_zero_le _
  have b_ := iat_b (sz_ := sz_) (o_ := o_) (k_ := k_) (by omega) (by omega) (by omega)
  unfold cdn
  rw [show ((k_.toNat : Nat) : Int) = k_ by omega, ← ho_, ← hsz_]
  obtain ⟨x_, hx_⟩ : ∃ x_, dl_[(iat sz_ o_ k_).toNat]? = some x_ := ⟨_, List.getElem?_eq_getElem (by omega)⟩
  unfold cva
  rw [hx_]
  show (x_ : Int) = _
  rw [← hcv_ _ _ hx_, show 3 * cu_.toNat + (iat sz_ o_ k_).toNat = (3 * cu_ + iat sz_ o_ k_).toNat by omega]
theorem tn_r {vv_ ip_ : Nat} {k_ : Int} (hip_ : ip_ = 2 ∨ ip_ = 3) (hk_ : 0 ≤ k_ ∧ k_ < (ip_ : Int)) : i_shr ((vv_ % 2 ^ ip_ : Nat) : Int) k_ % 2 = ((vv_ / 2 ^ k_.toNat % 2 : Nat) : Int) := by
  have m_ : vv_ % 2 ^ ip_ < 8 := by
    rcases hip_ with e_ | e_
    · rw [e_]
      show vv_ % 4 < 8
      omega
    · rw [e_]
      show vv_ % 8 < 8
      omega
  rw [i_shrv hk_.1 (by omega) (by omega)]
  have c_ : k_ = 0 ∨ k_ = 1 ∨ k_ = 2 := by omega
  rcases hip_ with e_ | e_
  · rcases c_ with c_ | c_ | c_
    · rw [c_, e_]
      show ((vv_ % 4 : Nat) : Int) / 1 % 2 = ((vv_ / 1 % 2 : Nat) : Int)
      omega
    · rw [c_, e_]
      show ((vv_ % 4 : Nat) : Int) / 2 % 2 = ((vv_ / 2 % 2 : Nat) : Int)
      omega
    · exfalso
      omega
  · rcases c_ with c_ | c_ | c_
    · rw [c_, e_]
      show ((vv_ % 8 : Nat) : Int) / 1 % 2 = ((vv_ / 1 % 2 : Nat) : Int)
      omega
    · rw [c_, e_]
      show ((vv_ % 8 : Nat) : Int) / 2 % 2 = ((vv_ / 2 % 2 : Nat) : Int)
      omega
    · rw [c_, e_]
      show ((vv_ % 8 : Nat) : Int) / 4 % 2 = ((vv_ / 4 % 2 : Nat) : Int)
      omega
theorem vv_d {o_ tu_ ip_ : Nat} (hip_ : ip_ = 2 ∨ ip_ = 3) (h_ : tu_ < 2 ^ ip_) : (o_ * 2 ^ ip_ + tu_) / 2 ^ ip_ = o_ ∧ (o_ * 2 ^ ip_ + tu_) % 2 ^ ip_ = tu_ := by
  rcases hip_ with e_ | e_
  · rw [e_] at h_ ⊢
    have h_ : tu_ < 4 := h_
    show (o_ * 4 + tu_) / 4 = o_ ∧ (o_ * 4 + tu_) % 4 = tu_
    omega
  · rw [e_] at h_ ⊢
    have h_ : tu_ < 8 := h_
    show (o_ * 8 + tu_) / 8 = o_ ∧ (o_ * 8 + tu_) % 8 = tu_
    omega
theorem vv_w {o_ tu_ ip_ : Nat} (hip_ : ip_ = 2 ∨ ip_ = 3) (h_ : tu_ < 2 ^ ip_) (ho_ : (ip_ = 2 ∧ o_ ≤ 1) ∨ (ip_ = 3 ∧ o_ ≤ 5)) : o_ * 2 ^ ip_ + tu_ < wic ip_ := by
  unfold wic
  rcases hip_ with e_ | e_
  · rw [e_] at h_ ⊢
    have h_ : tu_ < 4 := h_
    rw [if_pos rfl]
    show o_ * 4 + tu_ < 8
    omega
  · rw [e_] at h_ ⊢
    have h_ : tu_ < 8 := h_
    rw [if_neg (by decide)]
    show o_ * 8 + tu_ < 48
    omega
theorem vv_s {o_ ip_ : Nat} (hip_ : ip_ = 2 ∨ ip_ = 3) : o_ * 2 ^ ip_ + 2 ^ ip_ = (o_ + 1) * 2 ^ ip_ := by
  rw [Nat.add_mul, Nat.one_mul]
theorem vv_e {o_ ip_ : Nat} (h_ : (ip_ = 2 ∧ o_ = 2) ∨ (ip_ = 3 ∧ o_ = 6)) : o_ * 2 ^ ip_ = wic ip_ := by
  unfold wic
  rcases h_ with ⟨e_, f_⟩ | ⟨e_, f_⟩ <;> rw [e_, f_] <;> decide
theorem p2_i {ip_ : Nat} (hip_ : ip_ = 2 ∨ ip_ = 3) : i_shl 1 (ip_ : Int) = ((2 ^ ip_ : Nat) : Int) := by
  rcases hip_ with e_ | e_ <;> rw [e_] <;> decide
/-! M_.cellOver -/
def vw_405n : sx_Wl := ([], [], [])
def vq_405n (fn_ : Int) (sz_ : Int) (or9_ : Int) (tu_ : Int) (S0_ : sm_S) (u_ : Option sm_V) (S1_ : sm_S) : Prop := S0_ = S1_ ∧ ∃ v_ : Int, u_ = some (.inl v_) ∧ ((-2147483648 ≤ v_ ∧ v_ ≤ 2147483647) ∧ v_ = tbv (fun s_ => decide (i_shr fn_ (rst sz_ or9_ tu_ (s_ : Int) sz_.toNat) % 2 = 1)) 8)
set_option maxHeartbeats 400000 in
set_option maxRecDepth 20000 in
theorem vl_405n {sc_ : Nat × (Nat → Int)} (fn_ : Int) (sz_ : Int) (or9_ : Int) (tu_ : Int) (S0_ : sm_S) (hs_ : 1 ≤ sz_ ∧ sz_ ≤ 3 ∧ 0 ≤ or9_ ∧ or9_ ≤ 5) : ∀ nn_ : Nat, (∀ (to_ : Int) (v9_ : Int) (S_ : sm_S), gi S_ → ai_fr (sx_W vw_405n) S0_ S_ → ((0 ≤ v9_ ∧ v9_ ≤ 8 ∧ -2147483648 ≤ to_ ∧ to_ ≤ 2147483647) ∧ (to_ = tbv (fun s_ => decide (i_shr fn_ (rst sz_ or9_ tu_ (s_ : Int) sz_.toNat) % 2 = 1)) v9_.toNat) ∧ (S_ = S0_) ∧ True) → ((10 * (100 - v9_) + 9).toNat) < nn_ → sm_T (mt_P sc_) 1 405 (6, [some (.inl fn_), some (.inl sz_), some (.inl or9_), some (.inl tu_), some (.inl to_), some (.inl v9_), none, none], [], S_) (fun ro9_ => ∃ u_ S1_, ro9_ = (.inl u_, S1_, 0) ∧ vq_405n fn_ sz_ or9_ tu_ S0_ u_ S1_)) ∧ (∀ (to_ : Int) (v9_ : Int) (s_ : Int) (k_ : Int) (S_ : sm_S), gi S_ → ai_fr (sx_W vw_405n) S0_ S_ → ((0 ≤ v9_ ∧ v9_ < 8 ∧ -2147483648 ≤ to_ ∧ to_ ≤ 2147483647 ∧ 0 ≤ k_ ∧ k_ ≤ 3 ∧ k_ ≤ sz_) ∧ (to_ = tbv (fun s_ => decide (i_shr fn_ (rst sz_ or9_ tu_ (s_ : Int) sz_.toNat) % 2 = 1)) v9_.toNat) ∧ (s_ = rst sz_ or9_ tu_ v9_ k_.toNat) ∧ (S_ = S0_) ∧ True) → ((10 * (100 - v9_) + 5 - k_).toNat) < nn_ → sm_T (mt_P sc_) 1 405 (19, [some (.inl fn_), some (.inl sz_), some (.inl or9_), some (.inl tu_), some (.inl to_), some (.inl v9_), some (.inl s_), some (.inl k_)], [], S_) (fun ro9_ => ∃ u_ S1_, ro9_ = (.inl u_, S1_, 0) ∧ vq_405n fn_ sz_ or9_ tu_ S0_ u_ S1_)) := by
  intro nn_
  induction nn_ with
  | zero => exact ⟨fun _ _ _ _ _ _ h_ => absurd h_ (Nat.not_lt_zero _), fun _ _ _ _ _ _ _ _ h_ => absurd h_ (Nat.not_lt_zero _)⟩
  | succ nn_ ih_ =>
    refine ⟨?_, ?_⟩
    · rintro to_ v9_ S_ hI_ hF_ ⟨h0_, hto_, hS_, -⟩ hm_
      refine sm_T_go 2 (c1 := (10, [some (.inl fn_), some (.inl sz_), some (.inl or9_), some (.inl tu_), some (.inl to_), some (.inl v9_), none, none], [.inl 8, .inl v9_], S_)) rfl ?_
      refine sm_T_br (a := 3) (z := 66) rfl (fun cx1_ => ?_) (fun cx1_ => ?_)
      · have cx1_ : 8 ≤ v9_ := of_decide_eq_true cx1_
        refine sm_T_go 1 (c1 := (78, [some (.inl fn_), some (.inl sz_), some (.inl or9_), some (.inl tu_), some (.inl to_), some (.inl v9_), none, none], [.inl to_], S_)) rfl ?_
        refine sm_T_ri rfl ⟨_, _, rfl, (by first | rfl | exact hS_.symm), _, rfl, ?_⟩
        refine ⟨by omega, ?_⟩
        rw [hto_, show v9_.toNat = 8 by omega]
      · have cx1_ : ¬ (8 ≤ v9_) := of_decide_eq_false cx1_
        refine sm_T_go 4 (c1 := (19, [some (.inl fn_), some (.inl sz_), some (.inl or9_), some (.inl tu_), some (.inl to_), some (.inl v9_), some (.inl 0), some (.inl 0)], [], S_)) rfl ?_
        refine ih_.2 to_ v9_ 0 0 S_ hI_ hF_ ⟨?_, ?_, ?_, ?_, trivial⟩ ?_
        · omega
        · exact hto_
        · rfl
        · first | rfl | exact hS_
        · omega
    · rintro to_ v9_ s_ k_ S_ hI_ hF_ ⟨h0_, hto_, hst_, hS_, -⟩ hm_
      refine sm_T_go 2 (c1 := (22, [some (.inl fn_), some (.inl sz_), some (.inl or9_), some (.inl tu_), some (.inl to_), some (.inl v9_), some (.inl s_), some (.inl k_)], [.inl sz_, .inl k_], S_)) rfl ?_
      refine sm_T_br (a := 3) (z := 34) rfl (fun cx1_ => ?_) (fun cx1_ => ?_)
      · have cx1_ : sz_ ≤ k_ := of_decide_eq_true cx1_
        refine sm_T_go 3 (c1 := (61, [some (.inl fn_), some (.inl sz_), some (.inl or9_), some (.inl tu_), some (.inl to_), some (.inl v9_), some (.inl s_), some (.inl k_)], [.inl s_, .inl fn_, .inl to_], S_)) rfl ?_
        refine sm_T_bin (w := (i_shr fn_ s_)) rfl rfl ?_ -- pc_ 61
        have bx2_ := i_shr_n fn_ s_
        refine sm_T_go 1 (c1 := (63, [some (.inl fn_), some (.inl sz_), some (.inl or9_), some (.inl tu_), some (.inl to_), some (.inl v9_), some (.inl s_), some (.inl k_)], [.inl 1, .inl (i_shr fn_ s_), .inl to_], S_)) rfl ?_
        refine sm_T_bin (w := ((i_shr fn_ s_) % 2)) rfl (bi_msk (k := 1) (by decide)) ?_ -- pc_ 63
        refine sm_T_go 1 (c1 := (66, [some (.inl fn_), some (.inl sz_), some (.inl or9_), some (.inl tu_), some (.inl to_), some (.inl v9_), some (.inl s_), some (.inl k_)], [.inl v9_, .inl ((i_shr fn_ s_) % 2), .inl to_], S_)) rfl ?_
        refine sm_T_bin (w := (i_shl ((i_shr fn_ s_) % 2) v9_)) rfl rfl ?_ -- pc_ 66
        have bx3_ := i_shl_n ((i_shr fn_ s_) % 2) v9_
        refine sm_T_bin (w := (i_or to_ (i_shl ((i_shr fn_ s_) % 2) v9_))) rfl rfl ?_ -- pc_ 67
        have bx4_ := i_or_n to_ (i_shl ((i_shr fn_ s_) % 2) v9_)
        refine sm_T_go 1 (c1 := (70, [some (.inl fn_), some (.inl sz_), some (.inl or9_), some (.inl tu_), some (.inl (i_or to_ (i_shl ((i_shr fn_ s_) % 2) v9_))), some (.inl v9_), some (.inl s_), some (.inl k_)], [], S_)) rfl ?_
        refine sm_T_inc (a := 5) (z := 1) (v := v9_) (w := v9_ + 1) rfl rfl (by omega) (by omega) (by omega) ?_ -- pc_ 70
        refine sm_T_go 1 (c1 := (6, [some (.inl fn_), some (.inl sz_), some (.inl or9_), some (.inl tu_), some (.inl (i_or to_ (i_shl ((i_shr fn_ s_) % 2) v9_))), some (.inl (v9_ + 1)), some (.inl s_), some (.inl k_)], [], S_)) rfl ?_
        refine sm_T_wk [some (.inl fn_), some (.inl sz_), some (.inl or9_), some (.inl tu_), some (.inl (i_or to_ (i_shl ((i_shr fn_ s_) % 2) v9_))), some (.inl (v9_ + 1)), none, none] (by exact ⟨rfl, rfl, rfl, rfl, rfl, rfl, trivial⟩) ?_
        refine ih_.1 (i_or to_ (i_shl ((i_shr fn_ s_) % 2) v9_)) (v9_ + 1) S_ hI_ hF_ ⟨?_, ?_, ?_, trivial⟩ ?_
        · omega
        · rw [show (v9_ + 1).toNat = v9_.toNat + 1 by omega]
          have z9_ : s_ = rst sz_ or9_ tu_ ((v9_.toNat : Nat) : Int) sz_.toNat := by (rw [hst_, show ((v9_.toNat : Nat) : Int) = v9_ by omega, show k_.toNat = sz_.toNat by omega])
          have y9_ := tbv_orb (f_ := fun s_ => decide (i_shr fn_ (rst sz_ or9_ tu_ (s_ : Int) sz_.toNat) % 2 = 1)) (k_ := v9_.toNat) (x_ := i_shr fn_ s_) (by omega) (by (rw [z9_]))
          rw [show ((v9_.toNat : Nat) : Int) = v9_ by omega, ← hto_] at y9_
          exact y9_
        · first | rfl | exact hS_
        · omega
      · have cx1_ : ¬ (sz_ ≤ k_) := of_decide_eq_false cx1_
        refine sm_T_go 5 (c1 := (33, [some (.inl fn_), some (.inl sz_), some (.inl or9_), some (.inl tu_), some (.inl to_), some (.inl v9_), some (.inl s_), some (.inl k_)], [.inl k_, .inl or9_, .inl sz_, .inl v9_, .inl s_], S_)) rfl ?_
        refine sm_T_cal (d1 := 0) (Q1 := vq_403 sz_ or9_ k_ S_) rfl rfl (by decide) (vc_403 sz_ or9_ k_ S_ hI_ (by omega)) (fun u_ Sx5_ px8_ => ?_)
        obtain ⟨rfl, vx10_, rfl, px8_⟩ := px8_
        have e33_ := px8_
        refine sm_T_bin (w := (i_shr v9_ vx10_)) rfl rfl ?_ -- pc_ 36
        have bx11_ := i_shr_n v9_ vx10_
        refine sm_T_go 2 (c1 := (40, [some (.inl fn_), some (.inl sz_), some (.inl or9_), some (.inl tu_), some (.inl to_), some (.inl v9_), some (.inl s_), some (.inl k_)], [.inl k_, .inl tu_, .inl (i_shr v9_ vx10_), .inl s_], S_)) rfl ?_
        refine sm_T_bin (w := (i_shr tu_ k_)) rfl rfl ?_ -- pc_ 40
        have bx12_ := i_shr_n tu_ k_
        refine sm_T_bin (w := (i_xor (i_shr v9_ vx10_) (i_shr tu_ k_))) rfl rfl ?_ -- pc_ 41
        have bx13_ := i_xor_n (i_shr v9_ vx10_) (i_shr tu_ k_)
        refine sm_T_go 1 (c1 := (43, [some (.inl fn_), some (.inl sz_), some (.inl or9_), some (.inl tu_), some (.inl to_), some (.inl v9_), some (.inl s_), some (.inl k_)], [.inl 1, .inl (i_xor (i_shr v9_ vx10_) (i_shr tu_ k_)), .inl s_], S_)) rfl ?_
        refine sm_T_bin (w := ((i_xor (i_shr v9_ vx10_) (i_shr tu_ k_)) % 2)) rfl (bi_msk (k := 1) (by decide)) ?_ -- pc_ 43
        refine sm_T_go 1 (c1 := (46, [some (.inl fn_), some (.inl sz_), some (.inl or9_), some (.inl tu_), some (.inl to_), some (.inl v9_), some (.inl s_), some (.inl k_)], [.inl k_, .inl ((i_xor (i_shr v9_ vx10_) (i_shr tu_ k_)) % 2), .inl s_], S_)) rfl ?_
        refine sm_T_bin (w := (i_shl ((i_xor (i_shr v9_ vx10_) (i_shr tu_ k_)) % 2) k_)) rfl rfl ?_ -- pc_ 46
        have bx14_ := i_shl_n ((i_xor (i_shr v9_ vx10_) (i_shr tu_ k_)) % 2) k_
        refine sm_T_bin (w := (i_or s_ (i_shl ((i_xor (i_shr v9_ vx10_) (i_shr tu_ k_)) % 2) k_))) rfl rfl ?_ -- pc_ 47
        have bx15_ := i_or_n s_ (i_shl ((i_xor (i_shr v9_ vx10_) (i_shr tu_ k_)) % 2) k_)
        refine sm_T_go 1 (c1 := (50, [some (.inl fn_), some (.inl sz_), some (.inl or9_), some (.inl tu_), some (.inl to_), some (.inl v9_), some (.inl (i_or s_ (i_shl ((i_xor (i_shr v9_ vx10_) (i_shr tu_ k_)) % 2) k_))), some (.inl k_)], [], S_)) rfl ?_
        refine sm_T_inc (a := 7) (z := 1) (v := k_) (w := k_ + 1) rfl rfl (by omega) (by omega) (by omega) ?_ -- pc_ 50
        refine sm_T_go 1 (c1 := (19, [some (.inl fn_), some (.inl sz_), some (.inl or9_), some (.inl tu_), some (.inl to_), some (.inl v9_), some (.inl (i_or s_ (i_shl ((i_xor (i_shr v9_ vx10_) (i_shr tu_ k_)) % 2) k_))), some (.inl (k_ + 1))], [], S_)) rfl ?_
        refine ih_.2 to_ v9_ (i_or s_ (i_shl ((i_xor (i_shr v9_ vx10_) (i_shr tu_ k_)) % 2) k_)) (k_ + 1) S_ hI_ hF_ ⟨?_, ?_, ?_, ?_, trivial⟩ ?_
        · omega
        · exact hto_
        · rw [show (k_ + 1).toNat = k_.toNat + 1 by omega]
          show _ = i_or (rst sz_ or9_ tu_ v9_ k_.toNat) (i_shl (i_xor (i_shr v9_ (iat sz_ or9_ ((k_.toNat : Nat) : Int))) (i_shr tu_ ((k_.toNat : Nat) : Int)) % 2) ((k_.toNat : Nat) : Int))
          rw [show ((k_.toNat : Nat) : Int) = k_ by omega, ← hst_, ← e33_.1]
        · first | rfl | exact hS_
        · omega
set_option maxHeartbeats 400000 in
set_option maxRecDepth 20000 in
theorem vc_405n {sc_ : Nat × (Nat → Int)} (fn_ : Int) (sz_ : Int) (or9_ : Int) (tu_ : Int) (S0_ : sm_S) (hI_ : gi S0_) (hs_ : 1 ≤ sz_ ∧ sz_ ≤ 3 ∧ 0 ≤ or9_ ∧ or9_ ≤ 5) : sm_T (mt_P sc_) 1 405 (0, [some (.inl fn_), some (.inl sz_), some (.inl or9_), some (.inl tu_), none, none, none, none], [], S0_) (fun ro9_ => ∃ u_ S1_, ro9_ = (.inl u_, S1_, 0) ∧ vq_405n fn_ sz_ or9_ tu_ S0_ u_ S1_) := by
  have hF_ : ai_fr (sx_W vw_405n) S0_ S0_ := ai_fr_rf
  refine sm_T_go 4 (c1 := (6, [some (.inl fn_), some (.inl sz_), some (.inl or9_), some (.inl tu_), some (.inl 0), some (.inl 0), none, none], [], S0_)) rfl ?_
  refine (vl_405n fn_ sz_ or9_ tu_ S0_ hs_ _).1 0 0 S0_ hI_ hF_ ⟨?_, ?_, ?_, trivial⟩ (Nat.lt_succ_self _)
  · omega
  · rfl
  · first | rfl | exact hS_
/-! M_.tryWay -/
def vw_406n : sx_Wl := ([], [206, 207, 208, 209], [])
def vq_406n (n_ : Int) (t_ : Int) (c_ : Int) (cu_ : Int) (or9_ : Int) (tu_ : Int) (F_ : Int) (dl_ : List Nat) (vv_ : Nat) (b_ : Int × Int × Int × (Nat → Int)) (S0_ : sm_S) (u_ : Option sm_V) (S1_ : sm_S) : Prop := u_ = none ∧ gi S1_ ∧ ai_fr (sx_W vw_406n) S0_ S1_ ∧ ((wyc F_ n_ S1_ (2 * n_) ∧ wyc F_ n_ S1_ (2 * n_ + 1) ∧ wf2 n_ S0_ S1_) ∧ wfr (2 * n_ + t_) S0_ S1_ ∧ wrr S1_ (2 * n_ + t_).toNat (wst b_ (cco adr (pcq F_ S0_) (S0_.2.2.1 187 0 (12 * S0_.1 13 0 106 + c_).toNat) dl_ dl_.length vv_ dl_.length) (((c_.toNat : Nat) : Int), ((vv_ % 2 ^ dl_.length : Nat) : Int), cdn dl_ dl_.length (vv_ / 2 ^ dl_.length))))
set_option maxHeartbeats 4000000 in
set_option maxRecDepth 20000 in
theorem vl_406n {sc_ : Nat × (Nat → Int)} (n_ : Int) (t_ : Int) (c_ : Int) (cu_ : Int) (or9_ : Int) (tu_ : Int) (F_ : Int) (dl_ : List Nat) (vv_ : Nat) (b_ : Int × Int × Int × (Nat → Int)) (S0_ : sm_S) (hf_ : S0_.2.2.1 160 0 (S0_.1 13 0 105).toNat = F_) (hn_ : 1 ≤ F_ ∧ F_ ≤ n_ ∧ n_ ≤ 1012) (hh_ : 0 ≤ c_ ∧ c_ ≤ 11 ∧ 0 ≤ cu_ ∧ cu_ < S0_.1 13 0 114 ∧ 0 ≤ or9_ ∧ or9_ ≤ 5 ∧ 0 ≤ tu_ ∧ tu_ ≤ 7) (hct_ : ctp (cnd9 n_ (S0_.2.2.1 202 0)) S0_) (hsz_ : S0_.2.2.1 204 0 cu_.toNat = S0_.2.2.1 185 0 (12 * S0_.1 13 0 106 + c_).toNat) (hw0_ : wyc F_ n_ S0_ (2 * n_)) (hw1_ : wyc F_ n_ S0_ (2 * n_ + 1)) (hx_ : 0 ≤ t_ ∧ t_ ≤ 1) (hdl_ : (2 ≤ dl_.length ∧ dl_.length ≤ 3) ∧ S0_.2.2.1 204 0 cu_.toNat = (dl_.length : Int)) (hcv_ : ∀ k_ x_ : Nat, dl_[k_]? = some x_ → S0_.2.2.1 205 0 (3 * cu_.toNat + k_) = (x_ : Int)) (hvv_ : vv_ < wic dl_.length ∧ or9_ = ((vv_ / 2 ^ dl_.length : Nat) : Int) ∧ tu_ = ((vv_ % 2 ^ dl_.length : Nat) : Int)) (hb_ : wrr S0_ (2 * n_ + t_).toNat b_) : ∀ nn_ : Nat, (∀ (lt_ : Int) (k_ : Int) (S_ : sm_S), gi S_ → ai_fr (sx_W vw_406n) S0_ S_ → ((0 ≤ k_ ∧ k_ ≤ 3 ∧ 0 ≤ lt_ ∧ lt_ ≤ 1000 + 1000000000 * k_ ∧ S0_.1 13 0 114 ≤ 64) ∧ (∀ j9_ : Int, 0 ≤ j9_ → j9_ < k_ → cst F_ S0_ (S0_.2.2.1 205 0 (3 * cu_ + iat (S0_.2.2.1 204 0 cu_.toNat) or9_ j9_).toNat) (i_shr tu_ j9_ % 2) ≤ lt_) ∧ (S_ = S0_) ∧ (lt_ = cco adr (pcq F_ S0_) (S0_.2.2.1 187 0 (12 * S0_.1 13 0 106 + c_).toNat) dl_ dl_.length vv_ k_.toNat) ∧ (k_ ≤ (dl_.length : Int)) ∧ True) → ((900 - k_).toNat) < nn_ → sm_T (mt_P sc_) 2 406 (20, [some (.inr (.inr (some (13, 0)))), some (.inl n_), some (.inl t_), some (.inl c_), some (.inl cu_), some (.inl or9_), some (.inl tu_), some (.inr (.inl lt_)), none, some (.inl k_), none], [], S_) (fun ro9_ => ∃ u_ S1_, ro9_ = (.inl u_, S1_, 0) ∧ vq_406n n_ t_ c_ cu_ or9_ tu_ F_ dl_ vv_ b_ S0_ u_ S1_)) ∧ (∀ (w_ : Int) (k_ : Int) (S_ : sm_S), gi S_ → ai_fr (sx_W vw_406n) S0_ S_ → ((0 ≤ k_ ∧ k_ ≤ 3 ∧ w_ = 2 * n_ + t_ ∧ S0_.1 13 0 114 ≤ 64 ∧ k_ ≤ S0_.2.2.1 204 0 cu_.toNat) ∧ (∀ j9_ : Int, 0 ≤ j9_ → j9_ < S0_.2.2.1 204 0 cu_.toNat → cst F_ S0_ (S0_.2.2.1 205 0 (3 * cu_ + iat (S0_.2.2.1 204 0 cu_.toNat) or9_ j9_).toNat) (i_shr tu_ j9_ % 2) < 1000000000) ∧ (S_.2.2.1 207 0 w_.toNat = c_ ∧ S_.2.2.1 209 0 w_.toNat = tu_) ∧ (∀ j9_ : Int, 0 ≤ j9_ → j9_ < k_ → S_.2.2.1 208 0 (3 * w_ + j9_).toNat = S0_.2.2.1 205 0 (3 * cu_ + iat (S0_.2.2.1 204 0 cu_.toNat) or9_ j9_).toNat) ∧ (wfr w_ S0_ S_) ∧ (S_.2.2.1 206 0 w_.toNat = cco adr (pcq F_ S0_) (S0_.2.2.1 187 0 (12 * S0_.1 13 0 106 + c_).toNat) dl_ dl_.length vv_ dl_.length ∧ cco adr (pcq F_ S0_) (S0_.2.2.1 187 0 (12 * S0_.1 13 0 106 + c_).toNat) dl_ dl_.length vv_ dl_.length < b_.1) ∧ True) → ((500 - k_).toNat) < nn_ → sm_T (mt_P sc_) 2 406 (131, [some (.inr (.inr (some (13, 0)))), some (.inl n_), some (.inl t_), some (.inl c_), some (.inl cu_), some (.inl or9_), some (.inl tu_), none, none, some (.inl w_), some (.inl k_)], [], S_) (fun ro9_ => ∃ u_ S1_, ro9_ = (.inl u_, S1_, 0) ∧ vq_406n n_ t_ c_ cu_ or9_ tu_ F_ dl_ vv_ b_ S0_ u_ S1_)) := by
  intro nn_
  induction nn_ with
  | zero => exact ⟨fun _ _ _ _ _ _ h_ => absurd h_ (Nat.not_lt_zero _), fun _ _ _ _ _ _ h_ => absurd h_ (Nat.not_lt_zero _)⟩
  | succ nn_ ih_ =>
    refine ⟨?_, ?_⟩
    · rintro lt_ k_ S_ hI_ hF_ ⟨h0_, h1_, h4_, hco_, hkl_, -⟩ hm_
      have f204_ : S_.2.2.1 204 0 = S0_.2.2.1 204 0 := fr_arr hF_ rfl
      have f205_ : S_.2.2.1 205 0 = S0_.2.2.1 205 0 := fr_arr hF_ rfl
      have f160_ : S_.2.2.1 160 0 (S_.1 13 0 105).toNat = F_ := by (rw [hF_.1 13 0 105 rfl, fr_arr (t := 160) (i := 0) hF_ rfl]; exact hf_)
      have c9_ : cst F_ S_ = cst F_ S0_ := cst_fr hF_
      have x204_ : S_.2.2.1 204 0 cu_.toNat = S0_.2.2.1 204 0 cu_.toNat := congrFun f204_ _
      have b204_ : 0 ≤ S_.2.2.1 204 0 cu_.toNat ∧ S_.2.2.1 204 0 cu_.toNat ≤ 3 := hI_.2 204 0 _
      have g106_ : S_.1 13 0 106 = S0_.1 13 0 106 := hF_.1 13 0 106 rfl
      refine sm_T_go 4 (c1 := (28, [some (.inr (.inr (some (13, 0)))), some (.inl n_), some (.inl t_), some (.inl c_), some (.inl cu_), some (.inl or9_), some (.inl tu_), some (.inr (.inl lt_)), none, some (.inl k_), none], [.inl cu_, .inr (.inr (some (204, 0))), .inl k_], S_)) rfl ?_
      refine sm_T_iald (n := 64) rfl rfl (by omega) (by omega) ?_
      have bx1_ : 0 ≤ S_.2.2.1 204 0 cu_.toNat ∧ S_.2.2.1 204 0 cu_.toNat ≤ 3 := hI_.2 204 0 _
      refine sm_T_br (a := 3) (z := 50) rfl (fun cx2_ => ?_) (fun cx2_ => ?_)
      · have cx2_ : (S_.2.2.1 204 0 cu_.toNat) ≤ k_ := of_decide_eq_true cx2_
        refine sm_T_go 2 (c1 := (81, [some (.inr (.inr (some (13, 0)))), some (.inl n_), some (.inl t_), some (.inl c_), some (.inl cu_), some (.inl or9_), some (.inl tu_), some (.inr (.inl lt_)), none, some (.inl k_), none], [.inl n_, .inl 2], S_)) rfl ?_
        refine sm_T_bin (w := 2 * n_) rfl (bi_mul (by omega) (by omega) (by omega)) ?_ -- pc_ 81
        refine sm_T_go 1 (c1 := (83, [some (.inr (.inr (some (13, 0)))), some (.inl n_), some (.inl t_), some (.inl c_), some (.inl cu_), some (.inl or9_), some (.inl tu_), some (.inr (.inl lt_)), none, some (.inl k_), none], [.inl t_, .inl (2 * n_)], S_)) rfl ?_
        refine sm_T_bin (w := 2 * n_ + t_) rfl (bi_add (by omega) (by omega) (by omega)) ?_ -- pc_ 83
        refine sm_T_go 5 (c1 := (94, [some (.inr (.inr (some (13, 0)))), some (.inl n_), some (.inl t_), some (.inl c_), some (.inl cu_), some (.inl or9_), some (.inl tu_), some (.inr (.inl lt_)), none, some (.inl (2 * n_ + t_)), none], [.inl (2 * n_ + t_), .inr (.inr (some (206, 0))), .inr (.inl lt_)], S_)) rfl ?_
        refine sm_T_iald (n := 4096) rfl rfl (by omega) (by omega) ?_
        have bx3_ : 0 ≤ S_.2.2.1 206 0 (2 * n_ + t_).toNat ∧ S_.2.2.1 206 0 (2 * n_ + t_).toNat ≤ 1000000000 := hI_.2 206 0 _
        refine sm_T_go 2 (c1 := (97, [some (.inr (.inr (some (13, 0)))), some (.inl n_), some (.inl t_), some (.inl c_), some (.inl cu_), some (.inl or9_), some (.inl tu_), some (.inr (.inl lt_)), none, some (.inl (2 * n_ + t_)), none], [.inl (sm_lcmp lt_ ((l_i2l (S_.2.2.1 206 0 (2 * n_ + t_).toNat))))], S_)) rfl ?_
        refine sm_T_b0 (a := 2) (z := 4) rfl (fun cx4_ => ?_) (fun cx4_ => ?_)
        · have cx4_ : (sm_lcmp lt_ ((l_i2l (S_.2.2.1 206 0 (2 * n_ + t_).toNat)))) < 0 := of_decide_eq_true cx4_
          have L8_ : lt_ < S_.2.2.1 206 0 (2 * n_ + t_).toNat := by (have q9_ := lcmp_lt.mp cx4_; rw [l_i2l_s (by omega) (by omega)] at q9_; exact q9_)
          have L7_ := l2i_s (x_ := lt_) (by omega)
          have bx5_ := l_l2i_n lt_
          refine sm_T_go 5 (c1 := (110, [some (.inr (.inr (some (13, 0)))), some (.inl n_), some (.inl t_), some (.inl c_), some (.inl cu_), some (.inl or9_), some (.inl tu_), some (.inr (.inl lt_)), none, some (.inl (2 * n_ + t_)), none], [.inl (l_l2i lt_), .inl (2 * n_ + t_), .inr (.inr (some (206, 0)))], S_)) rfl ?_
          refine sm_T_iast (n := 4096) rfl rfl (by omega) (by omega) ?_
          have hIx6_ : gi (sm_aI S_ 206 0 (2 * n_ + t_).toNat (l_l2i lt_)) := gi_aI hI_ (show 0 ≤ (l_l2i lt_) ∧ (l_l2i lt_) ≤ 1000000000 from ⟨by omega, by omega⟩)
          have hFx7_ : ai_fr (sx_W vw_406n) S0_ (sm_aI S_ 206 0 (2 * n_ + t_).toNat (l_l2i lt_)) := ai_fr_tr hF_ (ai_fr_aI rfl)
          refine sm_T_go 4 (c1 := (118, [some (.inr (.inr (some (13, 0)))), some (.inl n_), some (.inl t_), some (.inl c_), some (.inl cu_), some (.inl or9_), some (.inl tu_), some (.inr (.inl lt_)), none, some (.inl (2 * n_ + t_)), none], [.inl c_, .inl (2 * n_ + t_), .inr (.inr (some (207, 0)))], sm_aI S_ 206 0 (2 * n_ + t_).toNat (l_l2i lt_))) rfl ?_
          refine sm_T_iast (n := 4096) rfl rfl (by omega) (by omega) ?_
          have hIx8_ : gi (sm_aI (sm_aI S_ 206 0 (2 * n_ + t_).toNat (l_l2i lt_)) 207 0 (2 * n_ + t_).toNat c_) := gi_aI hIx6_ (show (-1) ≤ c_ ∧ c_ ≤ 11 from ⟨by omega, by omega⟩)
          have hFx9_ : ai_fr (sx_W vw_406n) S0_ (sm_aI (sm_aI S_ 206 0 (2 * n_ + t_).toNat (l_l2i lt_)) 207 0 (2 * n_ + t_).toNat c_) := ai_fr_tr hFx7_ (ai_fr_aI rfl)
          refine sm_T_go 4 (c1 := (127, [some (.inr (.inr (some (13, 0)))), some (.inl n_), some (.inl t_), some (.inl c_), some (.inl cu_), some (.inl or9_), some (.inl tu_), some (.inr (.inl lt_)), none, some (.inl (2 * n_ + t_)), none], [.inl tu_, .inl (2 * n_ + t_), .inr (.inr (some (209, 0)))], sm_aI (sm_aI S_ 206 0 (2 * n_ + t_).toNat (l_l2i lt_)) 207 0 (2 * n_ + t_).toNat c_)) rfl ?_
          refine sm_T_iast (n := 4096) rfl rfl (by omega) (by omega) ?_
          have hIx10_ : gi (sm_aI (sm_aI (sm_aI S_ 206 0 (2 * n_ + t_).toNat (l_l2i lt_)) 207 0 (2 * n_ + t_).toNat c_) 209 0 (2 * n_ + t_).toNat tu_) := gi_aI hIx8_ (show 0 ≤ tu_ ∧ tu_ ≤ 7 from ⟨by omega, by omega⟩)
          have hFx11_ : ai_fr (sx_W vw_406n) S0_ (sm_aI (sm_aI (sm_aI S_ 206 0 (2 * n_ + t_).toNat (l_l2i lt_)) 207 0 (2 * n_ + t_).toNat c_) 209 0 (2 * n_ + t_).toNat tu_) := ai_fr_tr hFx9_ (ai_fr_aI rfl)
          refine sm_T_go 2 (c1 := (131, [some (.inr (.inr (some (13, 0)))), some (.inl n_), some (.inl t_), some (.inl c_), some (.inl cu_), some (.inl or9_), some (.inl tu_), some (.inr (.inl lt_)), none, some (.inl (2 * n_ + t_)), some (.inl 0)], [], sm_aI (sm_aI (sm_aI S_ 206 0 (2 * n_ + t_).toNat (l_l2i lt_)) 207 0 (2 * n_ + t_).toNat c_) 209 0 (2 * n_ + t_).toNat tu_)) rfl ?_
          refine sm_T_wk [some (.inr (.inr (some (13, 0)))), some (.inl n_), some (.inl t_), some (.inl c_), some (.inl cu_), some (.inl or9_), some (.inl tu_), none, none, some (.inl (2 * n_ + t_)), some (.inl 0)] (by exact ⟨rfl, rfl, rfl, rfl, rfl, rfl, rfl, rfl, rfl, trivial⟩) ?_
          refine ih_.2 (2 * n_ + t_) 0 (sm_aI (sm_aI (sm_aI S_ 206 0 (2 * n_ + t_).toNat (l_l2i lt_)) 207 0 (2 * n_ + t_).toNat c_) 209 0 (2 * n_ + t_).toNat tu_) hIx10_ hFx11_ ⟨?_, ?_, ?_, ?_, ?_, ?_, trivial⟩ ?_
          · omega
          · (intro j9_ u0_ u1_; have w9_ := h1_ j9_ u0_ (by omega); omega)
          · ((try simp only [rd_eq, rd_ne, rf_eq, rf_nk, rf_nt, rd_fa, rd_af, rd_fl, rd_al, rd_lf, rd_la, rd_leq, rd_lne, rd_fr, rd_ar, ne_eq, Nat.reduceEqDiff, not_false_eq_true]); first | exact ⟨if_pos rfl, if_pos rfl⟩ | exact ⟨trivial, trivial⟩ | (constructor <;> first | rfl | rw [if_pos rfl]))
          · (intro j9_ u0_ u1_; exfalso; omega)
          · (rw [← h4_]; exact ⟨fun j9_ h9_ => by ((try simp only [rd_eq, rd_ne, rf_eq, rf_nk, rf_nt, rd_fa, rd_af, rd_fl, rd_al, rd_lf, rd_la, rd_leq, rd_lne, rd_fr, rd_ar, ne_eq, Nat.reduceEqDiff, not_false_eq_true]); rw [if_neg (by omega), if_neg (by omega), if_neg (by omega)]; exact ⟨rfl, rfl, rfl⟩), fun j9_ _ => by (try simp only [rd_eq, rd_ne, rf_eq, rf_nk, rf_nt, rd_fa, rd_af, rd_fl, rd_al, rd_lf, rd_la, rd_leq, rd_lne, rd_fr, rd_ar, ne_eq, Nat.reduceEqDiff, not_false_eq_true])⟩)
          · rw [show k_.toNat = dl_.length by (have z9_ := hdl_.2; have y9_ := hkl_; omega)] at hco_
            refine ⟨?_, by (rw [← hco_, ← hb_.1, ← h4_]; exact L8_)⟩
            rw [rd_ne (by decide), rd_ne (by decide), rd_eq, if_pos rfl, L7_, hco_]
          · omega
        · have cx4_ : ¬ ((sm_lcmp lt_ ((l_i2l (S_.2.2.1 206 0 (2 * n_ + t_).toNat)))) < 0) := of_decide_eq_false cx4_
          have L6_ : ¬ (lt_ < S_.2.2.1 206 0 (2 * n_ + t_).toNat) := fun q8_ => cx4_ (lcmp_lt.mpr (by (rw [l_i2l_s (by omega) (by omega)]; exact q8_)))
          refine sm_T_rv rfl ⟨_, _, rfl, rfl, hI_, hF_, ?_⟩
          rw [show k_.toNat = dl_.length by (have z9_ := hdl_.2; have y9_ := hkl_; omega)] at hco_
          rw [h4_] at L6_ ⊢
          refine ⟨⟨hw0_, hw1_, wf2_rf⟩, wfr_rf, ?_⟩
          unfold wst
          rw [if_neg (by (rw [← hco_, ← hb_.1]; exact L6_))]
          exact hb_
      · have cx2_ : ¬ ((S_.2.2.1 204 0 cu_.toNat) ≤ k_) := of_decide_eq_false cx2_
        have b9_ := hct_ cu_ (by omega) (by omega)
        refine sm_T_go 6 (c1 := (42, [some (.inr (.inr (some (13, 0)))), some (.inl n_), some (.inl t_), some (.inl c_), some (.inl cu_), some (.inl or9_), some (.inl tu_), some (.inr (.inl lt_)), none, some (.inl k_), none], [.inl cu_, .inl 3, .inr (.inr (some (205, 0))), .inr (.inr (some (13, 0))), .inr (.inl lt_)], S_)) rfl ?_
        refine sm_T_bin (w := 3 * cu_) rfl (bi_mul (by omega) (by omega) (by omega)) ?_ -- pc_ 42
        refine sm_T_go 3 (c1 := (49, [some (.inr (.inr (some (13, 0)))), some (.inl n_), some (.inl t_), some (.inl c_), some (.inl cu_), some (.inl or9_), some (.inl tu_), some (.inr (.inl lt_)), none, some (.inl k_), none], [.inl cu_, .inr (.inr (some (204, 0))), .inl (3 * cu_), .inr (.inr (some (205, 0))), .inr (.inr (some (13, 0))), .inr (.inl lt_)], S_)) rfl ?_
        refine sm_T_iald (n := 64) rfl rfl (by omega) (by omega) ?_
        refine sm_T_go 2 (c1 := (54, [some (.inr (.inr (some (13, 0)))), some (.inl n_), some (.inl t_), some (.inl c_), some (.inl cu_), some (.inl or9_), some (.inl tu_), some (.inr (.inl lt_)), none, some (.inl k_), none], [.inl k_, .inl or9_, .inl (S_.2.2.1 204 0 cu_.toNat), .inl (3 * cu_), .inr (.inr (some (205, 0))), .inr (.inr (some (13, 0))), .inr (.inl lt_)], S_)) rfl ?_
        refine sm_T_cal (d1 := 0) (Q1 := vq_403 (S_.2.2.1 204 0 cu_.toNat) or9_ k_ S_) rfl rfl (by decide) (vc_403 (S_.2.2.1 204 0 cu_.toNat) or9_ k_ S_ hI_ (by omega)) (fun u_ Sx12_ px15_ => ?_)
        obtain ⟨rfl, vx17_, rfl, px15_⟩ := px15_
        have e54_ := px15_
        rw [x204_] at e54_
        have n9_ := b9_.2 vx17_ (by omega) (by omega)
        rw [← f205_] at n9_
        have n8_ := n9_.1
        have n7_ := n9_.2.1
        refine sm_T_bin (w := 3 * cu_ + vx17_) rfl (bi_add (by omega) (by omega) (by omega)) ?_ -- pc_ 57
        refine sm_T_iald (n := 192) rfl rfl (by omega) (by omega) ?_
        have bx18_ : 0 ≤ S_.2.2.1 205 0 (3 * cu_ + vx17_).toNat ∧ S_.2.2.1 205 0 (3 * cu_ + vx17_).toNat ≤ 1012 := hI_.2 205 0 _
        refine sm_T_go 2 (c1 := (63, [some (.inr (.inr (some (13, 0)))), some (.inl n_), some (.inl t_), some (.inl c_), some (.inl cu_), some (.inl or9_), some (.inl tu_), some (.inr (.inl lt_)), none, some (.inl k_), none], [.inl k_, .inl tu_, .inl (S_.2.2.1 205 0 (3 * cu_ + vx17_).toNat), .inr (.inr (some (13, 0))), .inr (.inl lt_)], S_)) rfl ?_
        refine sm_T_bin (w := (i_shr tu_ k_)) rfl rfl ?_ -- pc_ 63
        refine sm_T_go 1 (c1 := (65, [some (.inr (.inr (some (13, 0)))), some (.inl n_), some (.inl t_), some (.inl c_), some (.inl cu_), some (.inl or9_), some (.inl tu_), some (.inr (.inl lt_)), none, some (.inl k_), none], [.inl 1, .inl (i_shr tu_ k_), .inl (S_.2.2.1 205 0 (3 * cu_ + vx17_).toNat), .inr (.inr (some (13, 0))), .inr (.inl lt_)], S_)) rfl ?_
        refine sm_T_bin (w := ((i_shr tu_ k_) % 2)) rfl (bi_msk (k := 1) (by decide)) ?_ -- pc_ 65
        refine sm_T_cal (d1 := 1) (Q1 := vq_404 (S_.2.2.1 205 0 (3 * cu_ + vx17_).toNat) ((i_shr tu_ k_) % 2) F_ S_) rfl rfl (by decide) (vc_404 (S_.2.2.1 205 0 (3 * cu_ + vx17_).toNat) ((i_shr tu_ k_) % 2) F_ S_ hI_ (by exact f160_) (by omega)) (fun u_ Sx19_ px22_ => ?_)
        obtain ⟨rfl, vx24_, rfl, px22_⟩ := px22_
        have e66_ := px22_
        rw [c9_, f205_, e54_.1] at e66_
        have L9_ := l_0_s (x_ := lt_) (y_ := vx24_) (by omega) (by omega)
        have cd9_ := cdn_r (V_ := S0_.2.2.1 205 0) (k_ := k_) hdl_.1 hdl_.2 hcv_ (by omega) hvv_.2.1 (wic_o (by omega) hvv_.1) (by omega)
        have tn9_ := tn_r (vv_ := vv_) (ip_ := dl_.length) (k_ := k_) (by omega) (by omega)
        rw [← hvv_.2.2] at tn9_
        refine sm_T_go 3 (c1 := (73, [some (.inr (.inr (some (13, 0)))), some (.inl n_), some (.inl t_), some (.inl c_), some (.inl cu_), some (.inl or9_), some (.inl tu_), some (.inr (.inl (l_0 lt_ ((l_i2l vx24_))))), none, some (.inl k_), none], [], S_)) rfl ?_
        refine sm_T_inc (a := 9) (z := 1) (v := k_) (w := k_ + 1) rfl rfl (by omega) (by omega) (by omega) ?_ -- pc_ 73
        refine sm_T_go 1 (c1 := (20, [some (.inr (.inr (some (13, 0)))), some (.inl n_), some (.inl t_), some (.inl c_), some (.inl cu_), some (.inl or9_), some (.inl tu_), some (.inr (.inl (l_0 lt_ ((l_i2l vx24_))))), none, some (.inl (k_ + 1)), none], [], S_)) rfl ?_
        refine ih_.1 ((l_0 lt_ ((l_i2l vx24_)))) (k_ + 1) S_ hI_ hF_ ⟨?_, ?_, ?_, ?_, ?_, trivial⟩ ?_
        · (rw [L9_]; omega)
        · intro j9_ u0_ u1_
          rw [L9_]
          by_cases z9_ : j9_ = k_
          · rw [z9_]; omega
          · have w9_ := h1_ j9_ u0_ (by omega); omega
        · exact h4_
        · rw [show (k_ + 1).toNat = k_.toNat + 1 by omega, cco_s, L9_, ← hco_, cd9_, ← tn9_, e66_.1]
          rfl
        · (have z9_ := hdl_.2; omega)
        · omega
    · rintro w_ k_ S_ hI_ hF_ ⟨h0_, h1_, h2_, h3_, h5_, hco_, -⟩ hm_
      have f204_ : S_.2.2.1 204 0 = S0_.2.2.1 204 0 := fr_arr hF_ rfl
      have f205_ : S_.2.2.1 205 0 = S0_.2.2.1 205 0 := fr_arr hF_ rfl
      have f160_ : S_.2.2.1 160 0 (S_.1 13 0 105).toNat = F_ := by (rw [hF_.1 13 0 105 rfl, fr_arr (t := 160) (i := 0) hF_ rfl]; exact hf_)
      have c9_ : cst F_ S_ = cst F_ S0_ := cst_fr hF_
      have x204_ : S_.2.2.1 204 0 cu_.toNat = S0_.2.2.1 204 0 cu_.toNat := congrFun f204_ _
      have b204_ : 0 ≤ S_.2.2.1 204 0 cu_.toNat ∧ S_.2.2.1 204 0 cu_.toNat ≤ 3 := hI_.2 204 0 _
      have g106_ : S_.1 13 0 106 = S0_.1 13 0 106 := hF_.1 13 0 106 rfl
      refine sm_T_go 4 (c1 := (139, [some (.inr (.inr (some (13, 0)))), some (.inl n_), some (.inl t_), some (.inl c_), some (.inl cu_), some (.inl or9_), some (.inl tu_), none, none, some (.inl w_), some (.inl k_)], [.inl cu_, .inr (.inr (some (204, 0))), .inl k_], S_)) rfl ?_
      refine sm_T_iald (n := 64) rfl rfl (by omega) (by omega) ?_
      have bx1_ : 0 ≤ S_.2.2.1 204 0 cu_.toNat ∧ S_.2.2.1 204 0 cu_.toNat ≤ 3 := hI_.2 204 0 _
      refine sm_T_br (a := 3) (z := 45) rfl (fun cx2_ => ?_) (fun cx2_ => ?_)
      · have cx2_ : (S_.2.2.1 204 0 cu_.toNat) ≤ k_ := of_decide_eq_true cx2_
        refine sm_T_rv rfl ⟨_, _, rfl, rfl, hI_, hF_, ?_⟩
        refine ⟨?_, ?_, ?_⟩
        · have z0_ : S_.2.2.1 185 0 = S0_.2.2.1 185 0 := fr_arr hF_ rfl
          have z2_ : S_.2.2.1 202 0 = S0_.2.2.1 202 0 := fr_arr hF_ rfl
          have own_ : wyc F_ n_ S_ w_ := fun _ => by
            rw [h2_.1, h2_.2, z0_, g106_, ← hsz_]
            refine ⟨by omega, (hct_ cu_ (by omega) (by omega)).1, fun k9_ v0_ v1_ => ?_⟩
            rw [h3_ k9_ v0_ (by omega)]
            refine ⟨by (rw [z2_]; exact (hct_ cu_ (by omega) (by omega)).2 _ (iat_b (by omega) (by omega) (by omega)).1 (iat_b (by omega) (by omega) (by omega)).2), ?_⟩
            rw [c9_]
            exact h1_ k9_ v0_ v1_
          have oth_ : ∀ l9_ : Int, 0 ≤ l9_ → l9_ ≠ w_ → wyc F_ n_ S0_ l9_ → wyc F_ n_ S_ l9_ := fun l9_ u0_ u1_ u2_ => wyc_cg hI_ u2_ u0_ (h5_.1 _ (by omega)).1 (h5_.1 _ (by omega)).2.1 (h5_.1 _ (by omega)).2.2 (fun k9_ v0_ v1_ => h5_.2 _ (by omega)) z0_ g106_ z2_ (fun x9_ t9_ _ _ _ _ => by rw [c9_])
          have v9_ : w_ = 2 * n_ ∨ w_ = 2 * n_ + 1 := by omega
          rcases v9_ with v9_ | v9_
          · exact ⟨by (rw [← v9_]; exact own_), oth_ _ (by omega) (by omega) hw1_, wf2_w h5_ (by omega) (Or.inl v9_)⟩
          · exact ⟨oth_ _ (by omega) (by omega) hw0_, by (rw [← v9_]; exact own_), wf2_w h5_ (by omega) (Or.inr v9_)⟩
        · rw [← h0_.2.2.1]
          exact h5_
        · rw [← h0_.2.2.1]
          unfold wst
          rw [if_pos hco_.2]
          refine ⟨hco_.1, Or.inr ⟨?_, by (rw [h2_.1]; show c_ = ((c_.toNat : Nat) : Int); omega), by (rw [h2_.2]; exact hvv_.2.2), fun j_ hj_ => ?_⟩⟩
          · have z9_ := hco_.2
            show cco adr (pcq F_ S0_) (S0_.2.2.1 187 0 (12 * S0_.1 13 0 106 + c_).toNat) dl_ dl_.length vv_ dl_.length < 1000000000
            rcases hb_.2 with y9_ | y9_ <;> omega
          · have hj_ : (j_ : Int) < S_.2.2.1 185 0 (12 * S_.1 13 0 106 + ((c_.toNat : Nat) : Int)).toNat := hj_
            rw [show ((c_.toNat : Nat) : Int) = c_ by omega, g106_, show S_.2.2.1 185 0 = S0_.2.2.1 185 0 from fr_arr hF_ rfl, ← hsz_] at hj_
            have z9_ := h3_ (j_ : Int) (by omega) (by omega)
            rw [show (3 * w_ + (j_ : Int)).toNat = 3 * w_.toNat + j_ by omega] at z9_
            rw [z9_]
            have y9_ := cdn_r (V_ := S0_.2.2.1 205 0) (k_ := (j_ : Int)) hdl_.1 hdl_.2 hcv_ (by omega) hvv_.2.1 (wic_o (by omega) hvv_.1) (by omega)
            rw [Int.toNat_natCast] at y9_
            exact y9_.symm
      · have cx2_ : ¬ ((S_.2.2.1 204 0 cu_.toNat) ≤ k_) := of_decide_eq_false cx2_
        have b9_ := hct_ cu_ (by omega) (by omega)
        refine sm_T_go 4 (c1 := (150, [some (.inr (.inr (some (13, 0)))), some (.inl n_), some (.inl t_), some (.inl c_), some (.inl cu_), some (.inl or9_), some (.inl tu_), none, none, some (.inl w_), some (.inl k_)], [.inl w_, .inl 3, .inr (.inr (some (208, 0)))], S_)) rfl ?_
        refine sm_T_bin (w := 3 * w_) rfl (bi_mul (by omega) (by omega) (by omega)) ?_ -- pc_ 150
        refine sm_T_go 1 (c1 := (153, [some (.inr (.inr (some (13, 0)))), some (.inl n_), some (.inl t_), some (.inl c_), some (.inl cu_), some (.inl or9_), some (.inl tu_), none, none, some (.inl w_), some (.inl k_)], [.inl k_, .inl (3 * w_), .inr (.inr (some (208, 0)))], S_)) rfl ?_
        refine sm_T_bin (w := 3 * w_ + k_) rfl (bi_add (by omega) (by omega) (by omega)) ?_ -- pc_ 153
        refine sm_T_go 4 (c1 := (161, [some (.inr (.inr (some (13, 0)))), some (.inl n_), some (.inl t_), some (.inl c_), some (.inl cu_), some (.inl or9_), some (.inl tu_), none, none, some (.inl w_), some (.inl k_)], [.inl cu_, .inl 3, .inr (.inr (some (205, 0))), .inl (3 * w_ + k_), .inr (.inr (some (208, 0)))], S_)) rfl ?_
        refine sm_T_bin (w := 3 * cu_) rfl (bi_mul (by omega) (by omega) (by omega)) ?_ -- pc_ 161
        refine sm_T_go 3 (c1 := (168, [some (.inr (.inr (some (13, 0)))), some (.inl n_), some (.inl t_), some (.inl c_), some (.inl cu_), some (.inl or9_), some (.inl tu_), none, none, some (.inl w_), some (.inl k_)], [.inl cu_, .inr (.inr (some (204, 0))), .inl (3 * cu_), .inr (.inr (some (205, 0))), .inl (3 * w_ + k_), .inr (.inr (some (208, 0)))], S_)) rfl ?_
        refine sm_T_iald (n := 64) rfl rfl (by omega) (by omega) ?_
        refine sm_T_go 2 (c1 := (173, [some (.inr (.inr (some (13, 0)))), some (.inl n_), some (.inl t_), some (.inl c_), some (.inl cu_), some (.inl or9_), some (.inl tu_), none, none, some (.inl w_), some (.inl k_)], [.inl k_, .inl or9_, .inl (S_.2.2.1 204 0 cu_.toNat), .inl (3 * cu_), .inr (.inr (some (205, 0))), .inl (3 * w_ + k_), .inr (.inr (some (208, 0)))], S_)) rfl ?_
        refine sm_T_cal (d1 := 0) (Q1 := vq_403 (S_.2.2.1 204 0 cu_.toNat) or9_ k_ S_) rfl rfl (by decide) (vc_403 (S_.2.2.1 204 0 cu_.toNat) or9_ k_ S_ hI_ (by omega)) (fun u_ Sx3_ px6_ => ?_)
        obtain ⟨rfl, vx8_, rfl, px6_⟩ := px6_
        have e173_ := px6_
        rw [x204_] at e173_
        have n9_ := b9_.2 vx8_ (by omega) (by omega)
        rw [← f205_] at n9_
        have n8_ := n9_.1
        have n7_ := n9_.2.1
        refine sm_T_bin (w := 3 * cu_ + vx8_) rfl (bi_add (by omega) (by omega) (by omega)) ?_ -- pc_ 176
        refine sm_T_iald (n := 192) rfl rfl (by omega) (by omega) ?_
        have bx9_ : 0 ≤ S_.2.2.1 205 0 (3 * cu_ + vx8_).toNat ∧ S_.2.2.1 205 0 (3 * cu_ + vx8_).toNat ≤ 1012 := hI_.2 205 0 _
        refine sm_T_iast (n := 12288) rfl rfl (by omega) (by omega) ?_
        have hIx10_ : gi (sm_aI S_ 208 0 (3 * w_ + k_).toNat (S_.2.2.1 205 0 (3 * cu_ + vx8_).toNat)) := gi_aI hI_ (show 0 ≤ (S_.2.2.1 205 0 (3 * cu_ + vx8_).toNat) ∧ (S_.2.2.1 205 0 (3 * cu_ + vx8_).toNat) ≤ 2047 from ⟨by omega, by omega⟩)
        have hFx11_ : ai_fr (sx_W vw_406n) S0_ (sm_aI S_ 208 0 (3 * w_ + k_).toNat (S_.2.2.1 205 0 (3 * cu_ + vx8_).toNat)) := ai_fr_tr hF_ (ai_fr_aI rfl)
        refine sm_T_inc (a := 10) (z := 1) (v := k_) (w := k_ + 1) rfl rfl (by omega) (by omega) (by omega) ?_ -- pc_ 179
        refine sm_T_go 1 (c1 := (131, [some (.inr (.inr (some (13, 0)))), some (.inl n_), some (.inl t_), some (.inl c_), some (.inl cu_), some (.inl or9_), some (.inl tu_), none, none, some (.inl w_), some (.inl (k_ + 1))], [], sm_aI S_ 208 0 (3 * w_ + k_).toNat (S_.2.2.1 205 0 (3 * cu_ + vx8_).toNat))) rfl ?_
        refine ih_.2 w_ (k_ + 1) (sm_aI S_ 208 0 (3 * w_ + k_).toNat (S_.2.2.1 205 0 (3 * cu_ + vx8_).toNat)) hIx10_ hFx11_ ⟨?_, ?_, ?_, ?_, ?_, ?_, trivial⟩ ?_
        · omega
        · exact h1_
        · ((try simp only [rd_eq, rd_ne, rf_eq, rf_nk, rf_nt, rd_fa, rd_af, rd_fl, rd_al, rd_lf, rd_la, rd_leq, rd_lne, rd_fr, rd_ar, ne_eq, Nat.reduceEqDiff, not_false_eq_true]); exact h2_)
        · intro j9_ u0_ u1_
          rw [rd_eq]
          by_cases z9_ : (3 * w_ + j9_).toNat = (3 * w_ + k_).toNat
          · rw [if_pos z9_, f205_, e173_.1, show j9_ = k_ by omega]
          · rw [if_neg z9_]; exact h3_ j9_ u0_ (by omega)
        · exact ⟨fun j9_ h9_ => by ((try simp only [rd_eq, rd_ne, rf_eq, rf_nk, rf_nt, rd_fa, rd_af, rd_fl, rd_al, rd_lf, rd_la, rd_leq, rd_lne, rd_fr, rd_ar, ne_eq, Nat.reduceEqDiff, not_false_eq_true]); exact h5_.1 j9_ h9_), fun j9_ h9_ => by ((try simp only [rd_eq, rd_ne, rf_eq, rf_nk, rf_nt, rd_fa, rd_af, rd_fl, rd_al, rd_lf, rd_la, rd_leq, rd_lne, rd_fr, rd_ar, ne_eq, Nat.reduceEqDiff, not_false_eq_true]); rw [if_neg (by omega)]; exact h5_.2 j9_ h9_)⟩
        · (rw [rd_ne (by decide)]; exact hco_)
        · omega
set_option maxHeartbeats 4000000 in
set_option maxRecDepth 20000 in
theorem vc_406n {sc_ : Nat × (Nat → Int)} (n_ : Int) (t_ : Int) (c_ : Int) (cu_ : Int) (or9_ : Int) (tu_ : Int) (F_ : Int) (dl_ : List Nat) (vv_ : Nat) (b_ : Int × Int × Int × (Nat → Int)) (S0_ : sm_S) (hI_ : gi S0_) (hf_ : S0_.2.2.1 160 0 (S0_.1 13 0 105).toNat = F_) (hn_ : 1 ≤ F_ ∧ F_ ≤ n_ ∧ n_ ≤ 1012) (hh_ : 0 ≤ c_ ∧ c_ ≤ 11 ∧ 0 ≤ cu_ ∧ cu_ < S0_.1 13 0 114 ∧ 0 ≤ or9_ ∧ or9_ ≤ 5 ∧ 0 ≤ tu_ ∧ tu_ ≤ 7) (hct_ : ctp (cnd9 n_ (S0_.2.2.1 202 0)) S0_) (hsz_ : S0_.2.2.1 204 0 cu_.toNat = S0_.2.2.1 185 0 (12 * S0_.1 13 0 106 + c_).toNat) (hw0_ : wyc F_ n_ S0_ (2 * n_)) (hw1_ : wyc F_ n_ S0_ (2 * n_ + 1)) (hx_ : 0 ≤ t_ ∧ t_ ≤ 1) (hdl_ : (2 ≤ dl_.length ∧ dl_.length ≤ 3) ∧ S0_.2.2.1 204 0 cu_.toNat = (dl_.length : Int)) (hcv_ : ∀ k_ x_ : Nat, dl_[k_]? = some x_ → S0_.2.2.1 205 0 (3 * cu_.toNat + k_) = (x_ : Int)) (hvv_ : vv_ < wic dl_.length ∧ or9_ = ((vv_ / 2 ^ dl_.length : Nat) : Int) ∧ tu_ = ((vv_ % 2 ^ dl_.length : Nat) : Int)) (hb_ : wrr S0_ (2 * n_ + t_).toNat b_) : sm_T (mt_P sc_) 2 406 (0, [some (.inr (.inr (some (13, 0)))), some (.inl n_), some (.inl t_), some (.inl c_), some (.inl cu_), some (.inl or9_), some (.inl tu_), none, none, none, none], [], S0_) (fun ro9_ => ∃ u_ S1_, ro9_ = (.inl u_, S1_, 0) ∧ vq_406n n_ t_ c_ cu_ or9_ tu_ F_ dl_ vv_ b_ S0_ u_ S1_) := by
  have hF_ : ai_fr (sx_W vw_406n) S0_ S0_ := ai_fr_rf
  have b114_ : S0_.1 13 0 114 ≤ 64 := (hI_.1 13 0 114 rfl).2
  have q204_ : 0 ≤ S0_.2.2.1 204 0 cu_.toNat ∧ S0_.2.2.1 204 0 cu_.toNat ≤ 3 := hI_.2 204 0 _
  have b106_ : 0 ≤ S0_.1 13 0 106 ∧ S0_.1 13 0 106 ≤ 2 := hI_.1 13 0 106 rfl
  have bx1_ : 0 ≤ S0_.1 13 0 106 ∧ S0_.1 13 0 106 ≤ 2 := hI_.1 13 0 106 rfl
  refine sm_T_go 5 (c1 := (10, [some (.inr (.inr (some (13, 0)))), some (.inl n_), some (.inl t_), some (.inl c_), some (.inl cu_), some (.inl or9_), some (.inl tu_), none, none, none, none], [.inl (S0_.1 13 0 106), .inl 12, .inr (.inr (some (187, 0)))], S0_)) rfl ?_
  refine sm_T_bin (w := 12 * (S0_.1 13 0 106)) rfl (bi_mul (by omega) (by omega) (by omega)) ?_ -- pc_ 10
  refine sm_T_go 1 (c1 := (12, [some (.inr (.inr (some (13, 0)))), some (.inl n_), some (.inl t_), some (.inl c_), some (.inl cu_), some (.inl or9_), some (.inl tu_), none, none, none, none], [.inl c_, .inl (12 * (S0_.1 13 0 106)), .inr (.inr (some (187, 0)))], S0_)) rfl ?_
  refine sm_T_bin (w := 12 * (S0_.1 13 0 106) + c_) rfl (bi_add (by omega) (by omega) (by omega)) ?_ -- pc_ 12
  refine sm_T_iald (n := 36) rfl rfl (by omega) (by omega) ?_
  have bx2_ : 0 ≤ S0_.2.2.1 187 0 (12 * (S0_.1 13 0 106) + c_).toNat ∧ S0_.2.2.1 187 0 (12 * (S0_.1 13 0 106) + c_).toNat ≤ 1000 := hI_.2 187 0 _
  refine sm_T_go 4 (c1 := (20, [some (.inr (.inr (some (13, 0)))), some (.inl n_), some (.inl t_), some (.inl c_), some (.inl cu_), some (.inl or9_), some (.inl tu_), some (.inr (.inl (l_i2l (S0_.2.2.1 187 0 (12 * (S0_.1 13 0 106) + c_).toNat)))), none, some (.inl 0), none], [], S0_)) rfl ?_
  refine (vl_406n n_ t_ c_ cu_ or9_ tu_ F_ dl_ vv_ b_ S0_ hf_ hn_ hh_ hct_ hsz_ hw0_ hw1_ hx_ hdl_ hcv_ hvv_ hb_ _).1 ((l_i2l (S0_.2.2.1 187 0 (12 * (S0_.1 13 0 106) + c_).toNat))) 0 S0_ hI_ hF_ ⟨?_, ?_, ?_, ?_, ?_, trivial⟩ (Nat.lt_succ_self _)
  · (rw [l_i2l_s (by omega) (by omega)]; omega)
  · (intro j9_ u0_ u1_; exfalso; omega)
  · rfl
  · (rw [l_i2l_s (by omega) (by omega)]; rfl)
  · omega
/-! M_.tryCell -/
def vw_408n : sx_Wl := ([], [206, 207, 208, 209], [])
def vq_408n (n_ : Int) (c_ : Int) (cu_ : Int) (sz_ : Int) (F_ : Int) (dl_ : List Nat) (b0_ : Int × Int × Int × (Nat → Int)) (b1_ : Int × Int × Int × (Nat → Int)) (S0_ : sm_S) (u_ : Option sm_V) (S1_ : sm_S) : Prop := u_ = none ∧ gi S1_ ∧ ai_fr (sx_W vw_408n) S0_ S1_ ∧ ((wyc F_ n_ S1_ (2 * n_) ∧ wyc F_ n_ S1_ (2 * n_ + 1) ∧ wf2 n_ S0_ S1_) ∧ wrr S1_ (2 * n_).toNat (cfo (wvs adr (pcq F_ S0_) (fun v_ => decide (vwt (S0_.2.2.1 186 0 (12 * S0_.1 13 0 106 + c_).toNat) dl_.length v_ 8 = tbr 0 (S0_.2.2.1 215 0 cu_.toNat))) (S0_.2.2.1 187 0 (12 * S0_.1 13 0 106 + c_).toNat) c_.toNat dl_ dl_.length) (wic dl_.length) b0_) ∧ wrr S1_ (2 * n_ + 1).toNat (cfo (wvs adr (pcq F_ S0_) (fun v_ => decide (vwt (S0_.2.2.1 186 0 (12 * S0_.1 13 0 106 + c_).toNat) dl_.length v_ 8 = tbr 1 (S0_.2.2.1 215 0 cu_.toNat))) (S0_.2.2.1 187 0 (12 * S0_.1 13 0 106 + c_).toNat) c_.toNat dl_ dl_.length) (wic dl_.length) b1_))
set_option maxHeartbeats 4000000 in
set_option maxRecDepth 20000 in
theorem vl_408n {sc_ : Nat × (Nat → Int)} (n_ : Int) (c_ : Int) (cu_ : Int) (sz_ : Int) (F_ : Int) (dl_ : List Nat) (b0_ : Int × Int × Int × (Nat → Int)) (b1_ : Int × Int × Int × (Nat → Int)) (S0_ : sm_S) (hdl_ : (2 ≤ dl_.length ∧ dl_.length ≤ 3) ∧ S0_.2.2.1 204 0 cu_.toNat = (dl_.length : Int)) (hcv_ : ∀ k_ x_ : Nat, dl_[k_]? = some x_ → S0_.2.2.1 205 0 (3 * cu_.toNat + k_) = (x_ : Int)) (hszl : sz_ = (dl_.length : Int)) (hb0_ : wrr S0_ (2 * n_).toNat b0_) (hb1_ : wrr S0_ (2 * n_ + 1).toNat b1_) (hf_ : S0_.2.2.1 160 0 (S0_.1 13 0 105).toNat = F_) (hn_ : 1 ≤ F_ ∧ F_ ≤ n_ ∧ n_ ≤ 1012) (hh_ : 0 ≤ c_ ∧ c_ ≤ 11 ∧ 0 ≤ cu_ ∧ cu_ < S0_.1 13 0 114 ∧ 1 ≤ sz_ ∧ sz_ ≤ 3) (hct_ : ctp (cnd9 n_ (S0_.2.2.1 202 0)) S0_) (hsz_ : S0_.2.2.1 204 0 cu_.toNat = S0_.2.2.1 185 0 (12 * S0_.1 13 0 106 + c_).toNat) (hw0_ : wyc F_ n_ S0_ (2 * n_)) (hw1_ : wyc F_ n_ S0_ (2 * n_ + 1)) : ∀ nn_ : Nat, (∀ (o_ : Int) (S_ : sm_S), gi S_ → ai_fr (sx_W vw_408n) S0_ S_ → ((0 ≤ o_ ∧ o_ ≤ 6 ∧ ((sz_ = 2 ∧ o_ ≤ 2) ∨ sz_ = 3)) ∧ (wyc F_ n_ S_ (2 * n_)) ∧ (wyc F_ n_ S_ (2 * n_ + 1)) ∧ (wf2 n_ S0_ S_) ∧ (wrr S_ (2 * n_).toNat (cfo (wvs adr (pcq F_ S0_) (fun v_ => decide (vwt (S0_.2.2.1 186 0 (12 * S0_.1 13 0 106 + c_).toNat) dl_.length v_ 8 = tbr 0 (S0_.2.2.1 215 0 cu_.toNat))) (S0_.2.2.1 187 0 (12 * S0_.1 13 0 106 + c_).toNat) c_.toNat dl_ dl_.length) (o_.toNat * 2 ^ dl_.length) b0_)) ∧ (wrr S_ (2 * n_ + 1).toNat (cfo (wvs adr (pcq F_ S0_) (fun v_ => decide (vwt (S0_.2.2.1 186 0 (12 * S0_.1 13 0 106 + c_).toNat) dl_.length v_ 8 = tbr 1 (S0_.2.2.1 215 0 cu_.toNat))) (S0_.2.2.1 187 0 (12 * S0_.1 13 0 106 + c_).toNat) c_.toNat dl_ dl_.length) (o_.toNat * 2 ^ dl_.length) b1_)) ∧ True) → ((100 * (50 - o_) + 90).toNat) < nn_ → sm_T (mt_P sc_) 3 408 (3, [some (.inr (.inr (some (13, 0)))), some (.inl n_), some (.inl c_), some (.inl cu_), some (.inl sz_), some (.inl o_), none, none], [], S_) (fun ro9_ => ∃ u_ S1_, ro9_ = (.inl u_, S1_, 0) ∧ vq_408n n_ c_ cu_ sz_ F_ dl_ b0_ b1_ S0_ u_ S1_)) ∧ (∀ (o_ : Int) (tu_ : Int) (S_ : sm_S), gi S_ → ai_fr (sx_W vw_408n) S0_ S_ → ((0 ≤ o_ ∧ o_ ≤ 5 ∧ 0 ≤ tu_ ∧ tu_ ≤ 8 ∧ ((sz_ = 2 ∧ o_ ≤ 1) ∨ sz_ = 3) ∧ tu_ ≤ i_shl 1 sz_) ∧ (wyc F_ n_ S_ (2 * n_)) ∧ (wyc F_ n_ S_ (2 * n_ + 1)) ∧ (wf2 n_ S0_ S_) ∧ (wrr S_ (2 * n_).toNat (cfo (wvs adr (pcq F_ S0_) (fun v_ => decide (vwt (S0_.2.2.1 186 0 (12 * S0_.1 13 0 106 + c_).toNat) dl_.length v_ 8 = tbr 0 (S0_.2.2.1 215 0 cu_.toNat))) (S0_.2.2.1 187 0 (12 * S0_.1 13 0 106 + c_).toNat) c_.toNat dl_ dl_.length) (o_.toNat * 2 ^ dl_.length + tu_.toNat) b0_)) ∧ (wrr S_ (2 * n_ + 1).toNat (cfo (wvs adr (pcq F_ S0_) (fun v_ => decide (vwt (S0_.2.2.1 186 0 (12 * S0_.1 13 0 106 + c_).toNat) dl_.length v_ 8 = tbr 1 (S0_.2.2.1 215 0 cu_.toNat))) (S0_.2.2.1 187 0 (12 * S0_.1 13 0 106 + c_).toNat) c_.toNat dl_ dl_.length) (o_.toNat * 2 ^ dl_.length + tu_.toNat) b1_)) ∧ True) → ((100 * (50 - o_) + 80 - tu_).toNat) < nn_ → sm_T (mt_P sc_) 3 408 (24, [some (.inr (.inr (some (13, 0)))), some (.inl n_), some (.inl c_), some (.inl cu_), some (.inl sz_), some (.inl o_), some (.inl tu_), none], [], S_) (fun ro9_ => ∃ u_ S1_, ro9_ = (.inl u_, S1_, 0) ∧ vq_408n n_ c_ cu_ sz_ F_ dl_ b0_ b1_ S0_ u_ S1_)) := by
  intro nn_
  induction nn_ with
  | zero => exact ⟨fun _ _ _ _ _ h_ => absurd h_ (Nat.not_lt_zero _), fun _ _ _ _ _ _ h_ => absurd h_ (Nat.not_lt_zero _)⟩
  | succ nn_ ih_ =>
    refine ⟨?_, ?_⟩
    · rintro o_ S_ hI_ hF_ ⟨h0_, k0_, k1_, k2_, hr0_, hr1_, -⟩ hm_
      have lz9_ := hdl_.1
      have sh8_ := p2_i (ip_ := dl_.length) (by omega)
      rw [← hszl] at sh8_
      have f187_ : S_.2.2.1 187 0 = S0_.2.2.1 187 0 := fr_arr hF_ rfl
      have f186_ : S_.2.2.1 186 0 = S0_.2.2.1 186 0 := fr_arr hF_ rfl
      have f215_ : S_.2.2.1 215 0 = S0_.2.2.1 215 0 := fr_arr hF_ rfl
      have f205_ : S_.2.2.1 205 0 = S0_.2.2.1 205 0 := fr_arr hF_ rfl
      have c85_ : ∀ k_, S_.2.2.1 185 0 k_ ≤ 3 := fun k_ => (hI_.2 185 0 k_).2
      have f160_ : S_.2.2.1 160 0 (S_.1 13 0 105).toNat = F_ := by (rw [hF_.1 13 0 105 rfl, fr_arr (t := 160) (i := 0) hF_ rfl]; exact hf_)
      have g106_ : S_.1 13 0 106 = S0_.1 13 0 106 := hF_.1 13 0 106 rfl
      have g114_ : S_.1 13 0 114 = S0_.1 13 0 114 := hF_.1 13 0 114 rfl
      have f202_ : S_.2.2.1 202 0 = S0_.2.2.1 202 0 := fr_arr hF_ rfl
      have f204_ : S_.2.2.1 204 0 = S0_.2.2.1 204 0 := fr_arr hF_ rfl
      have f185_ : S_.2.2.1 185 0 = S0_.2.2.1 185 0 := fr_arr hF_ rfl
      have ct9_ : ctp (cnd9 n_ (S0_.2.2.1 202 0)) S_ := ctp_fr hct_ hF_
      have b114_ : S_.1 13 0 114 ≤ 64 := (hI_.1 13 0 114 rfl).2
      have b106_ : 0 ≤ S_.1 13 0 106 ∧ S_.1 13 0 106 ≤ 2 := hI_.1 13 0 106 rfl
      refine sm_T_go 3 (c1 := (8, [some (.inr (.inr (some (13, 0)))), some (.inl n_), some (.inl c_), some (.inl cu_), some (.inl sz_), some (.inl o_), none, none], [.inl 3, .inl sz_, .inl o_], S_)) rfl ?_
      refine sm_T_br (a := 1) (z := 8) rfl (fun cx1_ => ?_) (fun cx1_ => ?_)
      · have cx1_ : sz_ ≠ 3 := of_decide_eq_true cx1_
        refine sm_T_go 1 (c1 := (18, [some (.inr (.inr (some (13, 0)))), some (.inl n_), some (.inl c_), some (.inl cu_), some (.inl sz_), some (.inl o_), none, none], [.inl sz_, .inl o_], S_)) rfl ?_
        refine sm_T_br (a := 3) (z := 102) rfl (fun cx2_ => ?_) (fun cx2_ => ?_)
        · have cx2_ : sz_ ≤ o_ := of_decide_eq_true cx2_
          refine sm_T_rv rfl ⟨_, _, rfl, rfl, hI_, hF_, ?_⟩
          rw [← vv_e (o_ := o_.toNat) (ip_ := dl_.length) (by omega)]
          exact ⟨⟨k0_, k1_, k2_⟩, hr0_, hr1_⟩
        · have cx2_ : ¬ (sz_ ≤ o_) := of_decide_eq_false cx2_
          refine sm_T_go 2 (c1 := (24, [some (.inr (.inr (some (13, 0)))), some (.inl n_), some (.inl c_), some (.inl cu_), some (.inl sz_), some (.inl o_), some (.inl 0), none], [], S_)) rfl ?_
          refine ih_.2 o_ 0 S_ hI_ hF_ ⟨?_, ?_, ?_, ?_, ?_, ?_, trivial⟩ ?_
          · (have pz9_ := Nat.two_pow_pos dl_.length; omega)
          · first | exact p105_.1 | exact p78_.1 | exact k0_
          · first | exact p105_.2.1 | exact p78_.2.1 | exact k1_
          · first | exact wf2_tr (wf2_tr k2_ p78_.2.2) p105_.2.2 | exact wf2_tr k2_ p105_.2.2 | exact wf2_tr k2_ p78_.2.2 | exact k2_
          · exact hr0_
          · exact hr1_
          · omega
      · have cx1_ : ¬ (sz_ ≠ 3) := of_decide_eq_false cx1_
        refine sm_T_go 2 (c1 := (18, [some (.inr (.inr (some (13, 0)))), some (.inl n_), some (.inl c_), some (.inl cu_), some (.inl sz_), some (.inl o_), none, none], [.inl 6, .inl o_], S_)) rfl ?_
        refine sm_T_br (a := 3) (z := 102) rfl (fun cx3_ => ?_) (fun cx3_ => ?_)
        · have cx3_ : 6 ≤ o_ := of_decide_eq_true cx3_
          refine sm_T_rv rfl ⟨_, _, rfl, rfl, hI_, hF_, ?_⟩
          rw [← vv_e (o_ := o_.toNat) (ip_ := dl_.length) (by omega)]
          exact ⟨⟨k0_, k1_, k2_⟩, hr0_, hr1_⟩
        · have cx3_ : ¬ (6 ≤ o_) := of_decide_eq_false cx3_
          refine sm_T_go 2 (c1 := (24, [some (.inr (.inr (some (13, 0)))), some (.inl n_), some (.inl c_), some (.inl cu_), some (.inl sz_), some (.inl o_), some (.inl 0), none], [], S_)) rfl ?_
          refine ih_.2 o_ 0 S_ hI_ hF_ ⟨?_, ?_, ?_, ?_, ?_, ?_, trivial⟩ ?_
          · (have pz9_ := Nat.two_pow_pos dl_.length; omega)
          · first | exact p105_.1 | exact p78_.1 | exact k0_
          · first | exact p105_.2.1 | exact p78_.2.1 | exact k1_
          · first | exact wf2_tr (wf2_tr k2_ p78_.2.2) p105_.2.2 | exact wf2_tr k2_ p105_.2.2 | exact wf2_tr k2_ p78_.2.2 | exact k2_
          · exact hr0_
          · exact hr1_
          · omega
    · rintro o_ tu_ S_ hI_ hF_ ⟨h0_, k0_, k1_, k2_, hr0_, hr1_, -⟩ hm_
      have lz9_ := hdl_.1
      have sh8_ := p2_i (ip_ := dl_.length) (by omega)
      rw [← hszl] at sh8_
      have f187_ : S_.2.2.1 187 0 = S0_.2.2.1 187 0 := fr_arr hF_ rfl
      have f186_ : S_.2.2.1 186 0 = S0_.2.2.1 186 0 := fr_arr hF_ rfl
      have f215_ : S_.2.2.1 215 0 = S0_.2.2.1 215 0 := fr_arr hF_ rfl
      have f205_ : S_.2.2.1 205 0 = S0_.2.2.1 205 0 := fr_arr hF_ rfl
      have c85_ : ∀ k_, S_.2.2.1 185 0 k_ ≤ 3 := fun k_ => (hI_.2 185 0 k_).2
      have f160_ : S_.2.2.1 160 0 (S_.1 13 0 105).toNat = F_ := by (rw [hF_.1 13 0 105 rfl, fr_arr (t := 160) (i := 0) hF_ rfl]; exact hf_)
      have g106_ : S_.1 13 0 106 = S0_.1 13 0 106 := hF_.1 13 0 106 rfl
      have g114_ : S_.1 13 0 114 = S0_.1 13 0 114 := hF_.1 13 0 114 rfl
      have f202_ : S_.2.2.1 202 0 = S0_.2.2.1 202 0 := fr_arr hF_ rfl
      have f204_ : S_.2.2.1 204 0 = S0_.2.2.1 204 0 := fr_arr hF_ rfl
      have f185_ : S_.2.2.1 185 0 = S0_.2.2.1 185 0 := fr_arr hF_ rfl
      have ct9_ : ctp (cnd9 n_ (S0_.2.2.1 202 0)) S_ := ctp_fr hct_ hF_
      have b114_ : S_.1 13 0 114 ≤ 64 := (hI_.1 13 0 114 rfl).2
      have b106_ : 0 ≤ S_.1 13 0 106 ∧ S_.1 13 0 106 ≤ 2 := hI_.1 13 0 106 rfl
      have s9_ := i_shl1 (e := sz_) (by omega) (by omega)
      have w9_ := pw_le (n := sz_.toNat) (m := 3) (by omega)
      refine sm_T_go 3 (c1 := (29, [some (.inr (.inr (some (13, 0)))), some (.inl n_), some (.inl c_), some (.inl cu_), some (.inl sz_), some (.inl o_), some (.inl tu_), none], [.inl sz_, .inl 1, .inl tu_], S_)) rfl ?_
      refine sm_T_bin (w := (i_shl 1 sz_)) rfl rfl ?_ -- pc_ 29
      have sh9_ := p2_i (ip_ := dl_.length) (by omega)
      rw [← hszl] at sh9_
      refine sm_T_br (a := 3) (z := 84) rfl (fun cx3_ => ?_) (fun cx3_ => ?_)
      · have cx3_ : (i_shl 1 sz_) ≤ tu_ := of_decide_eq_true cx3_
        refine sm_T_inc (a := 5) (z := 1) (v := o_) (w := o_ + 1) rfl rfl (by omega) (by omega) (by omega) ?_ -- pc_ 114
        refine sm_T_go 1 (c1 := (3, [some (.inr (.inr (some (13, 0)))), some (.inl n_), some (.inl c_), some (.inl cu_), some (.inl sz_), some (.inl (o_ + 1)), some (.inl tu_), none], [], S_)) rfl ?_
        refine sm_T_wk [some (.inr (.inr (some (13, 0)))), some (.inl n_), some (.inl c_), some (.inl cu_), some (.inl sz_), some (.inl (o_ + 1)), none, none] (by exact ⟨rfl, rfl, rfl, rfl, rfl, rfl, trivial⟩) ?_
        refine ih_.1 (o_ + 1) S_ hI_ hF_ ⟨?_, ?_, ?_, ?_, ?_, ?_, trivial⟩ ?_
        · omega
        · first | exact p105_.1 | exact p78_.1 | exact k0_
        · first | exact p105_.2.1 | exact p78_.2.1 | exact k1_
        · first | exact wf2_tr (wf2_tr k2_ p78_.2.2) p105_.2.2 | exact wf2_tr k2_ p105_.2.2 | exact wf2_tr k2_ p78_.2.2 | exact k2_
        · (rw [show (o_ + 1).toNat = o_.toNat + 1 by omega, ← vv_s (by omega)]; have z9_ := hr0_; rw [show tu_.toNat = 2 ^ dl_.length by omega] at z9_; exact z9_)
        · (rw [show (o_ + 1).toNat = o_.toNat + 1 by omega, ← vv_s (by omega)]; have z9_ := hr1_; rw [show tu_.toNat = 2 ^ dl_.length by omega] at z9_; exact z9_)
        · omega
      · have cx3_ : ¬ ((i_shl 1 sz_) ≤ tu_) := of_decide_eq_false cx3_
        have bx4_ : 0 ≤ S_.1 13 0 106 ∧ S_.1 13 0 106 ≤ 2 := hI_.1 13 0 106 rfl
        refine sm_T_go 5 (c1 := (43, [some (.inr (.inr (some (13, 0)))), some (.inl n_), some (.inl c_), some (.inl cu_), some (.inl sz_), some (.inl o_), some (.inl tu_), none], [.inl (S_.1 13 0 106), .inl 12, .inr (.inr (some (186, 0)))], S_)) rfl ?_
        refine sm_T_bin (w := 12 * (S_.1 13 0 106)) rfl (bi_mul (by omega) (by omega) (by omega)) ?_ -- pc_ 43
        refine sm_T_go 1 (c1 := (45, [some (.inr (.inr (some (13, 0)))), some (.inl n_), some (.inl c_), some (.inl cu_), some (.inl sz_), some (.inl o_), some (.inl tu_), none], [.inl c_, .inl (12 * (S_.1 13 0 106)), .inr (.inr (some (186, 0)))], S_)) rfl ?_
        refine sm_T_bin (w := 12 * (S_.1 13 0 106) + c_) rfl (bi_add (by omega) (by omega) (by omega)) ?_ -- pc_ 45
        refine sm_T_iald (n := 36) rfl rfl (by omega) (by omega) ?_
        have bx5_ : 0 ≤ S_.2.2.1 186 0 (12 * (S_.1 13 0 106) + c_).toNat ∧ S_.2.2.1 186 0 (12 * (S_.1 13 0 106) + c_).toNat ≤ 255 := hI_.2 186 0 _
        refine sm_T_go 3 (c1 := (53, [some (.inr (.inr (some (13, 0)))), some (.inl n_), some (.inl c_), some (.inl cu_), some (.inl sz_), some (.inl o_), some (.inl tu_), none], [.inl tu_, .inl o_, .inl sz_, .inl (S_.2.2.1 186 0 (12 * (S_.1 13 0 106) + c_).toNat)], S_)) rfl ?_
        refine sm_T_cal (d1 := 1) (Q1 := vq_405n (S_.2.2.1 186 0 (12 * (S_.1 13 0 106) + c_).toNat) sz_ o_ tu_ S_) rfl rfl (by decide) (vc_405n (S_.2.2.1 186 0 (12 * (S_.1 13 0 106) + c_).toNat) sz_ o_ tu_ S_ hI_ (by omega)) (fun u_ Sx6_ px9_ => ?_)
        obtain ⟨rfl, vx11_, rfl, px9_⟩ := px9_
        have tz9_ : tu_.toNat < 2 ^ dl_.length := by (have z9_ := sh9_; omega)
        have e53_ := (px9_).2
        have v53_ : vx11_ = vwt (S0_.2.2.1 186 0 (12 * S0_.1 13 0 106 + c_).toNat) dl_.length (o_.toNat * 2 ^ dl_.length + tu_.toNat) 8 := by (rw [e53_]; unfold vwt; rw [(vv_d (by omega) tz9_).1, (vv_d (by omega) tz9_).2, show ((o_.toNat : Nat) : Int) = o_ by omega, show ((tu_.toNat : Nat) : Int) = tu_ by omega, ← hszl, show dl_.length = sz_.toNat by omega, f186_, g106_])
        refine sm_T_go 5 (c1 := (65, [some (.inr (.inr (some (13, 0)))), some (.inl n_), some (.inl c_), some (.inl cu_), some (.inl sz_), some (.inl o_), some (.inl tu_), some (.inl vx11_)], [.inl cu_, .inr (.inr (some (215, 0))), .inl vx11_], S_)) rfl ?_
        refine sm_T_iald (n := 64) rfl rfl (by omega) (by omega) ?_
        have bx12_ : 0 ≤ S_.2.2.1 215 0 cu_.toNat ∧ S_.2.2.1 215 0 cu_.toNat ≤ 255 := hI_.2 215 0 _
        refine sm_T_br (a := 1) (z := 15) rfl (fun cx13_ => ?_) (fun cx13_ => ?_)
        · have cx13_ : vx11_ ≠ (S_.2.2.1 215 0 cu_.toNat) := of_decide_eq_true cx13_
          have n66_ : ¬ ((fun v_ => decide (vwt (S0_.2.2.1 186 0 (12 * S0_.1 13 0 106 + c_).toNat) dl_.length v_ 8 = tbr 0 (S0_.2.2.1 215 0 cu_.toNat))) (o_.toNat * 2 ^ dl_.length + tu_.toNat) = true) := fun u9_ => cx13_ (by (rw [v53_, f215_]; exact of_decide_eq_true u9_))
          refine sm_T_go 4 (c1 := (88, [some (.inr (.inr (some (13, 0)))), some (.inl n_), some (.inl c_), some (.inl cu_), some (.inl sz_), some (.inl o_), some (.inl tu_), some (.inl vx11_)], [.inl cu_, .inr (.inr (some (215, 0))), .inl vx11_], S_)) rfl ?_
          refine sm_T_iald (n := 64) rfl rfl (by omega) (by omega) ?_
          refine sm_T_go 1 (c1 := (92, [some (.inr (.inr (some (13, 0)))), some (.inl n_), some (.inl c_), some (.inl cu_), some (.inl sz_), some (.inl o_), some (.inl tu_), some (.inl vx11_)], [.inl 255, .inl (S_.2.2.1 215 0 cu_.toNat), .inl vx11_], S_)) rfl ?_
          refine sm_T_bin (w := (i_xor (S_.2.2.1 215 0 cu_.toNat) 255)) rfl rfl ?_ -- pc_ 92
          have bx14_ := i_xor_n (S_.2.2.1 215 0 cu_.toNat) 255
          refine sm_T_br (a := 1) (z := 15) rfl (fun cx15_ => ?_) (fun cx15_ => ?_)
          · have cx15_ : vx11_ ≠ (i_xor (S_.2.2.1 215 0 cu_.toNat) 255) := of_decide_eq_true cx15_
            have n93_ : ¬ ((fun v_ => decide (vwt (S0_.2.2.1 186 0 (12 * S0_.1 13 0 106 + c_).toNat) dl_.length v_ 8 = tbr 1 (S0_.2.2.1 215 0 cu_.toNat))) (o_.toNat * 2 ^ dl_.length + tu_.toNat) = true) := fun u9_ => cx15_ (by (rw [v53_]; first | (rw [y215_, f215_]; exact of_decide_eq_true u9_) | (rw [f215_]; exact of_decide_eq_true u9_)))
            refine sm_T_inc (a := 6) (z := 1) (v := tu_) (w := tu_ + 1) rfl rfl (by omega) (by omega) (by omega) ?_ -- pc_ 108
            refine sm_T_go 1 (c1 := (24, [some (.inr (.inr (some (13, 0)))), some (.inl n_), some (.inl c_), some (.inl cu_), some (.inl sz_), some (.inl o_), some (.inl (tu_ + 1)), some (.inl vx11_)], [], S_)) rfl ?_
            refine sm_T_wk [some (.inr (.inr (some (13, 0)))), some (.inl n_), some (.inl c_), some (.inl cu_), some (.inl sz_), some (.inl o_), some (.inl (tu_ + 1)), none] (by exact ⟨rfl, rfl, rfl, rfl, rfl, rfl, rfl, trivial⟩) ?_
            refine ih_.2 o_ (tu_ + 1) S_ hI_ hF_ ⟨?_, ?_, ?_, ?_, ?_, ?_, trivial⟩ ?_
            · omega
            · first | exact p105_.1 | exact p78_.1 | exact k0_
            · first | exact p105_.2.1 | exact p78_.2.1 | exact k1_
            · first | exact wf2_tr (wf2_tr k2_ p78_.2.2) p105_.2.2 | exact wf2_tr k2_ p105_.2.2 | exact wf2_tr k2_ p78_.2.2 | exact k2_
            · rw [show (tu_ + 1).toNat = tu_.toNat + 1 by omega, ← Nat.add_assoc, cfo_s]
              first | (have y8_ := r78_; rw [wvs_h h66_]; first | (have y7_ := r105_; exact p105x _ r78_) | exact r78_) | (rw [wvs_n n66_]; first | (have y7_ := r105_; exact p105x _ hr0_) | exact hr0_)
            · rw [show (tu_ + 1).toNat = tu_.toNat + 1 by omega, ← Nat.add_assoc, cfo_s]
              first | (have y7_ := r105_; rw [wvs_h h93_]; exact r105_) | (rw [wvs_n n93_]; first | (have y8_ := r78_; exact p78x _ hr1_) | exact hr1_)
            · omega
          · have cx15_ : ¬ (vx11_ ≠ (i_xor (S_.2.2.1 215 0 cu_.toNat) 255)) := of_decide_eq_false cx15_
            have h93_ : (fun v_ => decide (vwt (S0_.2.2.1 186 0 (12 * S0_.1 13 0 106 + c_).toNat) dl_.length v_ 8 = tbr 1 (S0_.2.2.1 215 0 cu_.toNat))) (o_.toNat * 2 ^ dl_.length + tu_.toNat) = true := decide_eq_true (show vwt _ _ _ _ = i_xor (S0_.2.2.1 215 0 cu_.toNat) 255 by (rw [← v53_]; first | (rw [← f215_, ← y215_]; omega) | (rw [← f215_]; omega)))
            refine sm_T_go 7 (c1 := (105, [some (.inr (.inr (some (13, 0)))), some (.inl n_), some (.inl c_), some (.inl cu_), some (.inl sz_), some (.inl o_), some (.inl tu_), some (.inl vx11_)], [.inl tu_, .inl o_, .inl cu_, .inl c_, .inl 1, .inl n_, .inr (.inr (some (13, 0)))], S_)) rfl ?_
            refine sm_T_cal (d1 := 2) (Q1 := vq_406n n_ 1 c_ cu_ o_ tu_ F_ dl_ (o_.toNat * 2 ^ dl_.length + tu_.toNat) (cfo (wvs adr (pcq F_ S0_) (fun v_ => decide (vwt (S0_.2.2.1 186 0 (12 * S0_.1 13 0 106 + c_).toNat) dl_.length v_ 8 = tbr 1 (S0_.2.2.1 215 0 cu_.toNat))) (S0_.2.2.1 187 0 (12 * S0_.1 13 0 106 + c_).toNat) c_.toNat dl_ dl_.length) (o_.toNat * 2 ^ dl_.length + tu_.toNat) b1_) S_) rfl rfl (by decide) (vc_406n n_ 1 c_ cu_ o_ tu_ F_ dl_ (o_.toNat * 2 ^ dl_.length + tu_.toNat) (cfo (wvs adr (pcq F_ S0_) (fun v_ => decide (vwt (S0_.2.2.1 186 0 (12 * S0_.1 13 0 106 + c_).toNat) dl_.length v_ 8 = tbr 1 (S0_.2.2.1 215 0 cu_.toNat))) (S0_.2.2.1 187 0 (12 * S0_.1 13 0 106 + c_).toNat) c_.toNat dl_ dl_.length) (o_.toNat * 2 ^ dl_.length + tu_.toNat) b1_) S_ hI_ (by first | exact y160_ | exact f160_) (by omega) (by omega) (by first | (rw [y202_, f202_]; exact yct_) | (rw [f202_]; exact ct9_)) (by first | (rw [y204_, y185_, y106_, f204_, f185_, g106_]; exact hsz_) | (rw [f204_, f185_, g106_]; exact hsz_)) (by first | exact p78_.1 | exact k0_) (by first | exact p78_.2.1 | exact k1_) (by omega) (by (first | exact ⟨lz9_, by (rw [y204_, f204_]; exact hdl_.2)⟩ | exact ⟨lz9_, by (rw [f204_]; exact hdl_.2)⟩)) (by (intro k9_ x9_ u9_; first | (rw [show S_.2.2.1 205 0 = S_.2.2.1 205 0 from y205_, f205_]; exact hcv_ k9_ x9_ u9_) | (rw [f205_]; exact hcv_ k9_ x9_ u9_))) (by exact ⟨vv_w (by omega) tz9_ (by omega), by (rw [(vv_d (by omega) tz9_).1]; omega), by (rw [(vv_d (by omega) tz9_).2]; omega)⟩) (by first | exact p78x _ hr1_ | exact hr1_)) (fun u_ Sx16_ px19_ => ?_)
            obtain ⟨rfl, hIx17_, hFx18_, px19_⟩ := px19_
            have hFx20_ : ai_fr (sx_W vw_408n) S0_ Sx16_ := ai_fr_tr hF_ (fr_le hFx18_ rfl)
            have ex21_ : Sx16_.1 13 0 106 = S_.1 13 0 106 := hFx18_.1 13 0 106 rfl
            have p105_ := (px19_).1
            have r105_ := (px19_).2.2
            have w105_ := (px19_).2.1
            have xp105_ : pcq F_ S_ = pcq F_ S0_ := (cst_fr (F_ := F_) hFx18_).symm.trans (cst_fr (F_ := F_) hFx20_)
            have xa105_ := (fr_arr (t := 187) (i := 0) hFx18_ rfl).symm.trans (fr_arr (t := 187) (i := 0) hFx20_ rfl)
            have xl105_ := (hFx18_.1 13 0 106 rfl).symm.trans (hFx20_.1 13 0 106 rfl)
            rw [xp105_, xa105_, xl105_] at r105_
            skip
            have p105x : ∀ b9_ : Int × Int × Int × (Nat → Int), wrr S_ (2 * n_).toNat b9_ → wrr Sx16_ (2 * n_).toNat b9_ := fun b9_ h9_ => wrr_f h9_ w105_ (by omega) (fr_arr hFx18_ rfl) (hFx18_.1 13 0 106 rfl) (fun k_ => by (have z9_ := ((hIx17_).2 185 0 k_).2; rw [fr_arr (t := 185) (i := 0) hFx18_ rfl] at z9_; exact z9_))
            refine sm_T_inc (a := 6) (z := 1) (v := tu_) (w := tu_ + 1) rfl rfl (by omega) (by omega) (by omega) ?_ -- pc_ 108
            refine sm_T_go 1 (c1 := (24, [some (.inr (.inr (some (13, 0)))), some (.inl n_), some (.inl c_), some (.inl cu_), some (.inl sz_), some (.inl o_), some (.inl (tu_ + 1)), some (.inl vx11_)], [], Sx16_)) rfl ?_
            refine sm_T_wk [some (.inr (.inr (some (13, 0)))), some (.inl n_), some (.inl c_), some (.inl cu_), some (.inl sz_), some (.inl o_), some (.inl (tu_ + 1)), none] (by exact ⟨rfl, rfl, rfl, rfl, rfl, rfl, rfl, trivial⟩) ?_
            refine ih_.2 o_ (tu_ + 1) Sx16_ hIx17_ hFx20_ ⟨?_, ?_, ?_, ?_, ?_, ?_, trivial⟩ ?_
            · omega
            · first | exact p105_.1 | exact p78_.1 | exact k0_
            · first | exact p105_.2.1 | exact p78_.2.1 | exact k1_
            · first | exact wf2_tr (wf2_tr k2_ p78_.2.2) p105_.2.2 | exact wf2_tr k2_ p105_.2.2 | exact wf2_tr k2_ p78_.2.2 | exact k2_
            · rw [show (tu_ + 1).toNat = tu_.toNat + 1 by omega, ← Nat.add_assoc, cfo_s]
              first | (have y8_ := r78_; rw [wvs_h h66_]; first | (have y7_ := r105_; exact p105x _ r78_) | exact r78_) | (rw [wvs_n n66_]; first | (have y7_ := r105_; exact p105x _ hr0_) | exact hr0_)
            · rw [show (tu_ + 1).toNat = tu_.toNat + 1 by omega, ← Nat.add_assoc, cfo_s]
              first | (have y7_ := r105_; rw [wvs_h h93_]; exact r105_) | (rw [wvs_n n93_]; first | (have y8_ := r78_; exact p78x _ hr1_) | exact hr1_)
            · omega
        · have cx13_ : ¬ (vx11_ ≠ (S_.2.2.1 215 0 cu_.toNat)) := of_decide_eq_false cx13_
          have h66_ : (fun v_ => decide (vwt (S0_.2.2.1 186 0 (12 * S0_.1 13 0 106 + c_).toNat) dl_.length v_ 8 = tbr 0 (S0_.2.2.1 215 0 cu_.toNat))) (o_.toNat * 2 ^ dl_.length + tu_.toNat) = true := decide_eq_true (show vwt _ _ _ _ = S0_.2.2.1 215 0 cu_.toNat by (rw [← v53_, ← f215_]; omega))
          refine sm_T_go 7 (c1 := (78, [some (.inr (.inr (some (13, 0)))), some (.inl n_), some (.inl c_), some (.inl cu_), some (.inl sz_), some (.inl o_), some (.inl tu_), some (.inl vx11_)], [.inl tu_, .inl o_, .inl cu_, .inl c_, .inl 0, .inl n_, .inr (.inr (some (13, 0)))], S_)) rfl ?_
          refine sm_T_cal (d1 := 2) (Q1 := vq_406n n_ 0 c_ cu_ o_ tu_ F_ dl_ (o_.toNat * 2 ^ dl_.length + tu_.toNat) (cfo (wvs adr (pcq F_ S0_) (fun v_ => decide (vwt (S0_.2.2.1 186 0 (12 * S0_.1 13 0 106 + c_).toNat) dl_.length v_ 8 = tbr 0 (S0_.2.2.1 215 0 cu_.toNat))) (S0_.2.2.1 187 0 (12 * S0_.1 13 0 106 + c_).toNat) c_.toNat dl_ dl_.length) (o_.toNat * 2 ^ dl_.length + tu_.toNat) b0_) S_) rfl rfl (by decide) (vc_406n n_ 0 c_ cu_ o_ tu_ F_ dl_ (o_.toNat * 2 ^ dl_.length + tu_.toNat) (cfo (wvs adr (pcq F_ S0_) (fun v_ => decide (vwt (S0_.2.2.1 186 0 (12 * S0_.1 13 0 106 + c_).toNat) dl_.length v_ 8 = tbr 0 (S0_.2.2.1 215 0 cu_.toNat))) (S0_.2.2.1 187 0 (12 * S0_.1 13 0 106 + c_).toNat) c_.toNat dl_ dl_.length) (o_.toNat * 2 ^ dl_.length + tu_.toNat) b0_) S_ hI_ (by exact f160_) (by omega) (by omega) (by (rw [f202_]; exact ct9_)) (by (rw [f204_, f185_, g106_]; exact hsz_)) (by exact k0_) (by exact k1_) (by omega) (by (first | exact ⟨lz9_, by (rw [y204_, f204_]; exact hdl_.2)⟩ | exact ⟨lz9_, by (rw [f204_]; exact hdl_.2)⟩)) (by (intro k9_ x9_ u9_; first | (rw [show S_.2.2.1 205 0 = S_.2.2.1 205 0 from y205_, f205_]; exact hcv_ k9_ x9_ u9_) | (rw [f205_]; exact hcv_ k9_ x9_ u9_))) (by exact ⟨vv_w (by omega) tz9_ (by omega), by (rw [(vv_d (by omega) tz9_).1]; omega), by (rw [(vv_d (by omega) tz9_).2]; omega)⟩) (by (rw [show 2 * n_ + 0 = 2 * n_ by omega]; exact hr0_))) (fun u_ Sx22_ px25_ => ?_)
          obtain ⟨rfl, hIx23_, hFx24_, px25_⟩ := px25_
          have hFx26_ : ai_fr (sx_W vw_408n) S0_ Sx22_ := ai_fr_tr hF_ (fr_le hFx24_ rfl)
          have ex27_ : Sx22_.1 13 0 106 = S_.1 13 0 106 := hFx24_.1 13 0 106 rfl
          have p78_ := (px25_).1
          have y215_ : Sx22_.2.2.1 215 0 = S_.2.2.1 215 0 := fr_arr hFx24_ rfl
          have y205_ : Sx22_.2.2.1 205 0 = S_.2.2.1 205 0 := fr_arr hFx24_ rfl
          have r78_ := (px25_).2.2
          have w78_ := (px25_).2.1
          have xp78_ : pcq F_ S_ = pcq F_ S0_ := (cst_fr (F_ := F_) hFx24_).symm.trans (cst_fr (F_ := F_) hFx26_)
          have xa78_ := (fr_arr (t := 187) (i := 0) hFx24_ rfl).symm.trans (fr_arr (t := 187) (i := 0) hFx26_ rfl)
          have xl78_ := (hFx24_.1 13 0 106 rfl).symm.trans (hFx26_.1 13 0 106 rfl)
          rw [xp78_, xa78_, xl78_] at r78_
          rw [show 2 * n_ + 0 = 2 * n_ by omega] at r78_ w78_
          have p78x : ∀ b9_ : Int × Int × Int × (Nat → Int), wrr S_ (2 * n_ + 1).toNat b9_ → wrr Sx22_ (2 * n_ + 1).toNat b9_ := fun b9_ h9_ => wrr_f h9_ w78_ (by omega) (fr_arr hFx24_ rfl) (hFx24_.1 13 0 106 rfl) (fun k_ => by (have z9_ := ((hIx23_).2 185 0 k_).2; rw [fr_arr (t := 185) (i := 0) hFx24_ rfl] at z9_; exact z9_))
          have y160_ : Sx22_.2.2.1 160 0 (Sx22_.1 13 0 105).toNat = F_ := by (rw [hFx24_.1 13 0 105 rfl, fr_arr (t := 160) (i := 0) hFx24_ rfl]; exact f160_)
          have y202_ : Sx22_.2.2.1 202 0 = S_.2.2.1 202 0 := fr_arr hFx24_ rfl
          have y204_ : Sx22_.2.2.1 204 0 = S_.2.2.1 204 0 := fr_arr hFx24_ rfl
          have y185_ : Sx22_.2.2.1 185 0 = S_.2.2.1 185 0 := fr_arr hFx24_ rfl
          have y106_ := hFx24_.1 13 0 106 rfl
          have y114_ := hFx24_.1 13 0 114 rfl
          have yct_ : ctp (cnd9 n_ (S0_.2.2.1 202 0)) Sx22_ := ctp_fr ct9_ hFx24_
          refine sm_T_go 4 (c1 := (88, [some (.inr (.inr (some (13, 0)))), some (.inl n_), some (.inl c_), some (.inl cu_), some (.inl sz_), some (.inl o_), some (.inl tu_), some (.inl vx11_)], [.inl cu_, .inr (.inr (some (215, 0))), .inl vx11_], Sx22_)) rfl ?_
          refine sm_T_iald (n := 64) rfl rfl (by omega) (by omega) ?_
          have bx28_ : 0 ≤ Sx22_.2.2.1 215 0 cu_.toNat ∧ Sx22_.2.2.1 215 0 cu_.toNat ≤ 255 := hIx23_.2 215 0 _
          refine sm_T_go 1 (c1 := (92, [some (.inr (.inr (some (13, 0)))), some (.inl n_), some (.inl c_), some (.inl cu_), some (.inl sz_), some (.inl o_), some (.inl tu_), some (.inl vx11_)], [.inl 255, .inl (Sx22_.2.2.1 215 0 cu_.toNat), .inl vx11_], Sx22_)) rfl ?_
          refine sm_T_bin (w := (i_xor (Sx22_.2.2.1 215 0 cu_.toNat) 255)) rfl rfl ?_ -- pc_ 92
          have bx29_ := i_xor_n (Sx22_.2.2.1 215 0 cu_.toNat) 255
          refine sm_T_br (a := 1) (z := 15) rfl (fun cx30_ => ?_) (fun cx30_ => ?_)
          · have cx30_ : vx11_ ≠ (i_xor (Sx22_.2.2.1 215 0 cu_.toNat) 255) := of_decide_eq_true cx30_
            have n93_ : ¬ ((fun v_ => decide (vwt (S0_.2.2.1 186 0 (12 * S0_.1 13 0 106 + c_).toNat) dl_.length v_ 8 = tbr 1 (S0_.2.2.1 215 0 cu_.toNat))) (o_.toNat * 2 ^ dl_.length + tu_.toNat) = true) := fun u9_ => cx30_ (by (rw [v53_]; first | (rw [y215_, f215_]; exact of_decide_eq_true u9_) | (rw [f215_]; exact of_decide_eq_true u9_)))
            refine sm_T_inc (a := 6) (z := 1) (v := tu_) (w := tu_ + 1) rfl rfl (by omega) (by omega) (by omega) ?_ -- pc_ 108
            refine sm_T_go 1 (c1 := (24, [some (.inr (.inr (some (13, 0)))), some (.inl n_), some (.inl c_), some (.inl cu_), some (.inl sz_), some (.inl o_), some (.inl (tu_ + 1)), some (.inl vx11_)], [], Sx22_)) rfl ?_
            refine sm_T_wk [some (.inr (.inr (some (13, 0)))), some (.inl n_), some (.inl c_), some (.inl cu_), some (.inl sz_), some (.inl o_), some (.inl (tu_ + 1)), none] (by exact ⟨rfl, rfl, rfl, rfl, rfl, rfl, rfl, trivial⟩) ?_
            refine ih_.2 o_ (tu_ + 1) Sx22_ hIx23_ hFx26_ ⟨?_, ?_, ?_, ?_, ?_, ?_, trivial⟩ ?_
            · omega
            · first | exact p105_.1 | exact p78_.1 | exact k0_
            · first | exact p105_.2.1 | exact p78_.2.1 | exact k1_
            · first | exact wf2_tr (wf2_tr k2_ p78_.2.2) p105_.2.2 | exact wf2_tr k2_ p105_.2.2 | exact wf2_tr k2_ p78_.2.2 | exact k2_
            · rw [show (tu_ + 1).toNat = tu_.toNat + 1 by omega, ← Nat.add_assoc, cfo_s]
              first | (have y8_ := r78_; rw [wvs_h h66_]; first | (have y7_ := r105_; exact p105x _ r78_) | exact r78_) | (rw [wvs_n n66_]; first | (have y7_ := r105_; exact p105x _ hr0_) | exact hr0_)
            · rw [show (tu_ + 1).toNat = tu_.toNat + 1 by omega, ← Nat.add_assoc, cfo_s]
              first | (have y7_ := r105_; rw [wvs_h h93_]; exact r105_) | (rw [wvs_n n93_]; first | (have y8_ := r78_; exact p78x _ hr1_) | exact hr1_)
            · omega
          · have cx30_ : ¬ (vx11_ ≠ (i_xor (Sx22_.2.2.1 215 0 cu_.toNat) 255)) := of_decide_eq_false cx30_
            have h93_ : (fun v_ => decide (vwt (S0_.2.2.1 186 0 (12 * S0_.1 13 0 106 + c_).toNat) dl_.length v_ 8 = tbr 1 (S0_.2.2.1 215 0 cu_.toNat))) (o_.toNat * 2 ^ dl_.length + tu_.toNat) = true := decide_eq_true (show vwt _ _ _ _ = i_xor (S0_.2.2.1 215 0 cu_.toNat) 255 by (rw [← v53_]; first | (rw [← f215_, ← y215_]; omega) | (rw [← f215_]; omega)))
            refine sm_T_go 7 (c1 := (105, [some (.inr (.inr (some (13, 0)))), some (.inl n_), some (.inl c_), some (.inl cu_), some (.inl sz_), some (.inl o_), some (.inl tu_), some (.inl vx11_)], [.inl tu_, .inl o_, .inl cu_, .inl c_, .inl 1, .inl n_, .inr (.inr (some (13, 0)))], Sx22_)) rfl ?_
            refine sm_T_cal (d1 := 2) (Q1 := vq_406n n_ 1 c_ cu_ o_ tu_ F_ dl_ (o_.toNat * 2 ^ dl_.length + tu_.toNat) (cfo (wvs adr (pcq F_ S0_) (fun v_ => decide (vwt (S0_.2.2.1 186 0 (12 * S0_.1 13 0 106 + c_).toNat) dl_.length v_ 8 = tbr 1 (S0_.2.2.1 215 0 cu_.toNat))) (S0_.2.2.1 187 0 (12 * S0_.1 13 0 106 + c_).toNat) c_.toNat dl_ dl_.length) (o_.toNat * 2 ^ dl_.length + tu_.toNat) b1_) Sx22_) rfl rfl (by decide) (vc_406n n_ 1 c_ cu_ o_ tu_ F_ dl_ (o_.toNat * 2 ^ dl_.length + tu_.toNat) (cfo (wvs adr (pcq F_ S0_) (fun v_ => decide (vwt (S0_.2.2.1 186 0 (12 * S0_.1 13 0 106 + c_).toNat) dl_.length v_ 8 = tbr 1 (S0_.2.2.1 215 0 cu_.toNat))) (S0_.2.2.1 187 0 (12 * S0_.1 13 0 106 + c_).toNat) c_.toNat dl_ dl_.length) (o_.toNat * 2 ^ dl_.length + tu_.toNat) b1_) Sx22_ hIx23_ (by first | exact y160_ | exact f160_) (by omega) (by omega) (by first | (rw [y202_, f202_]; exact yct_) | (rw [f202_]; exact ct9_)) (by first | (rw [y204_, y185_, y106_, f204_, f185_, g106_]; exact hsz_) | (rw [f204_, f185_, g106_]; exact hsz_)) (by first | exact p78_.1 | exact k0_) (by first | exact p78_.2.1 | exact k1_) (by omega) (by (first | exact ⟨lz9_, by (rw [y204_, f204_]; exact hdl_.2)⟩ | exact ⟨lz9_, by (rw [f204_]; exact hdl_.2)⟩)) (by (intro k9_ x9_ u9_; first | (rw [show Sx22_.2.2.1 205 0 = S_.2.2.1 205 0 from y205_, f205_]; exact hcv_ k9_ x9_ u9_) | (rw [f205_]; exact hcv_ k9_ x9_ u9_))) (by exact ⟨vv_w (by omega) tz9_ (by omega), by (rw [(vv_d (by omega) tz9_).1]; omega), by (rw [(vv_d (by omega) tz9_).2]; omega)⟩) (by first | exact p78x _ hr1_ | exact hr1_)) (fun u_ Sx31_ px34_ => ?_)
            obtain ⟨rfl, hIx32_, hFx33_, px34_⟩ := px34_
            have hFx35_ : ai_fr (sx_W vw_408n) S0_ Sx31_ := ai_fr_tr hFx26_ (fr_le hFx33_ rfl)
            have p105_ := (px34_).1
            have r105_ := (px34_).2.2
            have w105_ := (px34_).2.1
            have xp105_ : pcq F_ Sx22_ = pcq F_ S0_ := (cst_fr (F_ := F_) hFx33_).symm.trans (cst_fr (F_ := F_) hFx35_)
            have xa105_ := (fr_arr (t := 187) (i := 0) hFx33_ rfl).symm.trans (fr_arr (t := 187) (i := 0) hFx35_ rfl)
            have xl105_ := (hFx33_.1 13 0 106 rfl).symm.trans (hFx35_.1 13 0 106 rfl)
            rw [xp105_, xa105_, xl105_] at r105_
            skip
            have p105x : ∀ b9_ : Int × Int × Int × (Nat → Int), wrr Sx22_ (2 * n_).toNat b9_ → wrr Sx31_ (2 * n_).toNat b9_ := fun b9_ h9_ => wrr_f h9_ w105_ (by omega) (fr_arr hFx33_ rfl) (hFx33_.1 13 0 106 rfl) (fun k_ => by (have z9_ := ((hIx32_).2 185 0 k_).2; rw [fr_arr (t := 185) (i := 0) hFx33_ rfl] at z9_; exact z9_))
            refine sm_T_inc (a := 6) (z := 1) (v := tu_) (w := tu_ + 1) rfl rfl (by omega) (by omega) (by omega) ?_ -- pc_ 108
            refine sm_T_go 1 (c1 := (24, [some (.inr (.inr (some (13, 0)))), some (.inl n_), some (.inl c_), some (.inl cu_), some (.inl sz_), some (.inl o_), some (.inl (tu_ + 1)), some (.inl vx11_)], [], Sx31_)) rfl ?_
            refine sm_T_wk [some (.inr (.inr (some (13, 0)))), some (.inl n_), some (.inl c_), some (.inl cu_), some (.inl sz_), some (.inl o_), some (.inl (tu_ + 1)), none] (by exact ⟨rfl, rfl, rfl, rfl, rfl, rfl, rfl, trivial⟩) ?_
            refine ih_.2 o_ (tu_ + 1) Sx31_ hIx32_ hFx35_ ⟨?_, ?_, ?_, ?_, ?_, ?_, trivial⟩ ?_
            · omega
            · first | exact p105_.1 | exact p78_.1 | exact k0_
            · first | exact p105_.2.1 | exact p78_.2.1 | exact k1_
            · first | exact wf2_tr (wf2_tr k2_ p78_.2.2) p105_.2.2 | exact wf2_tr k2_ p105_.2.2 | exact wf2_tr k2_ p78_.2.2 | exact k2_
            · rw [show (tu_ + 1).toNat = tu_.toNat + 1 by omega, ← Nat.add_assoc, cfo_s]
              first | (have y8_ := r78_; rw [wvs_h h66_]; first | (have y7_ := r105_; exact p105x _ r78_) | exact r78_) | (rw [wvs_n n66_]; first | (have y7_ := r105_; exact p105x _ hr0_) | exact hr0_)
            · rw [show (tu_ + 1).toNat = tu_.toNat + 1 by omega, ← Nat.add_assoc, cfo_s]
              first | (have y7_ := r105_; rw [wvs_h h93_]; exact r105_) | (rw [wvs_n n93_]; first | (have y8_ := r78_; exact p78x _ hr1_) | exact hr1_)
            · omega
set_option maxHeartbeats 4000000 in
set_option maxRecDepth 20000 in
theorem vc_408n {sc_ : Nat × (Nat → Int)} (n_ : Int) (c_ : Int) (cu_ : Int) (sz_ : Int) (F_ : Int) (dl_ : List Nat) (b0_ : Int × Int × Int × (Nat → Int)) (b1_ : Int × Int × Int × (Nat → Int)) (S0_ : sm_S) (hI_ : gi S0_) (hdl_ : (2 ≤ dl_.length ∧ dl_.length ≤ 3) ∧ S0_.2.2.1 204 0 cu_.toNat = (dl_.length : Int)) (hcv_ : ∀ k_ x_ : Nat, dl_[k_]? = some x_ → S0_.2.2.1 205 0 (3 * cu_.toNat + k_) = (x_ : Int)) (hszl : sz_ = (dl_.length : Int)) (hb0_ : wrr S0_ (2 * n_).toNat b0_) (hb1_ : wrr S0_ (2 * n_ + 1).toNat b1_) (hf_ : S0_.2.2.1 160 0 (S0_.1 13 0 105).toNat = F_) (hn_ : 1 ≤ F_ ∧ F_ ≤ n_ ∧ n_ ≤ 1012) (hh_ : 0 ≤ c_ ∧ c_ ≤ 11 ∧ 0 ≤ cu_ ∧ cu_ < S0_.1 13 0 114 ∧ 1 ≤ sz_ ∧ sz_ ≤ 3) (hct_ : ctp (cnd9 n_ (S0_.2.2.1 202 0)) S0_) (hsz_ : S0_.2.2.1 204 0 cu_.toNat = S0_.2.2.1 185 0 (12 * S0_.1 13 0 106 + c_).toNat) (hw0_ : wyc F_ n_ S0_ (2 * n_)) (hw1_ : wyc F_ n_ S0_ (2 * n_ + 1)) : sm_T (mt_P sc_) 3 408 (0, [some (.inr (.inr (some (13, 0)))), some (.inl n_), some (.inl c_), some (.inl cu_), some (.inl sz_), none, none, none], [], S0_) (fun ro9_ => ∃ u_ S1_, ro9_ = (.inl u_, S1_, 0) ∧ vq_408n n_ c_ cu_ sz_ F_ dl_ b0_ b1_ S0_ u_ S1_) := by
  have hF_ : ai_fr (sx_W vw_408n) S0_ S0_ := ai_fr_rf
  refine sm_T_go 2 (c1 := (3, [some (.inr (.inr (some (13, 0)))), some (.inl n_), some (.inl c_), some (.inl cu_), some (.inl sz_), some (.inl 0), none, none], [], S0_)) rfl ?_
  refine (vl_408n n_ c_ cu_ sz_ F_ dl_ b0_ b1_ S0_ hdl_ hcv_ hszl hb0_ hb1_ hf_ hn_ hh_ hct_ hsz_ hw0_ hw1_ _).1 0 S0_ hI_ hF_ ⟨?_, ?_, ?_, ?_, ?_, ?_, trivial⟩ (Nat.lt_succ_self _)
  · omega
  · exact hw0_
  · exact hw1_
  · exact wf2_rf
  · (rw [show (0 : Int).toNat * 2 ^ dl_.length = 0 from Nat.zero_mul _]; exact hb0_)
  · (rw [show (0 : Int).toNat * 2 ^ dl_.length = 0 from Nat.zero_mul _]; exact hb1_)
end
