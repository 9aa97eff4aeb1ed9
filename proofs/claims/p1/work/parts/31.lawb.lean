/-! THE CLAIM OUT OF ONE WALK OF THE LAW'S BODY. Your part is whole_start (and what it stands on); all else here is the same for every law, but numbers. -/
def R_law : String := "ChipFlowLaw"
def lw_P (b : Addr) (xs : List Int32) (args : Array Value) (s : State) : Prop := args = #[.ref b] ∧ s.IntsAt b xs ∧ xs.length ≤ 7 ∧ (Jvm.Cond.and given_1 narrow_1).before args s = true
def lw_Q (_ : Array Value) (s : State) (o : Outcome) (t : State) : Prop := o = .returned (some (.int 1)) ∧ Framed s o t [] 600002 7302232
def lw_Z (below : List Frame) (a : Array Value) (s : State) : State → Prop := fun t => ∃ o, t.status = .running ∧ Ended t below o ∧ lw_Q a s o t
/-- the law's own end, with 1 on the stack, nothing written that was there before, its room as the claim has it -/
theorem lw_ret {p : Program} {l : Launch} {e : Env} {s : State} {m : MethodId} {below : List Frame} {meth : Method} {c : Code} {b : Nat} (hx : p.tables.exec = Jvm.exec) (hb : c.code = code) (hr : meth.sig.returnType = ret) (hlocks : meth.locks = false) {pc : Nat} {H : Heap} {ls : Array Slot} (hdg : decode code pc = .ok (.ireturn, 1)) : W p l e room_1 s m #[Value.ref b] below meth c H [] 600002 7302232 (lw_Z below #[Value.ref b] s) (F0 m pc ls [.int 1]) := by
  intro T hT X
  obtain ⟨fs, hret, hrun, hended, hW, hframe⟩ := X.leave (v := some (.int 1)) (hlocks := hlocks) (fun h => by rw [hr] at h; cases h)
  have hmeth' : T.vm.method? m = some meth := X.method'
  refine ⟨T.setFrames fs, ?_, .returned (some (.int 1)), hrun, hended, rfl, ⟨_, rfl⟩, hW, hframe⟩
  jvm_step X.here [X.here.top, hx, hb, hdg, hmeth', hr, ret, narrow_b1]
  (try refine ⟨rfl, ?_⟩); (try refine ⟨rfl, ?_⟩)
  first | (intro acts; rw [hret _ acts rfl rfl rfl]) | rw [hret _ _ rfl rfl rfl]
  exact Steps.refl _
/-- what holds at the law's entry: the machine, the code, the tables' words (any of lw_tbl by 'hts w (by decide +kernel)'), the script of L ints xs at the cell b, what the Statement gives of the start (any of its parts by flat_of_before) -/
def lw_At (p : Program) (s : State) (m : MethodId) (meth : Method) (c : Code) (b L : Nat) (xs : Nat → Int32) : Prop :=
  p.tables.exec = Jvm.exec ∧ c.code = code ∧ meth.sig.returnType = ret ∧ c.maxLocals = 7 ∧ s.vm.findClass R_law = some m.cls ∧ (∀ w ∈ lw_tbl, w.before #[Value.ref b] s = true) ∧ va_X b L xs s s.heap ∧ b < s.heap.size ∧ meth.locks = false ∧ (Jvm.Cond.and given_1 narrow_1).before #[Value.ref b] s = true
theorem vi_0 : vp_in (0 : Int32) 7 := by unfold vp_in; decide +kernel
theorem vi_1 : vp_in ((0 : Int32) + 1) 7 := by unfold vp_in; decide +kernel
theorem vi_2 : vp_in ((0 : Int32) + 2) 7 := by unfold vp_in; decide +kernel
theorem vi_3 : vp_in ((0 : Int32) + 3) 7 := by unfold vp_in; decide +kernel
theorem vi_4 : vp_in ((0 : Int32) + 4) 7 := by unfold vp_in; decide +kernel
theorem vi_5 : vp_in ((0 : Int32) + 5) 7 := by unfold vp_in; decide +kernel
theorem vi_6 : vp_in ((0 : Int32) + 6) 7 := by unfold vp_in; decide +kernel
theorem gi_W {own : String} {idx : Nat} {y : MethodName} {w : Cond} (h1 : Cond.methodLink own idx y ∈ BG) (h2 : Cond.static y ∈ BG) (h3 : Cond.initialized y.cls ∈ BG) (h5 : w ∈ BG) : GoodIn BG (va_wsS own idx y (w :: BG)) := by
  intro v hv
  have hm : v ∈ BG := by
    unfold va_wsS at hv
    rcases List.mem_append.mp hv with h | h
    · rcases List.mem_cons.mp h with rfl | h
      · exact h1
      · rcases List.mem_cons.mp h with rfl | h
        · exact h2
        · rcases List.mem_cons.mp h with rfl | h
          · exact h3
          · cases h
    · exact bg_cons h5 v h
  exact ⟨hm, bg_good v hm⟩
abbrev cX13_thrown : ByteArray := prog_15_method_1_code
def yX13_thrown : MethodName := ⟨RX13, "thrown", "()I"⟩
theorem dX13_thrown_0 : decode cX13_thrown 0 = .ok (.aload_n 0, 1) := by decide +kernel
theorem dX13_thrown_1 : decode cX13_thrown 1 = .ok (.getfield 1, 3) := by decide +kernel
theorem dX13_thrown_4 : decode cX13_thrown 4 = .ok (.ireturn, 1) := by decide +kernel
theorem wd_326 : (Cond.initialized RL) ∈ BG := bg_tb tb_1 0 (by decide +kernel) (by decide +kernel)
theorem wd_1846 : (Cond.methodLink RL 223 yL_graph) ∈ BG := bg_tb tb_7 80 (by decide +kernel) (by decide +kernel)
theorem wd_1847 : (Cond.static yL_graph) ∈ BG := bg_tb tb_7 81 (by decide +kernel) (by decide +kernel)
theorem wd_1848 : (Cond.codeWith yL_graph cL_graph 5 (some .int) [(0, 10, 13, 32), (0, 10, 17, 19)]) ∈ BG := bg_tb tb_7 82 (by decide +kernel) (by decide +kernel)
theorem wd_1854 : (Cond.methodLink RL 226 yL_literal) ∈ BG := bg_tb tb_7 88 (by decide +kernel) (by decide +kernel)
theorem wd_1855 : (Cond.static yL_literal) ∈ BG := bg_tb tb_7 89 (by decide +kernel) (by decide +kernel)
theorem wd_1856 : (Cond.codeWith yL_literal cL_literal 6 (some .int) [(0, 12, 15, 32)]) ∈ BG := bg_tb tb_7 90 (by decide +kernel) (by decide +kernel)
theorem wd_1861 : (Cond.methodLink RL 230 yL_swept) ∈ BG := bg_tb tb_7 95 (by decide +kernel) (by decide +kernel)
theorem wd_1862 : (Cond.static yL_swept) ∈ BG := bg_tb tb_7 96 (by decide +kernel) (by decide +kernel)
theorem wd_1863 : (Cond.codeWith yL_swept cL_swept 5 (some .int) [(0, 10, 13, 32)]) ∈ BG := bg_tb tb_7 97 (by decide +kernel) (by decide +kernel)
theorem wd_1868 : (Cond.methodLink RL 233 yL_root) ∈ BG := bg_tb tb_7 102 (by decide +kernel) (by decide +kernel)
theorem wd_1869 : (Cond.static yL_root) ∈ BG := bg_tb tb_7 103 (by decide +kernel) (by decide +kernel)
theorem wd_1870 : (Cond.codeWith yL_root cL_root 6 (some .int) [(0, 12, 15, 32)]) ∈ BG := bg_tb tb_7 104 (by decide +kernel) (by decide +kernel)
theorem wd_1875 : (Cond.methodLink RL 237 yL_cell) ∈ BG := bg_tb tb_7 109 (by decide +kernel) (by decide +kernel)
theorem wd_1876 : (Cond.static yL_cell) ∈ BG := bg_tb tb_7 110 (by decide +kernel) (by decide +kernel)
theorem wd_1877 : (Cond.codeWith yL_cell cL_cell 6 (some .int) [(0, 12, 15, 32), (0, 12, 19, 19)]) ∈ BG := bg_tb tb_7 111 (by decide +kernel) (by decide +kernel)
theorem wd_1882 : (Cond.methodLink RL 240 yL_play) ∈ BG := bg_tb tb_7 116 (by decide +kernel) (by decide +kernel)
theorem wd_1883 : (Cond.static yL_play) ∈ BG := bg_tb tb_7 117 (by decide +kernel) (by decide +kernel)
theorem wd_1884 : (Cond.codeWith yL_play cL_play 5 (some .int) [(0, 10, 13, 32), (0, 10, 17, 19)]) ∈ BG := bg_tb tb_7 118 (by decide +kernel) (by decide +kernel)
theorem wd_1890 : (Cond.methodLink RL 243 yL_state) ∈ BG := bg_tb tb_7 124 (by decide +kernel) (by decide +kernel)
theorem wd_1891 : (Cond.static yL_state) ∈ BG := bg_tb tb_7 125 (by decide +kernel) (by decide +kernel)
theorem wd_1892 : (Cond.codeWith yL_state cL_state 4 (some .int) [(0, 9, 12, 32)]) ∈ BG := bg_tb tb_7 126 (by decide +kernel) (by decide +kernel)
theorem wd_1897 : (Cond.methodLink RL 247 yL_restart) ∈ BG := bg_tb tb_7 131 (by decide +kernel) (by decide +kernel)
theorem wd_1898 : (Cond.static yL_restart) ∈ BG := bg_tb tb_7 132 (by decide +kernel) (by decide +kernel)
theorem wd_1899 : (Cond.codeWith yL_restart cL_restart 4 (some .int) [(0, 9, 12, 32)]) ∈ BG := bg_tb tb_7 133 (by decide +kernel) (by decide +kernel)
theorem wd_1904 : (Cond.methodLink RL 250 yL_equal) ∈ BG := bg_tb tb_7 138 (by decide +kernel) (by decide +kernel)
theorem wd_1905 : (Cond.static yL_equal) ∈ BG := bg_tb tb_7 139 (by decide +kernel) (by decide +kernel)
theorem wd_1906 : (Cond.codeWith yL_equal cL_equal 5 (some .int) [(0, 10, 13, 32), (0, 10, 17, 19)]) ∈ BG := bg_tb tb_7 140 (by decide +kernel) (by decide +kernel)
theorem wd_1920 : (Cond.methodLink RL 253 yL_never) ∈ BG := bg_tb tb_7 154 (by decide +kernel) (by decide +kernel)
theorem wd_1921 : (Cond.static yL_never) ∈ BG := bg_tb tb_7 155 (by decide +kernel) (by decide +kernel)
theorem wd_1922 : (Cond.codeWith yL_never cL_never 5 (some .int) [(0, 10, 13, 32)]) ∈ BG := bg_tb tb_7 156 (by decide +kernel) (by decide +kernel)
theorem wd_2125 : (Cond.methodLink RL 262 yL_chip) ∈ BG := bg_tb tb_8 119 (by decide +kernel) (by decide +kernel)
theorem wd_2126 : (Cond.static yL_chip) ∈ BG := bg_tb tb_8 120 (by decide +kernel) (by decide +kernel)
theorem wd_2127 : (Cond.codeWith yL_chip cL_chip 5 (some .int) [(0, 10, 13, 32), (0, 10, 17, 19)]) ∈ BG := bg_tb tb_8 121 (by decide +kernel) (by decide +kernel)
theorem wd_2144 : (Cond.methodLink RL 265 yL_gate) ∈ BG := bg_tb tb_8 138 (by decide +kernel) (by decide +kernel)
theorem wd_2145 : (Cond.static yL_gate) ∈ BG := bg_tb tb_8 139 (by decide +kernel) (by decide +kernel)
theorem wd_2146 : (Cond.codeWith yL_gate cL_gate 6 (some .int) [(0, 12, 15, 32), (0, 12, 19, 19)]) ∈ BG := bg_tb tb_8 140 (by decide +kernel) (by decide +kernel)
theorem wd_2153 : (Cond.methodLink RL 268 yL_netOf) ∈ BG := bg_tb tb_8 147 (by decide +kernel) (by decide +kernel)
theorem wd_2154 : (Cond.static yL_netOf) ∈ BG := bg_tb tb_8 148 (by decide +kernel) (by decide +kernel)
theorem wd_2155 : (Cond.codeWith yL_netOf cL_netOf 6 (some .int) [(0, 12, 15, 32)]) ∈ BG := bg_tb tb_8 149 (by decide +kernel) (by decide +kernel)
theorem wd_2160 : (Cond.methodLink RL 271 yL_alter) ∈ BG := bg_tb tb_8 154 (by decide +kernel) (by decide +kernel)
theorem wd_2161 : (Cond.static yL_alter) ∈ BG := bg_tb tb_8 155 (by decide +kernel) (by decide +kernel)
theorem wd_2162 : (Cond.codeWith yL_alter cL_alter 6 (some .int) [(0, 12, 15, 32), (0, 12, 19, 19)]) ∈ BG := bg_tb tb_8 156 (by decide +kernel) (by decide +kernel)
theorem wd_2167 : (Cond.methodLink RL 274 yL_run) ∈ BG := bg_tb tb_8 161 (by decide +kernel) (by decide +kernel)
theorem wd_2168 : (Cond.static yL_run) ∈ BG := bg_tb tb_8 162 (by decide +kernel) (by decide +kernel)
theorem wd_2169 : (Cond.codeWith yL_run cL_run 5 (some .int) [(0, 10, 13, 32), (0, 10, 17, 19)]) ∈ BG := bg_tb tb_8 163 (by decide +kernel) (by decide +kernel)
theorem wd_2174 : (Cond.methodLink RL 277 yL_reset) ∈ BG := bg_tb tb_8 168 (by decide +kernel) (by decide +kernel)
theorem wd_2175 : (Cond.static yL_reset) ∈ BG := bg_tb tb_8 169 (by decide +kernel) (by decide +kernel)
theorem wd_2176 : (Cond.codeWith yL_reset cL_reset 4 (some .int) [(0, 9, 12, 32)]) ∈ BG := bg_tb tb_8 170 (by decide +kernel) (by decide +kernel)
theorem wd_2181 : (Cond.methodLink RL 280 yL_proves) ∈ BG := bg_tb tb_8 175 (by decide +kernel) (by decide +kernel)
theorem wd_2182 : (Cond.static yL_proves) ∈ BG := bg_tb tb_8 176 (by decide +kernel) (by decide +kernel)
theorem wd_2183 : (Cond.codeWith yL_proves cL_proves 5 (some .int) [(0, 10, 13, 32), (0, 10, 17, 19)]) ∈ BG := bg_tb tb_8 177 (by decide +kernel) (by decide +kernel)
theorem wd_2188 : (Cond.methodLink RL 283 yL_place) ∈ BG := bg_tb tb_8 182 (by decide +kernel) (by decide +kernel)
theorem wd_2189 : (Cond.static yL_place) ∈ BG := bg_tb tb_8 183 (by decide +kernel) (by decide +kernel)
theorem wd_2190 : (Cond.codeWith yL_place cL_place 5 (some .int) [(0, 10, 13, 32), (0, 10, 17, 19)]) ∈ BG := bg_tb tb_8 184 (by decide +kernel) (by decide +kernel)
theorem wd_2227 : (Cond.methodLink RL 286 yL_at) ∈ BG := bg_tb tb_8 221 (by decide +kernel) (by decide +kernel)
theorem wd_2228 : (Cond.static yL_at) ∈ BG := bg_tb tb_8 222 (by decide +kernel) (by decide +kernel)
theorem wd_2229 : (Cond.codeWith yL_at cL_at 6 (some .int) [(0, 12, 15, 32), (0, 12, 19, 19), (0, 12, 23, 105)]) ∈ BG := bg_tb tb_8 223 (by decide +kernel) (by decide +kernel)
theorem wd_2239 : (Cond.methodLink RL 289 yL_move) ∈ BG := bg_tb tb_8 233 (by decide +kernel) (by decide +kernel)
theorem wd_2240 : (Cond.static yL_move) ∈ BG := bg_tb tb_8 234 (by decide +kernel) (by decide +kernel)
theorem wd_2241 : (Cond.codeWith yL_move cL_move 7 (some .int) [(0, 21, 24, 32), (0, 21, 28, 105)]) ∈ BG := bg_tb tb_8 235 (by decide +kernel) (by decide +kernel)
theorem wd_2250 : (Cond.methodLink RL 293 yL_improve) ∈ BG := bg_tb tb_9 4 (by decide +kernel) (by decide +kernel)
theorem wd_2251 : (Cond.static yL_improve) ∈ BG := bg_tb tb_9 5 (by decide +kernel) (by decide +kernel)
theorem wd_2252 : (Cond.codeWith yL_improve cL_improve 5 (some .int) [(0, 10, 13, 32), (0, 10, 17, 19), (0, 10, 21, 105)]) ∈ BG := bg_tb tb_9 6 (by decide +kernel) (by decide +kernel)
theorem wd_2277 : (Cond.methodLink RL 296 yL_wire) ∈ BG := bg_tb tb_9 31 (by decide +kernel) (by decide +kernel)
theorem wd_2278 : (Cond.static yL_wire) ∈ BG := bg_tb tb_9 32 (by decide +kernel) (by decide +kernel)
theorem wd_2279 : (Cond.codeWith yL_wire cL_wire 5 (some .int) [(0, 10, 13, 32), (0, 10, 17, 105)]) ∈ BG := bg_tb tb_9 33 (by decide +kernel) (by decide +kernel)
theorem wd_2284 : (Cond.methodLink RL 299 yL_route) ∈ BG := bg_tb tb_9 38 (by decide +kernel) (by decide +kernel)
theorem wd_2285 : (Cond.static yL_route) ∈ BG := bg_tb tb_9 39 (by decide +kernel) (by decide +kernel)
theorem wd_2286 : (Cond.codeWith yL_route cL_route 5 (some .int) [(0, 10, 13, 32), (0, 10, 17, 19), (0, 10, 21, 105)]) ∈ BG := bg_tb tb_9 40 (by decide +kernel) (by decide +kernel)
theorem wd_2607 : (Cond.methodLink RL 302 yL_point) ∈ BG := bg_tb tb_10 121 (by decide +kernel) (by decide +kernel)
theorem wd_2608 : (Cond.static yL_point) ∈ BG := bg_tb tb_10 122 (by decide +kernel) (by decide +kernel)
theorem wd_2609 : (Cond.codeWith yL_point cL_point 5 (some .int) [(0, 10, 13, 32), (0, 10, 17, 105)]) ∈ BG := bg_tb tb_10 123 (by decide +kernel) (by decide +kernel)
theorem wd_2618 : (Cond.methodLink RL 305 yL_routed) ∈ BG := bg_tb tb_10 132 (by decide +kernel) (by decide +kernel)
theorem wd_2619 : (Cond.static yL_routed) ∈ BG := bg_tb tb_10 133 (by decide +kernel) (by decide +kernel)
theorem wd_2620 : (Cond.codeWith yL_routed cL_routed 6 (some .int) [(0, 12, 15, 32), (0, 12, 19, 19), (0, 12, 23, 105)]) ∈ BG := bg_tb tb_10 134 (by decide +kernel) (by decide +kernel)
theorem wd_2636 : (Cond.methodLink RL 308 yL_draw) ∈ BG := bg_tb tb_10 150 (by decide +kernel) (by decide +kernel)
theorem wd_2637 : (Cond.static yL_draw) ∈ BG := bg_tb tb_10 151 (by decide +kernel) (by decide +kernel)
theorem wd_2638 : (Cond.codeWith yL_draw cL_draw 4 (some .int) [(0, 9, 12, 32), (0, 9, 15, 105), (0, 9, 18, 13)]) ∈ BG := bg_tb tb_10 152 (by decide +kernel) (by decide +kernel)
theorem wd_2672 : (Cond.methodLink RL 311 yL_box) ∈ BG := bg_tb tb_10 186 (by decide +kernel) (by decide +kernel)
theorem wd_2673 : (Cond.static yL_box) ∈ BG := bg_tb tb_10 187 (by decide +kernel) (by decide +kernel)
theorem wd_2674 : (Cond.codeWith yL_box cL_box 6 (some .int) [(0, 12, 15, 32), (0, 12, 19, 19), (0, 12, 23, 105)]) ∈ BG := bg_tb tb_10 188 (by decide +kernel) (by decide +kernel)
theorem wd_2679 : (Cond.methodLink RL 314 yL_add) ∈ BG := bg_tb tb_10 193 (by decide +kernel) (by decide +kernel)
theorem wd_2680 : (Cond.static yL_add) ∈ BG := bg_tb tb_10 194 (by decide +kernel) (by decide +kernel)
theorem wd_2681 : (Cond.codeWith yL_add cL_add 9 (some .int) [(0, 18, 21, 32), (0, 18, 25, 19), (0, 18, 29, 105), (0, 18, 33, 13)]) ∈ BG := bg_tb tb_10 195 (by decide +kernel) (by decide +kernel)
theorem wd_2688 : (Cond.methodLink RL 318 yL_erase) ∈ BG := bg_tb tb_10 202 (by decide +kernel) (by decide +kernel)
theorem wd_2689 : (Cond.static yL_erase) ∈ BG := bg_tb tb_10 203 (by decide +kernel) (by decide +kernel)
theorem wd_2690 : (Cond.codeWith yL_erase cL_erase 5 (some .int) [(0, 10, 13, 32), (0, 10, 17, 105)]) ∈ BG := bg_tb tb_10 204 (by decide +kernel) (by decide +kernel)
theorem wd_2700 : (Cond.methodLink RL 321 yL_check) ∈ BG := bg_tb tb_10 214 (by decide +kernel) (by decide +kernel)
theorem wd_2701 : (Cond.static yL_check) ∈ BG := bg_tb tb_10 215 (by decide +kernel) (by decide +kernel)
theorem wd_2702 : (Cond.codeWith yL_check cL_check 4 (some .int) [(0, 9, 12, 32), (0, 9, 15, 105)]) ∈ BG := bg_tb tb_10 216 (by decide +kernel) (by decide +kernel)
theorem wd_2720 : (Cond.methodLink RL 324 yL_violation) ∈ BG := bg_tb tb_10 234 (by decide +kernel) (by decide +kernel)
theorem wd_2721 : (Cond.static yL_violation) ∈ BG := bg_tb tb_10 235 (by decide +kernel) (by decide +kernel)
theorem wd_2722 : (Cond.codeWith yL_violation cL_violation 6 (some .int) [(0, 12, 15, 32), (0, 12, 19, 105)]) ∈ BG := bg_tb tb_10 236 (by decide +kernel) (by decide +kernel)
theorem wd_2735 : (Cond.methodLink RL 327 yL_found) ∈ BG := bg_tb tb_11 9 (by decide +kernel) (by decide +kernel)
theorem wd_2736 : (Cond.static yL_found) ∈ BG := bg_tb tb_11 10 (by decide +kernel) (by decide +kernel)
theorem wd_2737 : (Cond.codeWith yL_found cL_found 5 (some .int) [(0, 10, 13, 32), (0, 10, 17, 19), (0, 10, 21, 105)]) ∈ BG := bg_tb tb_11 11 (by decide +kernel) (by decide +kernel)
theorem wd_2783 : (Cond.methodLink RL 330 yL_arrival) ∈ BG := bg_tb tb_11 57 (by decide +kernel) (by decide +kernel)
theorem wd_2784 : (Cond.static yL_arrival) ∈ BG := bg_tb tb_11 58 (by decide +kernel) (by decide +kernel)
theorem wd_2785 : (Cond.codeWith yL_arrival cL_arrival 6 (some .int) [(0, 12, 15, 32)]) ∈ BG := bg_tb tb_11 59 (by decide +kernel) (by decide +kernel)
theorem wd_2803 : (Cond.methodLink RL 333 yL_falsify) ∈ BG := bg_tb tb_11 77 (by decide +kernel) (by decide +kernel)
theorem wd_2804 : (Cond.static yL_falsify) ∈ BG := bg_tb tb_11 78 (by decide +kernel) (by decide +kernel)
theorem wd_2805 : (Cond.codeWith yL_falsify cL_falsify 6 (some .int) [(0, 19, 22, 32), (0, 19, 26, 13)]) ∈ BG := bg_tb tb_11 79 (by decide +kernel) (by decide +kernel)
theorem wd_2812 : (Cond.methodLink RL 336 yL_path) ∈ BG := bg_tb tb_11 86 (by decide +kernel) (by decide +kernel)
theorem wd_2813 : (Cond.static yL_path) ∈ BG := bg_tb tb_11 87 (by decide +kernel) (by decide +kernel)
theorem wd_2814 : (Cond.codeWith yL_path cL_path 6 (some .int) [(0, 12, 15, 32)]) ∈ BG := bg_tb tb_11 88 (by decide +kernel) (by decide +kernel)
theorem wd_2852 : (Cond.methodLink RL 339 yL_wave) ∈ BG := bg_tb tb_11 126 (by decide +kernel) (by decide +kernel)
theorem wd_2853 : (Cond.static yL_wave) ∈ BG := bg_tb tb_11 127 (by decide +kernel) (by decide +kernel)
theorem wd_2854 : (Cond.codeWith yL_wave cL_wave 8 (some .int) [(0, 16, 19, 32), (0, 16, 23, 19), (0, 16, 27, 13)]) ∈ BG := bg_tb tb_11 128 (by decide +kernel) (by decide +kernel)
theorem wd_2882 : (Cond.methodLink RL 342 yL_changes) ∈ BG := bg_tb tb_11 156 (by decide +kernel) (by decide +kernel)
theorem wd_2883 : (Cond.static yL_changes) ∈ BG := bg_tb tb_11 157 (by decide +kernel) (by decide +kernel)
theorem wd_2884 : (Cond.codeWith yL_changes cL_changes 7 (some .int) [(0, 14, 17, 32), (0, 14, 21, 19), (0, 14, 25, 13)]) ∈ BG := bg_tb tb_11 158 (by decide +kernel) (by decide +kernel)
theorem wd_2897 : (Cond.methodLink RL 345 yL_test) ∈ BG := bg_tb tb_11 171 (by decide +kernel) (by decide +kernel)
theorem wd_2898 : (Cond.static yL_test) ∈ BG := bg_tb tb_11 172 (by decide +kernel) (by decide +kernel)
theorem wd_2899 : (Cond.codeWith yL_test cL_test 5 (some .int) [(0, 10, 13, 32)]) ∈ BG := bg_tb tb_11 173 (by decide +kernel) (by decide +kernel)
theorem wd_2934 : (Cond.methodLink RL 348 yL_shows) ∈ BG := bg_tb tb_11 208 (by decide +kernel) (by decide +kernel)
theorem wd_2935 : (Cond.static yL_shows) ∈ BG := bg_tb tb_11 209 (by decide +kernel) (by decide +kernel)
theorem wd_2936 : (Cond.codeWith yL_shows cL_shows 6 (some .int) [(0, 19, 22, 32), (0, 19, 26, 19)]) ∈ BG := bg_tb tb_11 210 (by decide +kernel) (by decide +kernel)
theorem wd_2946 : (Cond.methodLink RL 351 yL_tests) ∈ BG := bg_tb tb_11 220 (by decide +kernel) (by decide +kernel)
theorem wd_2947 : (Cond.static yL_tests) ∈ BG := bg_tb tb_11 221 (by decide +kernel) (by decide +kernel)
theorem wd_2948 : (Cond.codeWith yL_tests cL_tests 4 (some .int) [(0, 9, 12, 32)]) ∈ BG := bg_tb tb_11 222 (by decide +kernel) (by decide +kernel)
theorem wd_2972 : (Cond.methodLink RL 354 yL_pattern) ∈ BG := bg_tb tb_12 6 (by decide +kernel) (by decide +kernel)
theorem wd_2973 : (Cond.static yL_pattern) ∈ BG := bg_tb tb_12 7 (by decide +kernel) (by decide +kernel)
theorem wd_2974 : (Cond.codeWith yL_pattern cL_pattern 5 (some .int) [(0, 10, 13, 32), (0, 10, 17, 105)]) ∈ BG := bg_tb tb_12 8 (by decide +kernel) (by decide +kernel)
theorem wd_2982 : (Cond.methodLink RL 357 yL_fails) ∈ BG := bg_tb tb_12 16 (by decide +kernel) (by decide +kernel)
theorem wd_2983 : (Cond.static yL_fails) ∈ BG := bg_tb tb_12 17 (by decide +kernel) (by decide +kernel)
theorem wd_2984 : (Cond.codeWith yL_fails cL_fails 6 (some .int) [(0, 19, 22, 32), (0, 19, 26, 105)]) ∈ BG := bg_tb tb_12 18 (by decide +kernel) (by decide +kernel)
theorem wd_2989 : (Cond.methodLink RL 360 yL_suspect) ∈ BG := bg_tb tb_12 23 (by decide +kernel) (by decide +kernel)
theorem wd_2990 : (Cond.static yL_suspect) ∈ BG := bg_tb tb_12 24 (by decide +kernel) (by decide +kernel)
theorem wd_2991 : (Cond.codeWith yL_suspect cL_suspect 5 (some .int) [(0, 10, 13, 32), (0, 10, 17, 105)]) ∈ BG := bg_tb tb_12 25 (by decide +kernel) (by decide +kernel)
theorem wd_3000 : (Cond.methodLink RL 363 yL_faults) ∈ BG := bg_tb tb_12 34 (by decide +kernel) (by decide +kernel)
theorem wd_3001 : (Cond.static yL_faults) ∈ BG := bg_tb tb_12 35 (by decide +kernel) (by decide +kernel)
theorem wd_3002 : (Cond.codeWith yL_faults cL_faults 5 (some .int) [(0, 10, 13, 32), (0, 10, 17, 19)]) ∈ BG := bg_tb tb_12 36 (by decide +kernel) (by decide +kernel)
theorem wd_3015 : (Cond.methodLink RL 197 yX13_thrown) ∈ BG := bg_tb tb_12 49 (by decide +kernel) (by decide +kernel)
theorem wd_3016 : (Cond.instanceMethod yX13_thrown) ∈ BG := bg_tb tb_12 50 (by decide +kernel) (by decide +kernel)
theorem wd_3017 : (Cond.selects RX13 yX13_thrown yX13_thrown) ∈ BG := bg_tb tb_12 51 (by decide +kernel) (by decide +kernel)
theorem wd_3018 : (Cond.code yX13_thrown cX13_thrown 1 (some .int)) ∈ BG := bg_tb tb_12 52 (by decide +kernel) (by decide +kernel)
theorem wd_4092 : (Cond.methodLink RL 225 yX13_graph) ∈ BG := bg_tb tb_16 166 (by decide +kernel) (by decide +kernel)
theorem wd_4093 : (Cond.instanceMethod yX13_graph) ∈ BG := bg_tb tb_16 167 (by decide +kernel) (by decide +kernel)
theorem wd_4094 : (Cond.selects RX13 yX13_graph yX13_graph) ∈ BG := bg_tb tb_16 168 (by decide +kernel) (by decide +kernel)
theorem wd_4095 : (Cond.code yX13_graph cX13_graph 3 (some .int)) ∈ BG := bg_tb tb_16 169 (by decide +kernel) (by decide +kernel)
theorem wd_4096 : (Cond.methodLink RL 229 yX13_literal) ∈ BG := bg_tb tb_16 170 (by decide +kernel) (by decide +kernel)
theorem wd_4097 : (Cond.instanceMethod yX13_literal) ∈ BG := bg_tb tb_16 171 (by decide +kernel) (by decide +kernel)
theorem wd_4098 : (Cond.selects RX13 yX13_literal yX13_literal) ∈ BG := bg_tb tb_16 172 (by decide +kernel) (by decide +kernel)
theorem wd_4099 : (Cond.code yX13_literal cX13_literal 4 (some .int)) ∈ BG := bg_tb tb_16 173 (by decide +kernel) (by decide +kernel)
theorem wd_4100 : (Cond.methodLink RL 232 yX13_swept) ∈ BG := bg_tb tb_16 174 (by decide +kernel) (by decide +kernel)
theorem wd_4101 : (Cond.instanceMethod yX13_swept) ∈ BG := bg_tb tb_16 175 (by decide +kernel) (by decide +kernel)
theorem wd_4102 : (Cond.selects RX13 yX13_swept yX13_swept) ∈ BG := bg_tb tb_16 176 (by decide +kernel) (by decide +kernel)
theorem wd_4103 : (Cond.code yX13_swept cX13_swept 3 (some .int)) ∈ BG := bg_tb tb_16 177 (by decide +kernel) (by decide +kernel)
theorem wd_4104 : (Cond.methodLink RL 236 yX13_root) ∈ BG := bg_tb tb_16 178 (by decide +kernel) (by decide +kernel)
theorem wd_4105 : (Cond.instanceMethod yX13_root) ∈ BG := bg_tb tb_16 179 (by decide +kernel) (by decide +kernel)
theorem wd_4106 : (Cond.selects RX13 yX13_root yX13_root) ∈ BG := bg_tb tb_16 180 (by decide +kernel) (by decide +kernel)
theorem wd_4107 : (Cond.code yX13_root cX13_root 4 (some .int)) ∈ BG := bg_tb tb_16 181 (by decide +kernel) (by decide +kernel)
theorem wd_4108 : (Cond.methodLink RL 239 yX13_cell) ∈ BG := bg_tb tb_16 182 (by decide +kernel) (by decide +kernel)
theorem wd_4109 : (Cond.instanceMethod yX13_cell) ∈ BG := bg_tb tb_16 183 (by decide +kernel) (by decide +kernel)
theorem wd_4110 : (Cond.selects RX13 yX13_cell yX13_cell) ∈ BG := bg_tb tb_16 184 (by decide +kernel) (by decide +kernel)
theorem wd_4111 : (Cond.code yX13_cell cX13_cell 5 (some .int)) ∈ BG := bg_tb tb_16 185 (by decide +kernel) (by decide +kernel)
theorem wd_4116 : (Cond.methodLink RL 242 yX13_play) ∈ BG := bg_tb tb_16 190 (by decide +kernel) (by decide +kernel)
theorem wd_4117 : (Cond.instanceMethod yX13_play) ∈ BG := bg_tb tb_16 191 (by decide +kernel) (by decide +kernel)
theorem wd_4118 : (Cond.selects RX13 yX13_play yX13_play) ∈ BG := bg_tb tb_16 192 (by decide +kernel) (by decide +kernel)
theorem wd_4119 : (Cond.code yX13_play cX13_play 4 (some .int)) ∈ BG := bg_tb tb_16 193 (by decide +kernel) (by decide +kernel)
theorem wd_4123 : (Cond.methodLink RL 246 yX13_state) ∈ BG := bg_tb tb_16 197 (by decide +kernel) (by decide +kernel)
theorem wd_4124 : (Cond.instanceMethod yX13_state) ∈ BG := bg_tb tb_16 198 (by decide +kernel) (by decide +kernel)
theorem wd_4125 : (Cond.selects RX13 yX13_state yX13_state) ∈ BG := bg_tb tb_16 199 (by decide +kernel) (by decide +kernel)
theorem wd_4126 : (Cond.code yX13_state cX13_state 2 (some .int)) ∈ BG := bg_tb tb_16 200 (by decide +kernel) (by decide +kernel)
theorem wd_4127 : (Cond.methodLink RL 249 yX13_restart) ∈ BG := bg_tb tb_16 201 (by decide +kernel) (by decide +kernel)
theorem wd_4128 : (Cond.instanceMethod yX13_restart) ∈ BG := bg_tb tb_16 202 (by decide +kernel) (by decide +kernel)
theorem wd_4129 : (Cond.selects RX13 yX13_restart yX13_restart) ∈ BG := bg_tb tb_16 203 (by decide +kernel) (by decide +kernel)
theorem wd_4130 : (Cond.code yX13_restart cX13_restart 3 (some .int)) ∈ BG := bg_tb tb_16 204 (by decide +kernel) (by decide +kernel)
theorem wd_4131 : (Cond.methodLink RL 252 yX13_equal) ∈ BG := bg_tb tb_16 205 (by decide +kernel) (by decide +kernel)
theorem wd_4132 : (Cond.instanceMethod yX13_equal) ∈ BG := bg_tb tb_16 206 (by decide +kernel) (by decide +kernel)
theorem wd_4133 : (Cond.selects RX13 yX13_equal yX13_equal) ∈ BG := bg_tb tb_16 207 (by decide +kernel) (by decide +kernel)
theorem wd_4134 : (Cond.code yX13_equal cX13_equal 3 (some .int)) ∈ BG := bg_tb tb_16 208 (by decide +kernel) (by decide +kernel)
theorem wd_4151 : (Cond.methodLink RL 255 yX13_never) ∈ BG := bg_tb tb_16 225 (by decide +kernel) (by decide +kernel)
theorem wd_4152 : (Cond.instanceMethod yX13_never) ∈ BG := bg_tb tb_16 226 (by decide +kernel) (by decide +kernel)
theorem wd_4153 : (Cond.selects RX13 yX13_never yX13_never) ∈ BG := bg_tb tb_16 227 (by decide +kernel) (by decide +kernel)
theorem wd_4154 : (Cond.code yX13_never cX13_never 4 (some .int)) ∈ BG := bg_tb tb_16 228 (by decide +kernel) (by decide +kernel)
theorem wd_4278 : (Cond.methodLink RL 264 yX13_chip) ∈ BG := bg_tb tb_17 112 (by decide +kernel) (by decide +kernel)
theorem wd_4279 : (Cond.instanceMethod yX13_chip) ∈ BG := bg_tb tb_17 113 (by decide +kernel) (by decide +kernel)
theorem wd_4280 : (Cond.selects RX13 yX13_chip yX13_chip) ∈ BG := bg_tb tb_17 114 (by decide +kernel) (by decide +kernel)
theorem wd_4281 : (Cond.code yX13_chip cX13_chip 5 (some .int)) ∈ BG := bg_tb tb_17 115 (by decide +kernel) (by decide +kernel)
theorem wd_4298 : (Cond.methodLink RL 267 yX13_gate) ∈ BG := bg_tb tb_17 132 (by decide +kernel) (by decide +kernel)
theorem wd_4299 : (Cond.instanceMethod yX13_gate) ∈ BG := bg_tb tb_17 133 (by decide +kernel) (by decide +kernel)
theorem wd_4300 : (Cond.selects RX13 yX13_gate yX13_gate) ∈ BG := bg_tb tb_17 134 (by decide +kernel) (by decide +kernel)
theorem wd_4301 : (Cond.code yX13_gate cX13_gate 4 (some .int)) ∈ BG := bg_tb tb_17 135 (by decide +kernel) (by decide +kernel)
theorem wd_4302 : (Cond.methodLink RL 270 yX13_netOf) ∈ BG := bg_tb tb_17 136 (by decide +kernel) (by decide +kernel)
theorem wd_4303 : (Cond.instanceMethod yX13_netOf) ∈ BG := bg_tb tb_17 137 (by decide +kernel) (by decide +kernel)
theorem wd_4304 : (Cond.selects RX13 yX13_netOf yX13_netOf) ∈ BG := bg_tb tb_17 138 (by decide +kernel) (by decide +kernel)
theorem wd_4305 : (Cond.code yX13_netOf cX13_netOf 4 (some .int)) ∈ BG := bg_tb tb_17 139 (by decide +kernel) (by decide +kernel)
theorem wd_4306 : (Cond.methodLink RL 273 yX13_alter) ∈ BG := bg_tb tb_17 140 (by decide +kernel) (by decide +kernel)
theorem wd_4307 : (Cond.instanceMethod yX13_alter) ∈ BG := bg_tb tb_17 141 (by decide +kernel) (by decide +kernel)
theorem wd_4308 : (Cond.selects RX13 yX13_alter yX13_alter) ∈ BG := bg_tb tb_17 142 (by decide +kernel) (by decide +kernel)
theorem wd_4309 : (Cond.code yX13_alter cX13_alter 5 (some .int)) ∈ BG := bg_tb tb_17 143 (by decide +kernel) (by decide +kernel)
theorem wd_4310 : (Cond.methodLink RL 276 yX13_run) ∈ BG := bg_tb tb_17 144 (by decide +kernel) (by decide +kernel)
theorem wd_4311 : (Cond.instanceMethod yX13_run) ∈ BG := bg_tb tb_17 145 (by decide +kernel) (by decide +kernel)
theorem wd_4312 : (Cond.selects RX13 yX13_run yX13_run) ∈ BG := bg_tb tb_17 146 (by decide +kernel) (by decide +kernel)
theorem wd_4313 : (Cond.code yX13_run cX13_run 7 (some .int)) ∈ BG := bg_tb tb_17 147 (by decide +kernel) (by decide +kernel)
theorem wd_4325 : (Cond.methodLink RL 279 yX13_reset) ∈ BG := bg_tb tb_17 159 (by decide +kernel) (by decide +kernel)
theorem wd_4326 : (Cond.instanceMethod yX13_reset) ∈ BG := bg_tb tb_17 160 (by decide +kernel) (by decide +kernel)
theorem wd_4327 : (Cond.selects RX13 yX13_reset yX13_reset) ∈ BG := bg_tb tb_17 161 (by decide +kernel) (by decide +kernel)
theorem wd_4328 : (Cond.code yX13_reset cX13_reset 3 (some .int)) ∈ BG := bg_tb tb_17 162 (by decide +kernel) (by decide +kernel)
theorem wd_4329 : (Cond.methodLink RL 282 yX13_proves) ∈ BG := bg_tb tb_17 163 (by decide +kernel) (by decide +kernel)
theorem wd_4330 : (Cond.instanceMethod yX13_proves) ∈ BG := bg_tb tb_17 164 (by decide +kernel) (by decide +kernel)
theorem wd_4331 : (Cond.selects RX13 yX13_proves yX13_proves) ∈ BG := bg_tb tb_17 165 (by decide +kernel) (by decide +kernel)
theorem wd_4332 : (Cond.code yX13_proves cX13_proves 3 (some .int)) ∈ BG := bg_tb tb_17 166 (by decide +kernel) (by decide +kernel)
theorem wd_4337 : (Cond.methodLink RL 285 yX13_place) ∈ BG := bg_tb tb_17 171 (by decide +kernel) (by decide +kernel)
theorem wd_4338 : (Cond.instanceMethod yX13_place) ∈ BG := bg_tb tb_17 172 (by decide +kernel) (by decide +kernel)
theorem wd_4339 : (Cond.selects RX13 yX13_place yX13_place) ∈ BG := bg_tb tb_17 173 (by decide +kernel) (by decide +kernel)
theorem wd_4340 : (Cond.code yX13_place cX13_place 7 (some .int)) ∈ BG := bg_tb tb_17 174 (by decide +kernel) (by decide +kernel)
theorem wd_4349 : (Cond.methodLink RL 288 yX13_at) ∈ BG := bg_tb tb_17 183 (by decide +kernel) (by decide +kernel)
theorem wd_4350 : (Cond.instanceMethod yX13_at) ∈ BG := bg_tb tb_17 184 (by decide +kernel) (by decide +kernel)
theorem wd_4351 : (Cond.selects RX13 yX13_at yX13_at) ∈ BG := bg_tb tb_17 185 (by decide +kernel) (by decide +kernel)
theorem wd_4352 : (Cond.code yX13_at cX13_at 4 (some .int)) ∈ BG := bg_tb tb_17 186 (by decide +kernel) (by decide +kernel)
theorem wd_4357 : (Cond.methodLink RL 292 yX13_move) ∈ BG := bg_tb tb_17 191 (by decide +kernel) (by decide +kernel)
theorem wd_4358 : (Cond.instanceMethod yX13_move) ∈ BG := bg_tb tb_17 192 (by decide +kernel) (by decide +kernel)
theorem wd_4359 : (Cond.selects RX13 yX13_move yX13_move) ∈ BG := bg_tb tb_17 193 (by decide +kernel) (by decide +kernel)
theorem wd_4360 : (Cond.code yX13_move cX13_move 7 (some .boolean)) ∈ BG := bg_tb tb_17 194 (by decide +kernel) (by decide +kernel)
theorem wd_4361 : (Cond.methodLink RL 295 yX13_improve) ∈ BG := bg_tb tb_17 195 (by decide +kernel) (by decide +kernel)
theorem wd_4362 : (Cond.instanceMethod yX13_improve) ∈ BG := bg_tb tb_17 196 (by decide +kernel) (by decide +kernel)
theorem wd_4363 : (Cond.selects RX13 yX13_improve yX13_improve) ∈ BG := bg_tb tb_17 197 (by decide +kernel) (by decide +kernel)
theorem wd_4364 : (Cond.code yX13_improve cX13_improve 9 (some .int)) ∈ BG := bg_tb tb_17 198 (by decide +kernel) (by decide +kernel)
theorem wd_4393 : (Cond.methodLink RL 298 yX13_wire) ∈ BG := bg_tb tb_17 227 (by decide +kernel) (by decide +kernel)
theorem wd_4394 : (Cond.instanceMethod yX13_wire) ∈ BG := bg_tb tb_17 228 (by decide +kernel) (by decide +kernel)
theorem wd_4395 : (Cond.selects RX13 yX13_wire yX13_wire) ∈ BG := bg_tb tb_17 229 (by decide +kernel) (by decide +kernel)
theorem wd_4396 : (Cond.code yX13_wire cX13_wire 4 (some .int)) ∈ BG := bg_tb tb_17 230 (by decide +kernel) (by decide +kernel)
theorem wd_4401 : (Cond.methodLink RL 301 yX13_route) ∈ BG := bg_tb tb_17 235 (by decide +kernel) (by decide +kernel)
theorem wd_4402 : (Cond.instanceMethod yX13_route) ∈ BG := bg_tb tb_17 236 (by decide +kernel) (by decide +kernel)
theorem wd_4403 : (Cond.selects RX13 yX13_route yX13_route) ∈ BG := bg_tb tb_17 237 (by decide +kernel) (by decide +kernel)
theorem wd_4404 : (Cond.code yX13_route cX13_route 6 (some .int)) ∈ BG := bg_tb tb_17 238 (by decide +kernel) (by decide +kernel)
theorem wd_4461 : (Cond.methodLink RL 304 yX13_point) ∈ BG := bg_tb tb_18 55 (by decide +kernel) (by decide +kernel)
theorem wd_4462 : (Cond.instanceMethod yX13_point) ∈ BG := bg_tb tb_18 56 (by decide +kernel) (by decide +kernel)
theorem wd_4463 : (Cond.selects RX13 yX13_point yX13_point) ∈ BG := bg_tb tb_18 57 (by decide +kernel) (by decide +kernel)
theorem wd_4464 : (Cond.code yX13_point cX13_point 3 (some .int)) ∈ BG := bg_tb tb_18 58 (by decide +kernel) (by decide +kernel)
theorem wd_4465 : (Cond.methodLink RL 307 yX13_routed) ∈ BG := bg_tb tb_18 59 (by decide +kernel) (by decide +kernel)
theorem wd_4466 : (Cond.instanceMethod yX13_routed) ∈ BG := bg_tb tb_18 60 (by decide +kernel) (by decide +kernel)
theorem wd_4467 : (Cond.selects RX13 yX13_routed yX13_routed) ∈ BG := bg_tb tb_18 61 (by decide +kernel) (by decide +kernel)
theorem wd_4468 : (Cond.code yX13_routed cX13_routed 9 (some .int)) ∈ BG := bg_tb tb_18 62 (by decide +kernel) (by decide +kernel)
theorem wd_4469 : (Cond.methodLink RL 310 yX13_draw) ∈ BG := bg_tb tb_18 63 (by decide +kernel) (by decide +kernel)
theorem wd_4470 : (Cond.instanceMethod yX13_draw) ∈ BG := bg_tb tb_18 64 (by decide +kernel) (by decide +kernel)
theorem wd_4471 : (Cond.selects RX13 yX13_draw yX13_draw) ∈ BG := bg_tb tb_18 65 (by decide +kernel) (by decide +kernel)
theorem wd_4472 : (Cond.code yX13_draw cX13_draw 2 (some .int)) ∈ BG := bg_tb tb_18 66 (by decide +kernel) (by decide +kernel)
theorem wd_4493 : (Cond.methodLink RL 313 yX13_box) ∈ BG := bg_tb tb_18 87 (by decide +kernel) (by decide +kernel)
theorem wd_4494 : (Cond.instanceMethod yX13_box) ∈ BG := bg_tb tb_18 88 (by decide +kernel) (by decide +kernel)
theorem wd_4495 : (Cond.selects RX13 yX13_box yX13_box) ∈ BG := bg_tb tb_18 89 (by decide +kernel) (by decide +kernel)
theorem wd_4496 : (Cond.code yX13_box cX13_box 4 (some .int)) ∈ BG := bg_tb tb_18 90 (by decide +kernel) (by decide +kernel)
theorem wd_4505 : (Cond.methodLink RL 317 yX13_add) ∈ BG := bg_tb tb_18 99 (by decide +kernel) (by decide +kernel)
theorem wd_4506 : (Cond.instanceMethod yX13_add) ∈ BG := bg_tb tb_18 100 (by decide +kernel) (by decide +kernel)
theorem wd_4507 : (Cond.selects RX13 yX13_add yX13_add) ∈ BG := bg_tb tb_18 101 (by decide +kernel) (by decide +kernel)
theorem wd_4508 : (Cond.code yX13_add cX13_add 7 (some .int)) ∈ BG := bg_tb tb_18 102 (by decide +kernel) (by decide +kernel)
theorem wd_4512 : (Cond.methodLink RL 320 yX13_erase) ∈ BG := bg_tb tb_18 106 (by decide +kernel) (by decide +kernel)
theorem wd_4513 : (Cond.instanceMethod yX13_erase) ∈ BG := bg_tb tb_18 107 (by decide +kernel) (by decide +kernel)
theorem wd_4514 : (Cond.selects RX13 yX13_erase yX13_erase) ∈ BG := bg_tb tb_18 108 (by decide +kernel) (by decide +kernel)
theorem wd_4515 : (Cond.code yX13_erase cX13_erase 4 (some .int)) ∈ BG := bg_tb tb_18 109 (by decide +kernel) (by decide +kernel)
theorem wd_4516 : (Cond.methodLink RL 323 yX13_check) ∈ BG := bg_tb tb_18 110 (by decide +kernel) (by decide +kernel)
theorem wd_4517 : (Cond.instanceMethod yX13_check) ∈ BG := bg_tb tb_18 111 (by decide +kernel) (by decide +kernel)
theorem wd_4518 : (Cond.selects RX13 yX13_check yX13_check) ∈ BG := bg_tb tb_18 112 (by decide +kernel) (by decide +kernel)
theorem wd_4519 : (Cond.code yX13_check cX13_check 2 (some .int)) ∈ BG := bg_tb tb_18 113 (by decide +kernel) (by decide +kernel)
theorem wd_4541 : (Cond.methodLink RL 326 yX13_violation) ∈ BG := bg_tb tb_18 135 (by decide +kernel) (by decide +kernel)
theorem wd_4542 : (Cond.instanceMethod yX13_violation) ∈ BG := bg_tb tb_18 136 (by decide +kernel) (by decide +kernel)
theorem wd_4543 : (Cond.selects RX13 yX13_violation yX13_violation) ∈ BG := bg_tb tb_18 137 (by decide +kernel) (by decide +kernel)
theorem wd_4544 : (Cond.code yX13_violation cX13_violation 4 (some .int)) ∈ BG := bg_tb tb_18 138 (by decide +kernel) (by decide +kernel)
theorem wd_4545 : (Cond.methodLink RL 329 yX13_found) ∈ BG := bg_tb tb_18 139 (by decide +kernel) (by decide +kernel)
theorem wd_4546 : (Cond.instanceMethod yX13_found) ∈ BG := bg_tb tb_18 140 (by decide +kernel) (by decide +kernel)
theorem wd_4547 : (Cond.selects RX13 yX13_found yX13_found) ∈ BG := bg_tb tb_18 141 (by decide +kernel) (by decide +kernel)
theorem wd_4548 : (Cond.code yX13_found cX13_found 7 (some .int)) ∈ BG := bg_tb tb_18 142 (by decide +kernel) (by decide +kernel)
theorem wd_4573 : (Cond.methodLink RL 332 yX13_arrival) ∈ BG := bg_tb tb_18 167 (by decide +kernel) (by decide +kernel)
theorem wd_4574 : (Cond.instanceMethod yX13_arrival) ∈ BG := bg_tb tb_18 168 (by decide +kernel) (by decide +kernel)
theorem wd_4575 : (Cond.selects RX13 yX13_arrival yX13_arrival) ∈ BG := bg_tb tb_18 169 (by decide +kernel) (by decide +kernel)
theorem wd_4576 : (Cond.code yX13_arrival cX13_arrival 4 (some .int)) ∈ BG := bg_tb tb_18 170 (by decide +kernel) (by decide +kernel)
theorem wd_4585 : (Cond.methodLink RL 335 yX13_falsify) ∈ BG := bg_tb tb_18 179 (by decide +kernel) (by decide +kernel)
theorem wd_4586 : (Cond.instanceMethod yX13_falsify) ∈ BG := bg_tb tb_18 180 (by decide +kernel) (by decide +kernel)
theorem wd_4587 : (Cond.selects RX13 yX13_falsify yX13_falsify) ∈ BG := bg_tb tb_18 181 (by decide +kernel) (by decide +kernel)
theorem wd_4588 : (Cond.code yX13_falsify cX13_falsify 4 (some .boolean)) ∈ BG := bg_tb tb_18 182 (by decide +kernel) (by decide +kernel)
theorem wd_4597 : (Cond.methodLink RL 338 yX13_path) ∈ BG := bg_tb tb_18 191 (by decide +kernel) (by decide +kernel)
theorem wd_4598 : (Cond.instanceMethod yX13_path) ∈ BG := bg_tb tb_18 192 (by decide +kernel) (by decide +kernel)
theorem wd_4599 : (Cond.selects RX13 yX13_path yX13_path) ∈ BG := bg_tb tb_18 193 (by decide +kernel) (by decide +kernel)
theorem wd_4600 : (Cond.code yX13_path cX13_path 9 (some .int)) ∈ BG := bg_tb tb_18 194 (by decide +kernel) (by decide +kernel)
theorem wd_4621 : (Cond.methodLink RL 341 yX13_wave) ∈ BG := bg_tb tb_18 215 (by decide +kernel) (by decide +kernel)
theorem wd_4622 : (Cond.instanceMethod yX13_wave) ∈ BG := bg_tb tb_18 216 (by decide +kernel) (by decide +kernel)
theorem wd_4623 : (Cond.selects RX13 yX13_wave yX13_wave) ∈ BG := bg_tb tb_18 217 (by decide +kernel) (by decide +kernel)
theorem wd_4624 : (Cond.code yX13_wave cX13_wave 8 (some .int)) ∈ BG := bg_tb tb_18 218 (by decide +kernel) (by decide +kernel)
theorem wd_4646 : (Cond.methodLink RL 344 yX13_changes) ∈ BG := bg_tb tb_19 0 (by decide +kernel) (by decide +kernel)
theorem wd_4647 : (Cond.instanceMethod yX13_changes) ∈ BG := bg_tb tb_19 1 (by decide +kernel) (by decide +kernel)
theorem wd_4648 : (Cond.selects RX13 yX13_changes yX13_changes) ∈ BG := bg_tb tb_19 2 (by decide +kernel) (by decide +kernel)
theorem wd_4649 : (Cond.code yX13_changes cX13_changes 7 (some .int)) ∈ BG := bg_tb tb_19 3 (by decide +kernel) (by decide +kernel)
theorem wd_4650 : (Cond.methodLink RL 347 yX13_test) ∈ BG := bg_tb tb_19 4 (by decide +kernel) (by decide +kernel)
theorem wd_4651 : (Cond.instanceMethod yX13_test) ∈ BG := bg_tb tb_19 5 (by decide +kernel) (by decide +kernel)
theorem wd_4652 : (Cond.selects RX13 yX13_test yX13_test) ∈ BG := bg_tb tb_19 6 (by decide +kernel) (by decide +kernel)
theorem wd_4653 : (Cond.code yX13_test cX13_test 3 (some .int)) ∈ BG := bg_tb tb_19 7 (by decide +kernel) (by decide +kernel)
theorem wd_4681 : (Cond.methodLink RL 350 yX13_shows) ∈ BG := bg_tb tb_19 35 (by decide +kernel) (by decide +kernel)
theorem wd_4682 : (Cond.instanceMethod yX13_shows) ∈ BG := bg_tb tb_19 36 (by decide +kernel) (by decide +kernel)
theorem wd_4683 : (Cond.selects RX13 yX13_shows yX13_shows) ∈ BG := bg_tb tb_19 37 (by decide +kernel) (by decide +kernel)
theorem wd_4684 : (Cond.code yX13_shows cX13_shows 4 (some .boolean)) ∈ BG := bg_tb tb_19 38 (by decide +kernel) (by decide +kernel)
theorem wd_4685 : (Cond.methodLink RL 353 yX13_tests) ∈ BG := bg_tb tb_19 39 (by decide +kernel) (by decide +kernel)
theorem wd_4686 : (Cond.instanceMethod yX13_tests) ∈ BG := bg_tb tb_19 40 (by decide +kernel) (by decide +kernel)
theorem wd_4687 : (Cond.selects RX13 yX13_tests yX13_tests) ∈ BG := bg_tb tb_19 41 (by decide +kernel) (by decide +kernel)
theorem wd_4688 : (Cond.code yX13_tests cX13_tests 5 (some .int)) ∈ BG := bg_tb tb_19 42 (by decide +kernel) (by decide +kernel)
theorem wd_4705 : (Cond.methodLink RL 356 yX13_pattern) ∈ BG := bg_tb tb_19 59 (by decide +kernel) (by decide +kernel)
theorem wd_4706 : (Cond.instanceMethod yX13_pattern) ∈ BG := bg_tb tb_19 60 (by decide +kernel) (by decide +kernel)
theorem wd_4707 : (Cond.selects RX13 yX13_pattern yX13_pattern) ∈ BG := bg_tb tb_19 61 (by decide +kernel) (by decide +kernel)
theorem wd_4708 : (Cond.code yX13_pattern cX13_pattern 3 (some .int)) ∈ BG := bg_tb tb_19 62 (by decide +kernel) (by decide +kernel)
theorem wd_4713 : (Cond.methodLink RL 359 yX13_fails) ∈ BG := bg_tb tb_19 67 (by decide +kernel) (by decide +kernel)
theorem wd_4714 : (Cond.instanceMethod yX13_fails) ∈ BG := bg_tb tb_19 68 (by decide +kernel) (by decide +kernel)
theorem wd_4715 : (Cond.selects RX13 yX13_fails yX13_fails) ∈ BG := bg_tb tb_19 69 (by decide +kernel) (by decide +kernel)
theorem wd_4716 : (Cond.code yX13_fails cX13_fails 5 (some .boolean)) ∈ BG := bg_tb tb_19 70 (by decide +kernel) (by decide +kernel)
theorem wd_4717 : (Cond.methodLink RL 362 yX13_suspect) ∈ BG := bg_tb tb_19 71 (by decide +kernel) (by decide +kernel)
theorem wd_4718 : (Cond.instanceMethod yX13_suspect) ∈ BG := bg_tb tb_19 72 (by decide +kernel) (by decide +kernel)
theorem wd_4719 : (Cond.selects RX13 yX13_suspect yX13_suspect) ∈ BG := bg_tb tb_19 73 (by decide +kernel) (by decide +kernel)
theorem wd_4720 : (Cond.code yX13_suspect cX13_suspect 5 (some .int)) ∈ BG := bg_tb tb_19 74 (by decide +kernel) (by decide +kernel)
theorem wd_4725 : (Cond.methodLink RL 365 yX13_faults) ∈ BG := bg_tb tb_19 79 (by decide +kernel) (by decide +kernel)
theorem wd_4726 : (Cond.instanceMethod yX13_faults) ∈ BG := bg_tb tb_19 80 (by decide +kernel) (by decide +kernel)
theorem wd_4727 : (Cond.selects RX13 yX13_faults yX13_faults) ∈ BG := bg_tb tb_19 81 (by decide +kernel) (by decide +kernel)
theorem wd_4728 : (Cond.code yX13_faults cX13_faults 7 (some .int)) ∈ BG := bg_tb tb_19 82 (by decide +kernel) (by decide +kernel)
set_option maxHeartbeats 4000000 in
set_option maxRecDepth 100000 in
theorem ct_X13_thrown (l : Launch) (dC : Nat → ClassId) (dI : Nat → Nat → Nat) (sz : Nat) (v : Int32) (m0 : Nat) (mg : List Value) (hmg : fx mg 225 [(0, .int v)]) : Met l yX13_thrown (Cond.code yX13_thrown cX13_thrown 1 (some .int) :: BG) ({ frames := 1, cells := 0, slots := 0, locals := 12 }) (va_Pc [.ref m0] (fun U => U.heap.size = sz ∧ va_P (dC, dI) CL [(m0, .inr (13, mg))] U.heap ∧ va_K (dC, dI) CL [] U ∧ va_D (fun _ => True) [(m0, .inr (13, mg))])) (va_Qi (fun (r : Int32) (_ : Unit) => r = v) (fun _ _ => True) (va_A [(m0, .inr (13, mg))] sz)) 0 0 (va_A [(m0, .inr (13, mg))] sz) := by
  refine Met.ofW (cc := cX13_thrown) (maxL := 1) (ret := (some .int)) (by decide) rfl ?_
  intro p e s m args below meth c s₁ B hml hv
  obtain ⟨rfl, hsz, hP, hK, hD0⟩ := hv
  have hx := B.exec
  have hb := B.bytes
  have hr := B.returns
  have hts : ∀ w ∈ BG, w.before _ s = true := fun w h => atoms_spec (ws := Cond.code yX13_thrown cX13_thrown 1 (some .int) :: BG) B.pre w (List.mem_cons_of_mem _ h)
  have hown : s.vm.findClass RX13 = some m.cls := findClass_of_methodNamed B.named
  have hlocks := B.notSynchronized
  subst hsz
  have hD := hD0.self (sz := s.heap.size)
  generalize hAe : va_A [(m0, .inr (13, mg))] s.heap.size = A at hD ⊢
  have hA : ∀ q : Nat, s.heap.size ≤ q → A q := fun q h => by rw [← hAe]; exact Or.inr h
  have hS : va_S A s.heap s.heap [] := va_S.rf
  have hl := lv_entry ([.ref m0]) (n := 1) (Nat.le_of_ble_eq_true rfl)
  rw [lg_entry_eq]
  generalize (lg_sl ([.ref m0]) ++ List.replicate (1 - (lg_sl ([.ref m0])).length) Slot.unset).toArray = ls at hl ⊢
  have hl : lv_has ls 1 [(0, .ref m0)] := hl
  refine lv_aload_n hx hb dX13_thrown_0 rfl (lv_at hl 0 rfl) ?_
  refine va_get (D := (dC, dI)) (ci := 13) (v := .int v) (C := RX13) (T := TX13) (N := 225) hx hb hts inX13 hown hK hP 0 rfl rfl 0 (by decide) (hts (.fieldLink RX13 1 "ChipFlowModel" "code" "I") wd_3032) (fun _ h9 => h9) (hmg.get 0 rfl) dX13_thrown_1 ?_
  exact W.iret (v := v) hx hb hr (fun t ht hW => ⟨⟨v, (), rfl, rfl, trivial⟩, hS.F ht⟩) hS.2.2 dX13_thrown_4
set_option maxHeartbeats 4000000 in
set_option maxRecDepth 100000 in
theorem law_tail {p : Program} {l : Launch} {e : Env} {s : State} {m : MethodId} {below : List Frame} {meth : Method} {c : Code} {b : Nat} {xs : Nat → Int32} (C0 : lw_At p s m meth c b 7 xs) {H : Heap} {locs : List Loc} (hS : va_S (fun q : Nat => s.heap.size ≤ q) s.heap H locs) {ls : Array Slot} {v5 v6 : Int32} {lv : List (Nat × Value)} (hl : lv_has ls 7 [(0, .ref b), (4, .int 0)]) : W p l e room_1 s m #[Value.ref b] below meth c H locs 470 2709300 (lw_Z below #[Value.ref b] s) (F0 m 4099 ls []) := by
  obtain ⟨hx, hb, hr, hml, hown, hts0, hX, hbl, hlocks, hgv⟩ := id C0
  have hts : ∀ w ∈ BG, w.before _ s = true := fun w h => hts0 w (List.mem_filter.mp h).1
  have hown : s.vm.findClass RL = some m.cls := hown
  have hA : ∀ q : Nat, s.heap.size ≤ q → (fun q : Nat => s.heap.size ≤ q) q := fun _ h => h
  have hbA : ¬ (fun q : Nat => s.heap.size ≤ q) b := Nat.not_le.mpr hbl
  refine lv_iinc (v := 7) (lv' := [(4, .int 7), (0, .ref b)]) hx hb dL_law_4099 hl (k := 1) rfl (by decide +kernel) (by decide) rfl (fun ls hl => ?_)
  refine lv_goto (tgt := 23) hx hb dL_law_4102 (by decide) ?_
  refine lv_iload hx hb dL_law_23 (lv_at hl 0 rfl) ?_
  refine lv_aload_n hx hb dL_law_25 rfl (lv_at hl 1 rfl) ?_
  refine va_slen hx hb hX hbl hbA hS dL_law_26 ?_
  refine lv_bipush (v := 7) hx hb dL_law_27 (by decide +kernel) ?_
  refine lv_isub hx hb dL_law_29 ?_
  refine lv_icmp_gt (tgt := 4105) hx hb dL_law_30 (by decide) (fun c9 => ?_) (fun c9 => ?_)
  · refine lv_iconst (v := 1) hx hb dL_law_4105 (by decide +kernel) ?_
    refine va_forget (fun q hq => hS.2.2 q hq) ?_
    refine W.widen (k := 600002) (n := 7302232) (Nat.le_of_ble_eq_true rfl) (Nat.le_of_ble_eq_true rfl) ?_
    exact lw_ret hx hb hr hlocks dL_law_4106
  · exact absurd (by decide +kernel) c9
