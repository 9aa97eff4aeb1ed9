/-! the tables of words by number -/
def tb_K (k : Nat) : List Cond := match k with
  | 0 => k2_sels lw_privs
  | 1 => tables_1_1
  | 2 => tables_1_2
  | 3 => tables_1_3
  | 4 => tables_1_4
  | 5 => tables_1_5
  | 6 => tables_1_6
  | 7 => tables_1_7
  | 8 => tables_1_8
  | 9 => tables_1_9
  | 10 => tables_1_10
  | 11 => tables_1_11
  | 12 => tables_1_12
  | 13 => tables_1_13
  | 14 => tables_1_14
  | 15 => tables_1_15
  | 16 => tables_1_16
  | 17 => tables_1_17
  | 18 => tables_1_18
  | _ => tables_1_19
theorem tb_Kin {k : Nat} {w : Cond} (h : w ∈ tb_K k) : w ∈ lw_tbl := by
  rcases k with _ | _ | _ | _ | _ | _ | _ | _ | _ | _ | _ | _ | _ | _ | _ | _ | _ | _ | _ | _ | k
  · exact tb_0 w h
  · exact tb_1 w h
  · exact tb_2 w h
  · exact tb_3 w h
  · exact tb_4 w h
  · exact tb_5 w h
  · exact tb_6 w h
  · exact tb_7 w h
  · exact tb_8 w h
  · exact tb_9 w h
  · exact tb_10 w h
  · exact tb_11 w h
  · exact tb_12 w h
  · exact tb_13 w h
  · exact tb_14 w h
  · exact tb_15 w h
  · exact tb_16 w h
  · exact tb_17 w h
  · exact tb_18 w h
  · exact tb_19 w h
  · exact tb_19 w h
theorem wb {k i : Nat} {w : Cond} (h : (tb_K k)[i]? = some w) (g : goodWord w = true) : w ∈ BG := bg_tb (fun _ h => tb_Kin h) i h g
/-- simple instructions -/
def ck_sI (mid : Nat) (q : Nat × sm_I) : Bool := if q.2.1 < 40 then decide (decode (mt_b mid) q.1 = .ok (sm_dec q.2, q.2.2.1)) && sm_chk (mt_i mid).1 q.2 && (if 17 ≤ q.2.1 && q.2.1 ≤ 22 then decide (0 ≤ (q.1 : Int) + q.2.2.2.2.2.2) else true) else true
def ck_s (mid : Nat) : Bool := (mt_cd mid).all (ck_sI mid)
/-- returns -/
def ck_rI (mid : Nat) (q : Nat × sm_I) : Bool := match q.2.1 with
  | 41 => decide (decode (mt_b mid) q.1 = .ok (.ireturn, 1)) && (decide (q.2.2.2.2.1 = 0) && decide (mt_r mid = some .int) || decide (q.2.2.2.2.1 = 1) && decide (mt_r mid = some .boolean))
  | 42 => decide (decode (mt_b mid) q.1 = .ok (.lreturn, 1)) && decide (mt_r mid = some .long)
  | 43 => decide (decode (mt_b mid) q.1 = .ok (.areturn, 1)) && (match mt_r mid with
    | some (.object _) => true
    | _ => false)
  | 44 => decide (decode (mt_b mid) q.1 = .ok (.return_, 1)) && decide (mt_r mid = none)
  | _ => true
def ck_r (mid : Nat) : Bool := (mt_cd mid).all (ck_rI mid)
