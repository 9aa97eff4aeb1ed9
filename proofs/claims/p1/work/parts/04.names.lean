theorem tb_0 : ∀ w ∈ k2_sels lw_privs, w ∈ lw_tbl := fun _ h => List.mem_append_left _ h
theorem tb_1 : ∀ w ∈ tables_1_1, w ∈ lw_tbl := fun _ h => List.mem_append_right _ (List.mem_append_left _ h)
theorem tb_2 : ∀ w ∈ tables_1_2, w ∈ lw_tbl := fun _ h => List.mem_append_right _ (List.mem_append_right _ (List.mem_append_left _ h))
theorem tb_3 : ∀ w ∈ tables_1_3, w ∈ lw_tbl := fun _ h => List.mem_append_right _ (List.mem_append_right _ (List.mem_append_right _ (List.mem_append_left _ h)))
theorem tb_4 : ∀ w ∈ tables_1_4, w ∈ lw_tbl := fun _ h => List.mem_append_right _ (List.mem_append_right _ (List.mem_append_right _ (List.mem_append_right _ (List.mem_append_left _ h))))
theorem tb_5 : ∀ w ∈ tables_1_5, w ∈ lw_tbl := fun _ h => List.mem_append_right _ (List.mem_append_right _ (List.mem_append_right _ (List.mem_append_right _ (List.mem_append_right _ (List.mem_append_left _ h)))))
theorem tb_6 : ∀ w ∈ tables_1_6, w ∈ lw_tbl := fun _ h => List.mem_append_right _ (List.mem_append_right _ (List.mem_append_right _ (List.mem_append_right _ (List.mem_append_right _ (List.mem_append_right _ (List.mem_append_left _ h))))))
theorem tb_7 : ∀ w ∈ tables_1_7, w ∈ lw_tbl := fun _ h => List.mem_append_right _ (List.mem_append_right _ (List.mem_append_right _ (List.mem_append_right _ (List.mem_append_right _ (List.mem_append_right _ (List.mem_append_right _ (List.mem_append_left _ h)))))))
theorem tb_8 : ∀ w ∈ tables_1_8, w ∈ lw_tbl := fun _ h => List.mem_append_right _ (List.mem_append_right _ (List.mem_append_right _ (List.mem_append_right _ (List.mem_append_right _ (List.mem_append_right _ (List.mem_append_right _ (List.mem_append_right _ (List.mem_append_left _ h))))))))
theorem tb_9 : ∀ w ∈ tables_1_9, w ∈ lw_tbl := fun _ h => List.mem_append_right _ (List.mem_append_right _ (List.mem_append_right _ (List.mem_append_right _ (List.mem_append_right _ (List.mem_append_right _ (List.mem_append_right _ (List.mem_append_right _ (List.mem_append_right _ (List.mem_append_left _ h)))))))))
theorem tb_10 : ∀ w ∈ tables_1_10, w ∈ lw_tbl := fun _ h => List.mem_append_right _ (List.mem_append_right _ (List.mem_append_right _ (List.mem_append_right _ (List.mem_append_right _ (List.mem_append_right _ (List.mem_append_right _ (List.mem_append_right _ (List.mem_append_right _ (List.mem_append_right _ (List.mem_append_left _ h))))))))))
theorem tb_11 : ∀ w ∈ tables_1_11, w ∈ lw_tbl := fun _ h => List.mem_append_right _ (List.mem_append_right _ (List.mem_append_right _ (List.mem_append_right _ (List.mem_append_right _ (List.mem_append_right _ (List.mem_append_right _ (List.mem_append_right _ (List.mem_append_right _ (List.mem_append_right _ (List.mem_append_right _ (List.mem_append_left _ h)))))))))))
theorem tb_12 : ∀ w ∈ tables_1_12, w ∈ lw_tbl := fun _ h => List.mem_append_right _ (List.mem_append_right _ (List.mem_append_right _ (List.mem_append_right _ (List.mem_append_right _ (List.mem_append_right _ (List.mem_append_right _ (List.mem_append_right _ (List.mem_append_right _ (List.mem_append_right _ (List.mem_append_right _ (List.mem_append_right _ (List.mem_append_left _ h))))))))))))
theorem tb_13 : ∀ w ∈ tables_1_13, w ∈ lw_tbl := fun _ h => List.mem_append_right _ (List.mem_append_right _ (List.mem_append_right _ (List.mem_append_right _ (List.mem_append_right _ (List.mem_append_right _ (List.mem_append_right _ (List.mem_append_right _ (List.mem_append_right _ (List.mem_append_right _ (List.mem_append_right _ (List.mem_append_right _ (List.mem_append_right _ (List.mem_append_left _ h)))))))))))))
theorem tb_14 : ∀ w ∈ tables_1_14, w ∈ lw_tbl := fun _ h => List.mem_append_right _ (List.mem_append_right _ (List.mem_append_right _ (List.mem_append_right _ (List.mem_append_right _ (List.mem_append_right _ (List.mem_append_right _ (List.mem_append_right _ (List.mem_append_right _ (List.mem_append_right _ (List.mem_append_right _ (List.mem_append_right _ (List.mem_append_right _ (List.mem_append_right _ (List.mem_append_left _ h))))))))))))))
theorem tb_15 : ∀ w ∈ tables_1_15, w ∈ lw_tbl := fun _ h => List.mem_append_right _ (List.mem_append_right _ (List.mem_append_right _ (List.mem_append_right _ (List.mem_append_right _ (List.mem_append_right _ (List.mem_append_right _ (List.mem_append_right _ (List.mem_append_right _ (List.mem_append_right _ (List.mem_append_right _ (List.mem_append_right _ (List.mem_append_right _ (List.mem_append_right _ (List.mem_append_right _ (List.mem_append_left _ h)))))))))))))))
theorem tb_16 : ∀ w ∈ tables_1_16, w ∈ lw_tbl := fun _ h => List.mem_append_right _ (List.mem_append_right _ (List.mem_append_right _ (List.mem_append_right _ (List.mem_append_right _ (List.mem_append_right _ (List.mem_append_right _ (List.mem_append_right _ (List.mem_append_right _ (List.mem_append_right _ (List.mem_append_right _ (List.mem_append_right _ (List.mem_append_right _ (List.mem_append_right _ (List.mem_append_right _ (List.mem_append_right _ (List.mem_append_left _ h))))))))))))))))
theorem tb_17 : ∀ w ∈ tables_1_17, w ∈ lw_tbl := fun _ h => List.mem_append_right _ (List.mem_append_right _ (List.mem_append_right _ (List.mem_append_right _ (List.mem_append_right _ (List.mem_append_right _ (List.mem_append_right _ (List.mem_append_right _ (List.mem_append_right _ (List.mem_append_right _ (List.mem_append_right _ (List.mem_append_right _ (List.mem_append_right _ (List.mem_append_right _ (List.mem_append_right _ (List.mem_append_right _ (List.mem_append_right _ (List.mem_append_left _ h)))))))))))))))))
theorem tb_18 : ∀ w ∈ tables_1_18, w ∈ lw_tbl := fun _ h => List.mem_append_right _ (List.mem_append_right _ (List.mem_append_right _ (List.mem_append_right _ (List.mem_append_right _ (List.mem_append_right _ (List.mem_append_right _ (List.mem_append_right _ (List.mem_append_right _ (List.mem_append_right _ (List.mem_append_right _ (List.mem_append_right _ (List.mem_append_right _ (List.mem_append_right _ (List.mem_append_right _ (List.mem_append_right _ (List.mem_append_right _ (List.mem_append_right _ (List.mem_append_left _ h))))))))))))))))))
theorem tb_19 : ∀ w ∈ tables_1_19, w ∈ lw_tbl := fun _ h => List.mem_append_right _ (List.mem_append_right _ (List.mem_append_right _ (List.mem_append_right _ (List.mem_append_right _ (List.mem_append_right _ (List.mem_append_right _ (List.mem_append_right _ (List.mem_append_right _ (List.mem_append_right _ (List.mem_append_right _ (List.mem_append_right _ (List.mem_append_right _ (List.mem_append_right _ (List.mem_append_right _ (List.mem_append_right _ (List.mem_append_right _ (List.mem_append_right _ (List.mem_append_right _ h))))))))))))))))))
def RX0 : String := "ChipFlow$Board"
def TX0 : u_T := fun k => match k with
  | 0 => ("ChipFlow$Board", "sites", "I", false)
  | 1 => ("ChipFlow$Board", "rows", "I", false)
  | 2 => ("ChipFlow$Board", "height", "I", false)
  | 3 => ("ChipFlow$Board", "siteOf", "[I", true)
  | 4 => ("ChipFlow$Board", "rowOf", "[I", true)
  | 5 => ("ChipFlow$Board", "sizeOf", "[I", true)
  | 6 => ("ChipFlow$Board", "pinNet", "[I", true)
  | 7 => ("ChipFlow$Board", "pinsByNet", "[I", true)
  | 8 => ("ChipFlow$Board", "firstPin", "[I", true)
  | 9 => ("ChipFlow$Board", "netPins", "[I", true)
  | 10 => ("ChipFlow$Board", "netWire", "[I", true)
  | 11 => ("ChipFlow$Board", "routed", "Z", false)
  | 12 => ("ChipFlow$Board", "owner", "[I", true)
  | 13 => ("ChipFlow$Board", "steps", "[I", true)
  | 14 => ("ChipFlow$Board", "open", "[I", true)
  | 15 => ("ChipFlow$Board", "layout", "LChipFlow$Layout;", true)
  | 16 => ("ChipFlow$Board", "timeStamp", "I", false)
  | 17 => ("ChipFlow$Board", "touchedNets", "[I", true)
  | _ => ("ChipFlow$Board", "touchedCount", "I", false)
def tyX0 : Nat → FieldType := fun k => match k with
  | 0 => .int
  | 1 => .int
  | 2 => .int
  | 3 => .array .int
  | 4 => .array .int
  | 5 => .array .int
  | 6 => .array .int
  | 7 => .array .int
  | 8 => .array .int
  | 9 => .array .int
  | 10 => .array .int
  | 11 => .boolean
  | 12 => .array .int
  | 13 => .array .int
  | 14 => .array .int
  | 15 => .object "ChipFlow$Layout"
  | 16 => .int
  | 17 => .array .int
  | _ => .int
set_option maxRecDepth 100000 in
theorem nmX0 : ∀ a, a < 19 → ∀ b, b < 19 → a ≠ b → (TX0 a).2.1 ≠ (TX0 b).2.1 := by decide +kernel
set_option maxRecDepth 100000 in
theorem tyX0_ok : ∀ k, k < 19 → parseFieldDescriptor (TX0 k).2.2.1 = some (tyX0 k) := by decide +kernel
set_option maxRecDepth 100000 in
theorem inX0 : ∀ w ∈ u_ws RX0 TX0 19, w ∈ BG := bg_sb (tb_app tb_3 tb_4) (by decide +kernel) (by decide +kernel)
def RX1 : String := "ChipFlow$Builder"
def TX1 : u_T := fun k => match k with
  | 0 => ("ChipFlow$Builder", "reader", "LChipFlow$Reader;", true)
  | 1 => ("ChipFlow$Builder", "design", "LChipFlow$Design;", false)
  | 2 => ("ChipFlow$Builder", "frames", "[I", true)
  | 3 => ("ChipFlow$Builder", "frameCount", "I", false)
  | 4 => ("ChipFlow$Builder", "stack", "[I", true)
  | 5 => ("ChipFlow$Builder", "wide", "[I", true)
  | 6 => ("ChipFlow$Builder", "top", "I", false)
  | 7 => ("ChipFlow$Builder", "buckets", "[I", true)
  | 8 => ("ChipFlow$Builder", "full", "Z", false)
  | 9 => ("ChipFlow$Builder", "registersMade", "I", false)
  | 10 => ("ChipFlow$Builder", "instances", "[I", true)
  | 11 => ("ChipFlow$Builder", "registerBits", "[I", true)
  | 12 => ("ChipFlow$Builder", "rows", "[J", true)
  | 13 => ("ChipFlow$Builder", "words", "I", false)
  | _ => ("ChipFlow$Builder", "scratch", "[I", true)
def tyX1 : Nat → FieldType := fun k => match k with
  | 0 => .object "ChipFlow$Reader"
  | 1 => .object "ChipFlow$Design"
  | 2 => .array .int
  | 3 => .int
  | 4 => .array .int
  | 5 => .array .int
  | 6 => .int
  | 7 => .array .int
  | 8 => .boolean
  | 9 => .int
  | 10 => .array .int
  | 11 => .array .int
  | 12 => .array .long
  | 13 => .int
  | _ => .array .int
set_option maxRecDepth 100000 in
theorem nmX1 : ∀ a, a < 15 → ∀ b, b < 15 → a ≠ b → (TX1 a).2.1 ≠ (TX1 b).2.1 := by decide +kernel
set_option maxRecDepth 100000 in
theorem tyX1_ok : ∀ k, k < 15 → parseFieldDescriptor (TX1 k).2.2.1 = some (tyX1 k) := by decide +kernel
set_option maxRecDepth 100000 in
theorem inX1 : ∀ w ∈ u_ws RX1 TX1 15, w ∈ BG := bg_sb tb_1 (by decide +kernel) (by decide +kernel)
def RX2 : String := "ChipFlow$Chip"
def TX2 : u_T := fun k => match k with
  | 0 => ("ChipFlow$Chip", "used", "Z", false)
  | 1 => ("ChipFlow$Chip", "inputs", "I", false)
  | 2 => ("ChipFlow$Chip", "registers", "I", false)
  | 3 => ("ChipFlow$Chip", "outputs", "I", false)
  | 4 => ("ChipFlow$Chip", "beginning", "I", false)
  | 5 => ("ChipFlow$Chip", "current", "I", false)
  | 6 => ("ChipFlow$Chip", "table", "[I", true)
  | 7 => ("ChipFlow$Chip", "cells", "LChipFlow$Library;", true)
  | 8 => ("ChipFlow$Chip", "gates", "I", false)
  | 9 => ("ChipFlow$Chip", "gateCell", "[I", true)
  | 10 => ("ChipFlow$Chip", "gateNet", "[I", true)
  | 11 => ("ChipFlow$Chip", "outNet", "[I", true)
  | 12 => ("ChipFlow$Chip", "nextNet", "[I", true)
  | 13 => ("ChipFlow$Chip", "falseEnds", "[I", true)
  | 14 => ("ChipFlow$Chip", "falsePairs", "I", false)
  | 15 => ("ChipFlow$Chip", "setSize", "I", false)
  | 16 => ("ChipFlow$Chip", "setPattern", "[I", true)
  | 17 => ("ChipFlow$Chip", "setFails", "[I", true)
  | 18 => ("ChipFlow$Chip", "board", "LChipFlow$Board;", true)
  | _ => ("ChipFlow$Chip", "logicStamp", "I", false)
def tyX2 : Nat → FieldType := fun k => match k with
  | 0 => .boolean
  | 1 => .int
  | 2 => .int
  | 3 => .int
  | 4 => .int
  | 5 => .int
  | 6 => .array .int
  | 7 => .object "ChipFlow$Library"
  | 8 => .int
  | 9 => .array .int
  | 10 => .array .int
  | 11 => .array .int
  | 12 => .array .int
  | 13 => .array .int
  | 14 => .int
  | 15 => .int
  | 16 => .array .int
  | 17 => .array .int
  | 18 => .object "ChipFlow$Board"
  | _ => .int
set_option maxRecDepth 100000 in
theorem nmX2 : ∀ a, a < 20 → ∀ b, b < 20 → a ≠ b → (TX2 a).2.1 ≠ (TX2 b).2.1 := by decide +kernel
set_option maxRecDepth 100000 in
theorem tyX2_ok : ∀ k, k < 20 → parseFieldDescriptor (TX2 k).2.2.1 = some (tyX2 k) := by decide +kernel
set_option maxRecDepth 100000 in
theorem inX2 : ∀ w ∈ u_ws RX2 TX2 20, w ∈ BG := bg_sb tb_4 (by decide +kernel) (by decide +kernel)
def RX3 : String := "ChipFlow$Design"
def TX3 : u_T := fun k => match k with
  | 0 => ("ChipFlow$Design", "used", "Z", false)
  | 1 => ("ChipFlow$Design", "inputs", "I", false)
  | 2 => ("ChipFlow$Design", "registers", "I", false)
  | 3 => ("ChipFlow$Design", "outputs", "I", false)
  | 4 => ("ChipFlow$Design", "nodes", "I", false)
  | 5 => ("ChipFlow$Design", "beginning", "I", false)
  | 6 => ("ChipFlow$Design", "current", "I", false)
  | 7 => ("ChipFlow$Design", "depth", "I", false)
  | 8 => ("ChipFlow$Design", "sweptAnds", "I", false)
  | 9 => ("ChipFlow$Design", "reached", "I", false)
  | 10 => ("ChipFlow$Design", "low", "[I", true)
  | 11 => ("ChipFlow$Design", "high", "[I", true)
  | 12 => ("ChipFlow$Design", "standsFor", "[I", true)
  | 13 => ("ChipFlow$Design", "outRoot", "[I", true)
  | 14 => ("ChipFlow$Design", "nextRoot", "[I", true)
  | _ => ("ChipFlow$Design", "table", "[I", true)
def tyX3 : Nat → FieldType := fun k => match k with
  | 0 => .boolean
  | 1 => .int
  | 2 => .int
  | 3 => .int
  | 4 => .int
  | 5 => .int
  | 6 => .int
  | 7 => .int
  | 8 => .int
  | 9 => .int
  | 10 => .array .int
  | 11 => .array .int
  | 12 => .array .int
  | 13 => .array .int
  | 14 => .array .int
  | _ => .array .int
set_option maxRecDepth 100000 in
theorem nmX3 : ∀ a, a < 16 → ∀ b, b < 16 → a ≠ b → (TX3 a).2.1 ≠ (TX3 b).2.1 := by decide +kernel
set_option maxRecDepth 100000 in
theorem tyX3_ok : ∀ k, k < 16 → parseFieldDescriptor (TX3 k).2.2.1 = some (tyX3 k) := by decide +kernel
set_option maxRecDepth 100000 in
theorem inX3 : ∀ w ∈ u_ws RX3 TX3 16, w ∈ BG := bg_sb tb_3 (by decide +kernel) (by decide +kernel)
def RX4 : String := "ChipFlow$Layout"
def TX4 : u_T := fun k => match k with
  | 0 => ("ChipFlow$Layout", "drawn", "Z", false)
  | 1 => ("ChipFlow$Layout", "count", "I", false)
  | 2 => ("ChipFlow$Layout", "boxes", "[I", true)
  | 3 => ("ChipFlow$Layout", "violations", "I", false)
  | 4 => ("ChipFlow$Layout", "shorts", "I", false)
  | 5 => ("ChipFlow$Layout", "opens", "I", false)
  | 6 => ("ChipFlow$Layout", "pinnedParts", "I", false)
  | 7 => ("ChipFlow$Layout", "looseParts", "I", false)
  | 8 => ("ChipFlow$Layout", "thin", "I", false)
  | 9 => ("ChipFlow$Layout", "judged", "Z", false)
  | 10 => ("ChipFlow$Layout", "searched", "Z", false)
  | 11 => ("ChipFlow$Layout", "writing", "Z", false)
  | 12 => ("ChipFlow$Layout", "nextBox", "[I", true)
  | 13 => ("ChipFlow$Layout", "nearOnes", "[I", true)
  | 14 => ("ChipFlow$Layout", "parent", "[I", true)
  | 15 => ("ChipFlow$Layout", "pinPart", "[I", true)
  | 16 => ("ChipFlow$Layout", "partPins", "[I", true)
  | _ => ("ChipFlow$Layout", "shorted", "[J", true)
def tyX4 : Nat → FieldType := fun k => match k with
  | 0 => .boolean
  | 1 => .int
  | 2 => .array .int
  | 3 => .int
  | 4 => .int
  | 5 => .int
  | 6 => .int
  | 7 => .int
  | 8 => .int
  | 9 => .boolean
  | 10 => .boolean
  | 11 => .boolean
  | 12 => .array .int
  | 13 => .array .int
  | 14 => .array .int
  | 15 => .array .int
  | 16 => .array .int
  | _ => .array .long
set_option maxRecDepth 100000 in
theorem nmX4 : ∀ a, a < 18 → ∀ b, b < 18 → a ≠ b → (TX4 a).2.1 ≠ (TX4 b).2.1 := by decide +kernel
set_option maxRecDepth 100000 in
theorem tyX4_ok : ∀ k, k < 18 → parseFieldDescriptor (TX4 k).2.2.1 = some (tyX4 k) := by decide +kernel
set_option maxRecDepth 100000 in
theorem inX4 : ∀ w ∈ u_ws RX4 TX4 18, w ∈ BG := bg_sb tb_3 (by decide +kernel) (by decide +kernel)
def RX5 : String := "ChipFlow$Library"
def TX5 : u_T := fun k => match k with
  | 0 => ("ChipFlow$Library", "used", "Z", false)
  | 1 => ("ChipFlow$Library", "count", "I", false)
  | 2 => ("ChipFlow$Library", "inverter", "I", false)
  | 3 => ("ChipFlow$Library", "inputs", "[I", true)
  | 4 => ("ChipFlow$Library", "table", "[I", true)
  | 5 => ("ChipFlow$Library", "area", "[I", true)
  | _ => ("ChipFlow$Library", "delay", "[I", true)
def tyX5 : Nat → FieldType := fun k => match k with
  | 0 => .boolean
  | 1 => .int
  | 2 => .int
  | 3 => .array .int
  | 4 => .array .int
  | 5 => .array .int
  | _ => .array .int
set_option maxRecDepth 100000 in
theorem nmX5 : ∀ a, a < 7 → ∀ b, b < 7 → a ≠ b → (TX5 a).2.1 ≠ (TX5 b).2.1 := by decide +kernel
set_option maxRecDepth 100000 in
theorem tyX5_ok : ∀ k, k < 7 → parseFieldDescriptor (TX5 k).2.2.1 = some (tyX5 k) := by decide +kernel
set_option maxRecDepth 100000 in
theorem inX5 : ∀ w ∈ u_ws RX5 TX5 7, w ∈ BG := bg_sb tb_3 (by decide +kernel) (by decide +kernel)
def RX6 : String := "ChipFlow$Mapper"
def TX6 : u_T := fun k => match k with
  | 0 => ("ChipFlow$Mapper", "design", "LChipFlow$Design;", false)
  | 1 => ("ChipFlow$Mapper", "cells", "LChipFlow$Library;", false)
  | 2 => ("ChipFlow$Mapper", "needed", "[I", true)
  | 3 => ("ChipFlow$Mapper", "root", "[I", true)
  | 4 => ("ChipFlow$Mapper", "need", "[I", true)
  | 5 => ("ChipFlow$Mapper", "wayCell", "[I", true)
  | 6 => ("ChipFlow$Mapper", "wayTurns", "[I", true)
  | 7 => ("ChipFlow$Mapper", "wayNodes", "[I", true)
  | 8 => ("ChipFlow$Mapper", "cuts", "[I", true)
  | 9 => ("ChipFlow$Mapper", "cutOrder", "[I", true)
  | 10 => ("ChipFlow$Mapper", "cutTable", "[I", true)
  | 11 => ("ChipFlow$Mapper", "cutCount", "I", false)
  | 12 => ("ChipFlow$Mapper", "members", "[I", true)
  | 13 => ("ChipFlow$Mapper", "memberCount", "I", false)
  | 14 => ("ChipFlow$Mapper", "views", "[I", true)
  | 15 => ("ChipFlow$Mapper", "inner", "[I", true)
  | 16 => ("ChipFlow$Mapper", "values", "[I", true)
  | 17 => ("ChipFlow$Mapper", "made", "[I", true)
  | _ => ("ChipFlow$Mapper", "tasks", "[I", true)
def tyX6 : Nat → FieldType := fun k => match k with
  | 0 => .object "ChipFlow$Design"
  | 1 => .object "ChipFlow$Library"
  | 2 => .array .int
  | 3 => .array .int
  | 4 => .array .int
  | 5 => .array .int
  | 6 => .array .int
  | 7 => .array .int
  | 8 => .array .int
  | 9 => .array .int
  | 10 => .array .int
  | 11 => .int
  | 12 => .array .int
  | 13 => .int
  | 14 => .array .int
  | 15 => .array .int
  | 16 => .array .int
  | 17 => .array .int
  | _ => .array .int
set_option maxRecDepth 100000 in
theorem nmX6 : ∀ a, a < 19 → ∀ b, b < 19 → a ≠ b → (TX6 a).2.1 ≠ (TX6 b).2.1 := by decide +kernel
set_option maxRecDepth 100000 in
theorem tyX6_ok : ∀ k, k < 19 → parseFieldDescriptor (TX6 k).2.2.1 = some (tyX6 k) := by decide +kernel
set_option maxRecDepth 100000 in
theorem inX6 : ∀ w ∈ u_ws RX6 TX6 19, w ∈ BG := bg_sb (tb_app tb_1 tb_2) (by decide +kernel) (by decide +kernel)
def RX7 : String := "ChipFlow$Reader"
def TX7 : u_T := fun k => match k with
  | 0 => ("ChipFlow$Reader", "text", "LChipFlow$Text;", true)
  | 1 => ("ChipFlow$Reader", "code", "[I", true)
  | 2 => ("ChipFlow$Reader", "codeSize", "I", false)
  | 3 => ("ChipFlow$Reader", "modules", "I", false)
  | 4 => ("ChipFlow$Reader", "moduleName", "[I", true)
  | 5 => ("ChipFlow$Reader", "moduleCode", "[I", true)
  | 6 => ("ChipFlow$Reader", "moduleNames", "[I", true)
  | 7 => ("ChipFlow$Reader", "name", "[I", true)
  | 8 => ("ChipFlow$Reader", "sort", "[I", true)
  | 9 => ("ChipFlow$Reader", "width", "[I", true)
  | 10 => ("ChipFlow$Reader", "detail", "[I", true)
  | 11 => ("ChipFlow$Reader", "library", "LChipFlow$Library;", false)
  | 12 => ("ChipFlow$Reader", "opKind", "[I", true)
  | 13 => ("ChipFlow$Reader", "opPlace", "[I", true)
  | 14 => ("ChipFlow$Reader", "opTop", "I", false)
  | 15 => ("ChipFlow$Reader", "held", "[I", true)
  | 16 => ("ChipFlow$Reader", "heldTop", "I", false)
  | _ => ("ChipFlow$Reader", "open", "I", false)
def tyX7 : Nat → FieldType := fun k => match k with
  | 0 => .object "ChipFlow$Text"
  | 1 => .array .int
  | 2 => .int
  | 3 => .int
  | 4 => .array .int
  | 5 => .array .int
  | 6 => .array .int
  | 7 => .array .int
  | 8 => .array .int
  | 9 => .array .int
  | 10 => .array .int
  | 11 => .object "ChipFlow$Library"
  | 12 => .array .int
  | 13 => .array .int
  | 14 => .int
  | 15 => .array .int
  | 16 => .int
  | _ => .int
set_option maxRecDepth 100000 in
theorem nmX7 : ∀ a, a < 18 → ∀ b, b < 18 → a ≠ b → (TX7 a).2.1 ≠ (TX7 b).2.1 := by decide +kernel
set_option maxRecDepth 100000 in
theorem tyX7_ok : ∀ k, k < 18 → parseFieldDescriptor (TX7 k).2.2.1 = some (tyX7 k) := by decide +kernel
set_option maxRecDepth 100000 in
theorem inX7 : ∀ w ∈ u_ws RX7 TX7 18, w ∈ BG := bg_sb tb_1 (by decide +kernel) (by decide +kernel)
def RX8 : String := "ChipFlow$Router"
def TX8 : u_T := fun k => match k with
  | 0 => ("ChipFlow$Router", "board", "LChipFlow$Board;", false)
  | 1 => ("ChipFlow$Router", "width", "I", false)
  | 2 => ("ChipFlow$Router", "layerSize", "I", false)
  | 3 => ("ChipFlow$Router", "kept", "[I", true)
  | 4 => ("ChipFlow$Router", "distance", "[I", true)
  | 5 => ("ChipFlow$Router", "near", "[I", true)
  | 6 => ("ChipFlow$Router", "nearTail", "I", false)
  | 7 => ("ChipFlow$Router", "far", "[I", true)
  | 8 => ("ChipFlow$Router", "farTail", "I", false)
  | 9 => ("ChipFlow$Router", "way", "[I", true)
  | 10 => ("ChipFlow$Router", "tree", "[I", true)
  | 11 => ("ChipFlow$Router", "treeSize", "I", false)
  | 12 => ("ChipFlow$Router", "row", "[I", true)
  | _ => ("ChipFlow$Router", "rowSize", "I", false)
def tyX8 : Nat → FieldType := fun k => match k with
  | 0 => .object "ChipFlow$Board"
  | 1 => .int
  | 2 => .int
  | 3 => .array .int
  | 4 => .array .int
  | 5 => .array .int
  | 6 => .int
  | 7 => .array .int
  | 8 => .int
  | 9 => .array .int
  | 10 => .array .int
  | 11 => .int
  | 12 => .array .int
  | _ => .int
set_option maxRecDepth 100000 in
theorem nmX8 : ∀ a, a < 14 → ∀ b, b < 14 → a ≠ b → (TX8 a).2.1 ≠ (TX8 b).2.1 := by decide +kernel
set_option maxRecDepth 100000 in
theorem tyX8_ok : ∀ k, k < 14 → parseFieldDescriptor (TX8 k).2.2.1 = some (tyX8 k) := by decide +kernel
set_option maxRecDepth 100000 in
theorem inX8 : ∀ w ∈ u_ws RX8 TX8 14, w ∈ BG := bg_sb tb_2 (by decide +kernel) (by decide +kernel)
def RX9 : String := "ChipFlow$Tester"
def TX9 : u_T := fun k => match k with
  | 0 => ("ChipFlow$Tester", "chip", "LChipFlow$Chip;", false)
  | 1 => ("ChipFlow$Tester", "stamp", "I", false)
  | 2 => ("ChipFlow$Tester", "words", "I", false)
  | 3 => ("ChipFlow$Tester", "mask", "J", false)
  | 4 => ("ChipFlow$Tester", "good", "[J", true)
  | 5 => ("ChipFlow$Tester", "bad", "[J", true)
  | 6 => ("ChipFlow$Tester", "touched", "[I", true)
  | 7 => ("ChipFlow$Tester", "shown", "[J", true)
  | 8 => ("ChipFlow$Tester", "ready", "[I", true)
  | _ => ("ChipFlow$Tester", "tally", "[I", true)
def tyX9 : Nat → FieldType := fun k => match k with
  | 0 => .object "ChipFlow$Chip"
  | 1 => .int
  | 2 => .int
  | 3 => .long
  | 4 => .array .long
  | 5 => .array .long
  | 6 => .array .int
  | 7 => .array .long
  | 8 => .array .int
  | _ => .array .int
set_option maxRecDepth 100000 in
theorem nmX9 : ∀ a, a < 10 → ∀ b, b < 10 → a ≠ b → (TX9 a).2.1 ≠ (TX9 b).2.1 := by decide +kernel
set_option maxRecDepth 100000 in
theorem tyX9_ok : ∀ k, k < 10 → parseFieldDescriptor (TX9 k).2.2.1 = some (tyX9 k) := by decide +kernel
set_option maxRecDepth 100000 in
theorem inX9 : ∀ w ∈ u_ws RX9 TX9 10, w ∈ BG := bg_sb tb_2 (by decide +kernel) (by decide +kernel)
def RX10 : String := "ChipFlow$Text"
def TX10 : u_T := fun k => match k with
  | 0 => ("ChipFlow$Text", "bytes", "[B", true)
  | 1 => ("ChipFlow$Text", "length", "I", false)
  | 2 => ("ChipFlow$Text", "kind", "I", false)
  | 3 => ("ChipFlow$Text", "start", "I", false)
  | 4 => ("ChipFlow$Text", "size", "I", false)
  | 5 => ("ChipFlow$Text", "value", "I", false)
  | 6 => ("ChipFlow$Text", "faultCode", "I", false)
  | 7 => ("ChipFlow$Text", "faultPlace", "I", false)
  | _ => ("ChipFlow$Text", "next", "I", false)
def tyX10 : Nat → FieldType := fun k => match k with
  | 0 => .array .byte
  | 1 => .int
  | 2 => .int
  | 3 => .int
  | 4 => .int
  | 5 => .int
  | 6 => .int
  | 7 => .int
  | _ => .int
set_option maxRecDepth 100000 in
theorem nmX10 : ∀ a, a < 9 → ∀ b, b < 9 → a ≠ b → (TX10 a).2.1 ≠ (TX10 b).2.1 := by decide +kernel
set_option maxRecDepth 100000 in
theorem tyX10_ok : ∀ k, k < 9 → parseFieldDescriptor (TX10 k).2.2.1 = some (tyX10 k) := by decide +kernel
set_option maxRecDepth 100000 in
theorem inX10 : ∀ w ∈ u_ws RX10 TX10 9, w ∈ BG := bg_sb tb_1 (by decide +kernel) (by decide +kernel)
def RX11 : String := "ChipFlow$Times"
def TX11 : u_T := fun k => match k with
  | 0 => ("ChipFlow$Times", "time", "[I", true)
  | 1 => ("ChipFlow$Times", "arrive", "[I", true)
  | 2 => ("ChipFlow$Times", "rest", "[I", true)
  | 3 => ("ChipFlow$Times", "pathChip", "LChipFlow$Chip;", false)
  | 4 => ("ChipFlow$Times", "pathStamp", "I", false)
  | 5 => ("ChipFlow$Times", "pathCount", "I", false)
  | 6 => ("ChipFlow$Times", "order", "[I", true)
  | 7 => ("ChipFlow$Times", "bound", "[I", true)
  | 8 => ("ChipFlow$Times", "size", "[I", true)
  | 9 => ("ChipFlow$Times", "rows", "[I", true)
  | 10 => ("ChipFlow$Times", "trail", "[I", true)
  | 11 => ("ChipFlow$Times", "trailSize", "I", false)
  | 12 => ("ChipFlow$Times", "waveChip", "LChipFlow$Chip;", false)
  | 13 => ("ChipFlow$Times", "waveStamp", "I", false)
  | 14 => ("ChipFlow$Times", "waveA", "I", false)
  | 15 => ("ChipFlow$Times", "waveB", "I", false)
  | 16 => ("ChipFlow$Times", "waveTooLong", "Z", false)
  | 17 => ("ChipFlow$Times", "before", "[I", true)
  | 18 => ("ChipFlow$Times", "waveFrom", "[I", true)
  | _ => ("ChipFlow$Times", "change", "[I", true)
def tyX11 : Nat → FieldType := fun k => match k with
  | 0 => .array .int
  | 1 => .array .int
  | 2 => .array .int
  | 3 => .object "ChipFlow$Chip"
  | 4 => .int
  | 5 => .int
  | 6 => .array .int
  | 7 => .array .int
  | 8 => .array .int
  | 9 => .array .int
  | 10 => .array .int
  | 11 => .int
  | 12 => .object "ChipFlow$Chip"
  | 13 => .int
  | 14 => .int
  | 15 => .int
  | 16 => .boolean
  | 17 => .array .int
  | 18 => .array .int
  | _ => .array .int
set_option maxRecDepth 100000 in
theorem nmX11 : ∀ a, a < 20 → ∀ b, b < 20 → a ≠ b → (TX11 a).2.1 ≠ (TX11 b).2.1 := by decide +kernel
set_option maxRecDepth 100000 in
theorem tyX11_ok : ∀ k, k < 20 → parseFieldDescriptor (TX11 k).2.2.1 = some (tyX11 k) := by decide +kernel
set_option maxRecDepth 100000 in
theorem inX11 : ∀ w ∈ u_ws RX11 TX11 20, w ∈ BG := bg_sb tb_2 (by decide +kernel) (by decide +kernel)
def RX12 : String := "ChipFlow"
def TX12 : u_T := fun k => match k with
  | 0 => ("ChipFlow", "text", "LChipFlow$Text;", true)
  | 1 => ("ChipFlow", "reader", "LChipFlow$Reader;", true)
  | 2 => ("ChipFlow", "builder", "LChipFlow$Builder;", true)
  | 3 => ("ChipFlow", "mapper", "LChipFlow$Mapper;", true)
  | 4 => ("ChipFlow", "router", "LChipFlow$Router;", true)
  | 5 => ("ChipFlow", "times", "LChipFlow$Times;", true)
  | 6 => ("ChipFlow", "tester", "LChipFlow$Tester;", true)
  | 7 => ("ChipFlow", "designs", "[LChipFlow$Design;", true)
  | 8 => ("ChipFlow", "libraries", "[LChipFlow$Library;", true)
  | 9 => ("ChipFlow", "chips", "[LChipFlow$Chip;", true)
  | 10 => ("ChipFlow", "lastFault", "I", false)
  | 11 => ("ChipFlow", "pairFrom", "[I", true)
  | 12 => ("ChipFlow", "pairInput", "[I", true)
  | 13 => ("ChipFlow", "pairQueue", "[I", true)
  | 14 => ("ChipFlow", "silence", "[I", true)
  | 15 => ("ChipFlow", "witnessInputs", "[I", true)
  | _ => ("ChipFlow", "witnessSize", "I", false)
def tyX12 : Nat → FieldType := fun k => match k with
  | 0 => .object "ChipFlow$Text"
  | 1 => .object "ChipFlow$Reader"
  | 2 => .object "ChipFlow$Builder"
  | 3 => .object "ChipFlow$Mapper"
  | 4 => .object "ChipFlow$Router"
  | 5 => .object "ChipFlow$Times"
  | 6 => .object "ChipFlow$Tester"
  | 7 => .array (.object "ChipFlow$Design")
  | 8 => .array (.object "ChipFlow$Library")
  | 9 => .array (.object "ChipFlow$Chip")
  | 10 => .int
  | 11 => .array .int
  | 12 => .array .int
  | 13 => .array .int
  | 14 => .array .int
  | 15 => .array .int
  | _ => .int
set_option maxRecDepth 100000 in
theorem nmX12 : ∀ a, a < 17 → ∀ b, b < 17 → a ≠ b → (TX12 a).2.1 ≠ (TX12 b).2.1 := by decide +kernel
set_option maxRecDepth 100000 in
theorem tyX12_ok : ∀ k, k < 17 → parseFieldDescriptor (TX12 k).2.2.1 = some (tyX12 k) := by decide +kernel
set_option maxRecDepth 100000 in
theorem inX12 : ∀ w ∈ u_ws RX12 TX12 17, w ∈ BG := bg_sb tb_4 (by decide +kernel) (by decide +kernel)
def RX13 : String := "ChipFlowModel"
def TX13 : u_T := fun k => match k with
  | 0 => ("ChipFlowModel", "code", "I", false)
  | 1 => ("ChipFlowModel", "tape", "[B", true)
  | 2 => ("ChipFlowModel", "size", "I", false)
  | 3 => ("ChipFlowModel", "tokens", "I", false)
  | 4 => ("ChipFlowModel", "sorts", "[B", true)
  | 5 => ("ChipFlowModel", "places", "[I", true)
  | 6 => ("ChipFlowModel", "numbers", "[I", true)
  | 7 => ("ChipFlowModel", "firsts", "[J", true)
  | 8 => ("ChipFlowModel", "seconds", "[I", true)
  | 9 => ("ChipFlowModel", "at", "I", false)
  | 10 => ("ChipFlowModel", "fault", "I", false)
  | 11 => ("ChipFlowModel", "faultPlace", "I", false)
  | 12 => ("ChipFlowModel", "modules", "I", false)
  | 13 => ("ChipFlowModel", "moduleTokens", "[I", true)
  | 14 => ("ChipFlowModel", "bodies", "[I", true)
  | 15 => ("ChipFlowModel", "nameCounts", "[I", true)
  | 16 => ("ChipFlowModel", "nameTokens", "[I", true)
  | 17 => ("ChipFlowModel", "nameSorts", "[I", true)
  | 18 => ("ChipFlowModel", "nameWidths", "[I", true)
  | 19 => ("ChipFlowModel", "nameThings", "[I", true)
  | 20 => ("ChipFlowModel", "nameSet", "[Z", true)
  | 21 => ("ChipFlowModel", "inBits", "[I", true)
  | 22 => ("ChipFlowModel", "outBits", "[I", true)
  | 23 => ("ChipFlowModel", "regBits", "[I", true)
  | 24 => ("ChipFlowModel", "instances", "[I", true)
  | 25 => ("ChipFlowModel", "newToken", "I", false)
  | 26 => ("ChipFlowModel", "newWidth", "I", false)
  | 27 => ("ChipFlowModel", "mode", "I", false)
  | 28 => ("ChipFlowModel", "module", "I", false)
  | 29 => ("ChipFlowModel", "frame", "I", false)
  | 30 => ("ChipFlowModel", "waits", "[I", true)
  | 31 => ("ChipFlowModel", "waitTokens", "[I", true)
  | 32 => ("ChipFlowModel", "waiting", "I", false)
  | 33 => ("ChipFlowModel", "openCount", "I", false)
  | 34 => ("ChipFlowModel", "values", "I", false)
  | 35 => ("ChipFlowModel", "widths", "[I", true)
  | 36 => ("ChipFlowModel", "literals", "[I", true)
  | 37 => ("ChipFlowModel", "nodes", "I", false)
  | 38 => ("ChipFlowModel", "firstAnd", "I", false)
  | 39 => ("ChipFlowModel", "stateBits", "I", false)
  | 40 => ("ChipFlowModel", "lesser", "[I", true)
  | 41 => ("ChipFlowModel", "other", "[I", true)
  | 42 => ("ChipFlowModel", "chained", "[I", true)
  | 43 => ("ChipFlowModel", "nextChained", "[I", true)
  | 44 => ("ChipFlowModel", "frameValues", "[I", true)
  | 45 => ("ChipFlowModel", "instanceValues", "[I", true)
  | 46 => ("ChipFlowModel", "frameModules", "[I", true)
  | 47 => ("ChipFlowModel", "frameTokens", "[I", true)
  | 48 => ("ChipFlowModel", "frameNames", "[I", true)
  | 49 => ("ChipFlowModel", "frameTold", "[I", true)
  | 50 => ("ChipFlowModel", "registerBits", "[I", true)
  | 51 => ("ChipFlowModel", "nexts", "[I", true)
  | 52 => ("ChipFlowModel", "beginning", "I", false)
  | 53 => ("ChipFlowModel", "usedBits", "I", false)
  | 54 => ("ChipFlowModel", "arguments", "[I", true)
  | 55 => ("ChipFlowModel", "designThere", "[Z", true)
  | 56 => ("ChipFlowModel", "designIn", "[I", true)
  | 57 => ("ChipFlowModel", "designState", "[I", true)
  | 58 => ("ChipFlowModel", "designOut", "[I", true)
  | 59 => ("ChipFlowModel", "designBegin", "[I", true)
  | 60 => ("ChipFlowModel", "designNow", "[I", true)
  | 61 => ("ChipFlowModel", "designNodes", "[I", true)
  | 62 => ("ChipFlowModel", "designFirst", "[I", true)
  | 63 => ("ChipFlowModel", "designDepth", "[I", true)
  | 64 => ("ChipFlowModel", "designSweptAnds", "[I", true)
  | 65 => ("ChipFlowModel", "designReached", "[I", true)
  | 66 => ("ChipFlowModel", "keptLesser", "[I", true)
  | 67 => ("ChipFlowModel", "keptOther", "[I", true)
  | 68 => ("ChipFlowModel", "keptSwept", "[I", true)
  | 69 => ("ChipFlowModel", "outLiterals", "[I", true)
  | 70 => ("ChipFlowModel", "nextLiterals", "[I", true)
  | 71 => ("ChipFlowModel", "outTables", "[I", true)
  | 72 => ("ChipFlowModel", "nextTables", "[I", true)
  | 73 => ("ChipFlowModel", "functions", "[J", true)
  | 74 => ("ChipFlowModel", "sweptOf", "[I", true)
  | 75 => ("ChipFlowModel", "isNeeded", "[Z", true)
  | 76 => ("ChipFlowModel", "depths", "[I", true)
  | 77 => ("ChipFlowModel", "roots", "[I", true)
  | 78 => ("ChipFlowModel", "isReached", "[Z", true)
  | 79 => ("ChipFlowModel", "lastFault", "I", false)
  | 80 => ("ChipFlowModel", "cellInputs", "I", false)
  | 81 => ("ChipFlowModel", "inputTokens", "[I", true)
  | 82 => ("ChipFlowModel", "cellTokens", "[I", true)
  | 83 => ("ChipFlowModel", "newCells", "I", false)
  | 84 => ("ChipFlowModel", "newInputs", "[I", true)
  | 85 => ("ChipFlowModel", "newFunctions", "[I", true)
  | 86 => ("ChipFlowModel", "newAreas", "[I", true)
  | 87 => ("ChipFlowModel", "newDelays", "[I", true)
  | 88 => ("ChipFlowModel", "libraryThere", "[Z", true)
  | 89 => ("ChipFlowModel", "libraryCells", "[I", true)
  | 90 => ("ChipFlowModel", "cellInputsOf", "[I", true)
  | 91 => ("ChipFlowModel", "cellFunctions", "[I", true)
  | 92 => ("ChipFlowModel", "cellAreas", "[I", true)
  | 93 => ("ChipFlowModel", "cellDelays", "[I", true)
  | 94 => ("ChipFlowModel", "witnessRow", "[I", true)
  | 95 => ("ChipFlowModel", "witnessCount", "I", false)
  | 96 => ("ChipFlowModel", "outsA", "[I", true)
  | 97 => ("ChipFlowModel", "nextsA", "[I", true)
  | 98 => ("ChipFlowModel", "outsB", "[I", true)
  | 99 => ("ChipFlowModel", "nextsB", "[I", true)
  | 100 => ("ChipFlowModel", "queue", "[I", true)
  | 101 => ("ChipFlowModel", "parents", "[I", true)
  | 102 => ("ChipFlowModel", "byInput", "[I", true)
  | 103 => ("ChipFlowModel", "clocks", "[I", true)
  | 104 => ("ChipFlowModel", "isSeen", "[Z", true)
  | 105 => ("ChipFlowModel", "from", "I", false)
  | 106 => ("ChipFlowModel", "library", "I", false)
  | 107 => ("ChipFlowModel", "inverter", "I", false)
  | 108 => ("ChipFlowModel", "inverterArea", "I", false)
  | 109 => ("ChipFlowModel", "sideA", "[I", true)
  | 110 => ("ChipFlowModel", "sideB", "[I", true)
  | 111 => ("ChipFlowModel", "uses", "[I", true)
  | 112 => ("ChipFlowModel", "isWanted", "[Z", true)
  | 113 => ("ChipFlowModel", "isRoot", "[Z", true)
  | 114 => ("ChipFlowModel", "cutCount", "I", false)
  | 115 => ("ChipFlowModel", "cutSizes", "[I", true)
  | 116 => ("ChipFlowModel", "cutNodes", "[I", true)
  | 117 => ("ChipFlowModel", "wayCosts", "[I", true)
  | 118 => ("ChipFlowModel", "wayCells", "[I", true)
  | 119 => ("ChipFlowModel", "wayNodes", "[I", true)
  | 120 => ("ChipFlowModel", "wayTurns", "[I", true)
  | 121 => ("ChipFlowModel", "needs", "[I", true)
  | 122 => ("ChipFlowModel", "isTurnedWay", "[Z", true)
  | 123 => ("ChipFlowModel", "trialSize", "I", false)
  | 124 => ("ChipFlowModel", "trial", "[I", true)
  | 125 => ("ChipFlowModel", "marks", "[I", true)
  | 126 => ("ChipFlowModel", "tables", "[I", true)
  | 127 => ("ChipFlowModel", "round", "I", false)
  | 128 => ("ChipFlowModel", "cutFunctions", "[I", true)
  | 129 => ("ChipFlowModel", "gates", "I", false)
  | 130 => ("ChipFlowModel", "madeCells", "[I", true)
  | 131 => ("ChipFlowModel", "madeNets", "[I", true)
  | 132 => ("ChipFlowModel", "gateNets", "[I", true)
  | 133 => ("ChipFlowModel", "turnedNets", "[I", true)
  | 134 => ("ChipFlowModel", "isLacking", "Z", false)
  | 135 => ("ChipFlowModel", "jobs", "[I", true)
  | 136 => ("ChipFlowModel", "jobSorts", "[I", true)
  | 137 => ("ChipFlowModel", "jobCount", "I", false)
  | 138 => ("ChipFlowModel", "chipThere", "[Z", true)
  | 139 => ("ChipFlowModel", "chipIn", "[I", true)
  | 140 => ("ChipFlowModel", "chipState", "[I", true)
  | 141 => ("ChipFlowModel", "chipOut", "[I", true)
  | 142 => ("ChipFlowModel", "chipBegin", "[I", true)
  | 143 => ("ChipFlowModel", "chipNow", "[I", true)
  | 144 => ("ChipFlowModel", "gateCounts", "[I", true)
  | 145 => ("ChipFlowModel", "gateCells", "[I", true)
  | 146 => ("ChipFlowModel", "gateInputs", "[I", true)
  | 147 => ("ChipFlowModel", "outNets", "[I", true)
  | 148 => ("ChipFlowModel", "nextNets", "[I", true)
  | 149 => ("ChipFlowModel", "ownCells", "[I", true)
  | 150 => ("ChipFlowModel", "ownInputs", "[I", true)
  | 151 => ("ChipFlowModel", "ownFunctions", "[I", true)
  | 152 => ("ChipFlowModel", "ownAreas", "[I", true)
  | 153 => ("ChipFlowModel", "ownDelays", "[I", true)
  | 154 => ("ChipFlowModel", "netWords", "[J", true)
  | 155 => ("ChipFlowModel", "siteCounts", "[I", true)
  | 156 => ("ChipFlowModel", "placedRows", "[I", true)
  | 157 => ("ChipFlowModel", "sites", "[I", true)
  | 158 => ("ChipFlowModel", "rows", "[I", true)
  | 159 => ("ChipFlowModel", "pins", "I", false)
  | 160 => ("ChipFlowModel", "pinNets", "[I", true)
  | 161 => ("ChipFlowModel", "pinX", "[I", true)
  | 162 => ("ChipFlowModel", "pinY", "[I", true)
  | 163 => ("ChipFlowModel", "pinCounts", "[I", true)
  | 164 => ("ChipFlowModel", "leftMost", "[I", true)
  | 165 => ("ChipFlowModel", "rightMost", "[I", true)
  | 166 => ("ChipFlowModel", "topMost", "[I", true)
  | 167 => ("ChipFlowModel", "lowMost", "[I", true)
  | 168 => ("ChipFlowModel", "isRouted", "[Z", true)
  | 169 => ("ChipFlowModel", "pointNets", "[I", true)
  | 170 => ("ChipFlowModel", "stepsX", "[Z", true)
  | 171 => ("ChipFlowModel", "stepsY", "[Z", true)
  | 172 => ("ChipFlowModel", "vias", "[Z", true)
  | 173 => ("ChipFlowModel", "isOpen", "[Z", true)
  | 174 => ("ChipFlowModel", "wide", "I", false)
  | 175 => ("ChipFlowModel", "high", "I", false)
  | 176 => ("ChipFlowModel", "all", "I", false)
  | 177 => ("ChipFlowModel", "chipAt", "I", false)
  | 178 => ("ChipFlowModel", "keptFor", "[I", true)
  | 179 => ("ChipFlowModel", "distances", "[I", true)
  | 180 => ("ChipFlowModel", "line", "[I", true)
  | 181 => ("ChipFlowModel", "inLine", "[Z", true)
  | 182 => ("ChipFlowModel", "way", "[I", true)
  | 183 => ("ChipFlowModel", "netRow", "[I", true)
  | 184 => ("ChipFlowModel", "netRowCount", "I", false)
  | 185 => ("ChipFlowModel", "isDrawn", "[Z", true)
  | 186 => ("ChipFlowModel", "boxCounts", "[I", true)
  | 187 => ("ChipFlowModel", "boxes", "[I", true)
  | 188 => ("ChipFlowModel", "drawn", "I", false)
  | 189 => ("ChipFlowModel", "isCounting", "Z", false)
  | 190 => ("ChipFlowModel", "one", "I", false)
  | 191 => ("ChipFlowModel", "two", "I", false)
  | 192 => ("ChipFlowModel", "parts", "[I", true)
  | 193 => ("ChipFlowModel", "isShort", "[Z", true)
  | 194 => ("ChipFlowModel", "isApart", "[Z", true)
  | 195 => ("ChipFlowModel", "hasPin", "[Z", true)
  | 196 => ("ChipFlowModel", "times", "[I", true)
  | 197 => ("ChipFlowModel", "arrivals", "[I", true)
  | 198 => ("ChipFlowModel", "falseCount", "[I", true)
  | 199 => ("ChipFlowModel", "falseNets", "[I", true)
  | 200 => ("ChipFlowModel", "falseEnds", "[I", true)
  | 201 => ("ChipFlowModel", "tailCounts", "[I", true)
  | 202 => ("ChipFlowModel", "tailLengths", "[I", true)
  | 203 => ("ChipFlowModel", "tailNexts", "[I", true)
  | 204 => ("ChipFlowModel", "tailPlaces", "[I", true)
  | 205 => ("ChipFlowModel", "pointers", "[I", true)
  | 206 => ("ChipFlowModel", "chosen", "I", false)
  | 207 => ("ChipFlowModel", "chosenNets", "[I", true)
  | 208 => ("ChipFlowModel", "chosenEnds", "[I", true)
  | 209 => ("ChipFlowModel", "chosenTails", "[I", true)
  | 210 => ("ChipFlowModel", "heads", "[I", true)
  | 211 => ("ChipFlowModel", "rest", "[Z", true)
  | 212 => ("ChipFlowModel", "changeTimes", "[I", true)
  | 213 => ("ChipFlowModel", "changeStarts", "[I", true)
  | 214 => ("ChipFlowModel", "changeCount", "I", false)
  | 215 => ("ChipFlowModel", "comes", "[I", true)
  | 216 => ("ChipFlowModel", "stand", "[Z", true)
  | 217 => ("ChipFlowModel", "setCount", "[I", true)
  | 218 => ("ChipFlowModel", "setPatterns", "[I", true)
  | 219 => ("ChipFlowModel", "setFails", "[Z", true)
  | 220 => ("ChipFlowModel", "setShows", "[J", true)
  | 221 => ("ChipFlowModel", "stuckNet", "I", false)
  | 222 => ("ChipFlowModel", "stuckPin", "I", false)
  | 223 => ("ChipFlowModel", "rightWords", "[J", true)
  | _ => ("ChipFlowModel", "leastKept", "[I", true)
def tyX13 : Nat → FieldType := fun k => match k with
  | 0 => .int
  | 1 => .array .byte
  | 2 => .int
  | 3 => .int
  | 4 => .array .byte
  | 5 => .array .int
  | 6 => .array .int
  | 7 => .array .long
  | 8 => .array .int
  | 9 => .int
  | 10 => .int
  | 11 => .int
  | 12 => .int
  | 13 => .array .int
  | 14 => .array .int
  | 15 => .array .int
  | 16 => .array .int
  | 17 => .array .int
  | 18 => .array .int
  | 19 => .array .int
  | 20 => .array .boolean
  | 21 => .array .int
  | 22 => .array .int
  | 23 => .array .int
  | 24 => .array .int
  | 25 => .int
  | 26 => .int
  | 27 => .int
  | 28 => .int
  | 29 => .int
  | 30 => .array .int
  | 31 => .array .int
  | 32 => .int
  | 33 => .int
  | 34 => .int
  | 35 => .array .int
  | 36 => .array .int
  | 37 => .int
  | 38 => .int
  | 39 => .int
  | 40 => .array .int
  | 41 => .array .int
  | 42 => .array .int
  | 43 => .array .int
  | 44 => .array .int
  | 45 => .array .int
  | 46 => .array .int
  | 47 => .array .int
  | 48 => .array .int
  | 49 => .array .int
  | 50 => .array .int
  | 51 => .array .int
  | 52 => .int
  | 53 => .int
  | 54 => .array .int
  | 55 => .array .boolean
  | 56 => .array .int
  | 57 => .array .int
  | 58 => .array .int
  | 59 => .array .int
  | 60 => .array .int
  | 61 => .array .int
  | 62 => .array .int
  | 63 => .array .int
  | 64 => .array .int
  | 65 => .array .int
  | 66 => .array .int
  | 67 => .array .int
  | 68 => .array .int
  | 69 => .array .int
  | 70 => .array .int
  | 71 => .array .int
  | 72 => .array .int
  | 73 => .array .long
  | 74 => .array .int
  | 75 => .array .boolean
  | 76 => .array .int
  | 77 => .array .int
  | 78 => .array .boolean
  | 79 => .int
  | 80 => .int
  | 81 => .array .int
  | 82 => .array .int
  | 83 => .int
  | 84 => .array .int
  | 85 => .array .int
  | 86 => .array .int
  | 87 => .array .int
  | 88 => .array .boolean
  | 89 => .array .int
  | 90 => .array .int
  | 91 => .array .int
  | 92 => .array .int
  | 93 => .array .int
  | 94 => .array .int
  | 95 => .int
  | 96 => .array .int
  | 97 => .array .int
  | 98 => .array .int
  | 99 => .array .int
  | 100 => .array .int
  | 101 => .array .int
  | 102 => .array .int
  | 103 => .array .int
  | 104 => .array .boolean
  | 105 => .int
  | 106 => .int
  | 107 => .int
  | 108 => .int
  | 109 => .array .int
  | 110 => .array .int
  | 111 => .array .int
  | 112 => .array .boolean
  | 113 => .array .boolean
  | 114 => .int
  | 115 => .array .int
  | 116 => .array .int
  | 117 => .array .int
  | 118 => .array .int
  | 119 => .array .int
  | 120 => .array .int
  | 121 => .array .int
  | 122 => .array .boolean
  | 123 => .int
  | 124 => .array .int
  | 125 => .array .int
  | 126 => .array .int
  | 127 => .int
  | 128 => .array .int
  | 129 => .int
  | 130 => .array .int
  | 131 => .array .int
  | 132 => .array .int
  | 133 => .array .int
  | 134 => .boolean
  | 135 => .array .int
  | 136 => .array .int
  | 137 => .int
  | 138 => .array .boolean
  | 139 => .array .int
  | 140 => .array .int
  | 141 => .array .int
  | 142 => .array .int
  | 143 => .array .int
  | 144 => .array .int
  | 145 => .array .int
  | 146 => .array .int
  | 147 => .array .int
  | 148 => .array .int
  | 149 => .array .int
  | 150 => .array .int
  | 151 => .array .int
  | 152 => .array .int
  | 153 => .array .int
  | 154 => .array .long
  | 155 => .array .int
  | 156 => .array .int
  | 157 => .array .int
  | 158 => .array .int
  | 159 => .int
  | 160 => .array .int
  | 161 => .array .int
  | 162 => .array .int
  | 163 => .array .int
  | 164 => .array .int
  | 165 => .array .int
  | 166 => .array .int
  | 167 => .array .int
  | 168 => .array .boolean
  | 169 => .array .int
  | 170 => .array .boolean
  | 171 => .array .boolean
  | 172 => .array .boolean
  | 173 => .array .boolean
  | 174 => .int
  | 175 => .int
  | 176 => .int
  | 177 => .int
  | 178 => .array .int
  | 179 => .array .int
  | 180 => .array .int
  | 181 => .array .boolean
  | 182 => .array .int
  | 183 => .array .int
  | 184 => .int
  | 185 => .array .boolean
  | 186 => .array .int
  | 187 => .array .int
  | 188 => .int
  | 189 => .boolean
  | 190 => .int
  | 191 => .int
  | 192 => .array .int
  | 193 => .array .boolean
  | 194 => .array .boolean
  | 195 => .array .boolean
  | 196 => .array .int
  | 197 => .array .int
  | 198 => .array .int
  | 199 => .array .int
  | 200 => .array .int
  | 201 => .array .int
  | 202 => .array .int
  | 203 => .array .int
  | 204 => .array .int
  | 205 => .array .int
  | 206 => .int
  | 207 => .array .int
  | 208 => .array .int
  | 209 => .array .int
  | 210 => .array .int
  | 211 => .array .boolean
  | 212 => .array .int
  | 213 => .array .int
  | 214 => .int
  | 215 => .array .int
  | 216 => .array .boolean
  | 217 => .array .int
  | 218 => .array .int
  | 219 => .array .boolean
  | 220 => .array .long
  | 221 => .int
  | 222 => .int
  | 223 => .array .long
  | _ => .array .int
set_option maxRecDepth 100000 in
theorem nmX13 : ∀ a, a < 225 → ∀ b, b < 225 → a ≠ b → (TX13 a).2.1 ≠ (TX13 b).2.1 := by decide +kernel
set_option maxRecDepth 100000 in
theorem tyX13_ok : ∀ k, k < 225 → parseFieldDescriptor (TX13 k).2.2.1 = some (tyX13 k) := by decide +kernel
set_option maxRecDepth 100000 in
theorem inX13 : ∀ w ∈ u_ws RX13 TX13 225, w ∈ BG := bg_sb (tb_app tb_13 (tb_app tb_14 tb_15)) (by decide +kernel) (by decide +kernel)
abbrev CL : List vw_C := [(RX0, TX0, 19), (RX1, TX1, 15), (RX2, TX2, 20), (RX3, TX3, 16), (RX4, TX4, 18), (RX5, TX5, 7), (RX6, TX6, 19), (RX7, TX7, 18), (RX8, TX8, 14), (RX9, TX9, 10), (RX10, TX10, 9), (RX11, TX11, 20), (RX12, TX12, 17), (RX13, TX13, 225)]
abbrev cX10_init : ByteArray := prog_12_method_1_code
def yX10_init : MethodName := ⟨RX10, "<init>", "()V"⟩
abbrev cX7_init : ByteArray := prog_9_method_1_code
def yX7_init : MethodName := ⟨RX7, "<init>", "(LChipFlow$Text;)V"⟩
abbrev cX1_init : ByteArray := prog_3_method_1_code
def yX1_init : MethodName := ⟨RX1, "<init>", "(LChipFlow$Reader;)V"⟩
abbrev cX6_init : ByteArray := prog_8_method_1_code
def yX6_init : MethodName := ⟨RX6, "<init>", "()V"⟩
abbrev cX8_init : ByteArray := prog_10_method_1_code
def yX8_init : MethodName := ⟨RX8, "<init>", "()V"⟩
abbrev cX11_init : ByteArray := prog_13_method_1_code
def yX11_init : MethodName := ⟨RX11, "<init>", "()V"⟩
abbrev cX9_init : ByteArray := prog_11_method_1_code
def yX9_init : MethodName := ⟨RX9, "<init>", "()V"⟩
abbrev cX4_init : ByteArray := prog_6_method_1_code
def yX4_init : MethodName := ⟨RX4, "<init>", "()V"⟩
abbrev cX3_init : ByteArray := prog_5_method_1_code
def yX3_init : MethodName := ⟨RX3, "<init>", "()V"⟩
abbrev cX5_init : ByteArray := prog_7_method_1_code
def yX5_init : MethodName := ⟨RX5, "<init>", "()V"⟩
abbrev cX13_init : ByteArray := prog_15_method_2_code
def yX13_init : MethodName := ⟨RX13, "<init>", "()V"⟩
abbrev cX0_init : ByteArray := prog_2_method_1_code
def yX0_init : MethodName := ⟨RX0, "<init>", "()V"⟩
abbrev cX2_init : ByteArray := prog_4_method_1_code
def yX2_init : MethodName := ⟨RX2, "<init>", "()V"⟩
abbrev cX12_init : ByteArray := prog_1_method_1_code
def yX12_init : MethodName := ⟨RX12, "<init>", "()V"⟩
theorem dX10_init_0 : decode cX10_init 0 = .ok (.aload_n 0, 1) := by decide +kernel
theorem dX10_init_1 : decode cX10_init 1 = .ok (.invokespecial 1, 3) := by decide +kernel
theorem dX10_init_4 : decode cX10_init 4 = .ok (.aload_n 0, 1) := by decide +kernel
theorem dX10_init_5 : decode cX10_init 5 = .ok (.ldc 9, 2) := by decide +kernel
theorem dX10_init_7 : decode cX10_init 7 = .ok (.newarray .byte, 2) := by decide +kernel
theorem dX10_init_9 : decode cX10_init 9 = .ok (.putfield 10, 3) := by decide +kernel
theorem dX10_init_12 : decode cX10_init 12 = .ok (.return_, 1) := by decide +kernel
theorem dX7_init_0 : decode cX7_init 0 = .ok (.aload_n 0, 1) := by decide +kernel
theorem dX7_init_1 : decode cX7_init 1 = .ok (.invokespecial 3, 3) := by decide +kernel
theorem dX7_init_4 : decode cX7_init 4 = .ok (.aload_n 0, 1) := by decide +kernel
theorem dX7_init_5 : decode cX7_init 5 = .ok (.ldc 11, 2) := by decide +kernel
theorem dX7_init_7 : decode cX7_init 7 = .ok (.newarray .int, 2) := by decide +kernel
theorem dX7_init_9 : decode cX7_init 9 = .ok (.putfield 12, 3) := by decide +kernel
theorem dX7_init_12 : decode cX7_init 12 = .ok (.aload_n 0, 1) := by decide +kernel
theorem dX7_init_13 : decode cX7_init 13 = .ok (.bipush 16, 2) := by decide +kernel
theorem dX7_init_15 : decode cX7_init 15 = .ok (.newarray .int, 2) := by decide +kernel
theorem dX7_init_17 : decode cX7_init 17 = .ok (.putfield 18, 3) := by decide +kernel
theorem dX7_init_20 : decode cX7_init 20 = .ok (.aload_n 0, 1) := by decide +kernel
theorem dX7_init_21 : decode cX7_init 21 = .ok (.bipush 17, 2) := by decide +kernel
theorem dX7_init_23 : decode cX7_init 23 = .ok (.newarray .int, 2) := by decide +kernel
theorem dX7_init_25 : decode cX7_init 25 = .ok (.putfield 21, 3) := by decide +kernel
theorem dX7_init_28 : decode cX7_init 28 = .ok (.aload_n 0, 1) := by decide +kernel
theorem dX7_init_29 : decode cX7_init 29 = .ok (.bipush 17, 2) := by decide +kernel
theorem dX7_init_31 : decode cX7_init 31 = .ok (.newarray .int, 2) := by decide +kernel
theorem dX7_init_33 : decode cX7_init 33 = .ok (.putfield 24, 3) := by decide +kernel
theorem dX7_init_36 : decode cX7_init 36 = .ok (.aload_n 0, 1) := by decide +kernel
theorem dX7_init_37 : decode cX7_init 37 = .ok (.sipush 640, 3) := by decide +kernel
theorem dX7_init_40 : decode cX7_init 40 = .ok (.newarray .int, 2) := by decide +kernel
theorem dX7_init_42 : decode cX7_init 42 = .ok (.putfield 27, 3) := by decide +kernel
theorem dX7_init_45 : decode cX7_init 45 = .ok (.aload_n 0, 1) := by decide +kernel
theorem dX7_init_46 : decode cX7_init 46 = .ok (.sipush 640, 3) := by decide +kernel
theorem dX7_init_49 : decode cX7_init 49 = .ok (.newarray .int, 2) := by decide +kernel
theorem dX7_init_51 : decode cX7_init 51 = .ok (.putfield 30, 3) := by decide +kernel
theorem dX7_init_54 : decode cX7_init 54 = .ok (.aload_n 0, 1) := by decide +kernel
theorem dX7_init_55 : decode cX7_init 55 = .ok (.sipush 640, 3) := by decide +kernel
theorem dX7_init_58 : decode cX7_init 58 = .ok (.newarray .int, 2) := by decide +kernel
theorem dX7_init_60 : decode cX7_init 60 = .ok (.putfield 33, 3) := by decide +kernel
theorem dX7_init_63 : decode cX7_init 63 = .ok (.aload_n 0, 1) := by decide +kernel
theorem dX7_init_64 : decode cX7_init 64 = .ok (.sipush 640, 3) := by decide +kernel
theorem dX7_init_67 : decode cX7_init 67 = .ok (.newarray .int, 2) := by decide +kernel
theorem dX7_init_69 : decode cX7_init 69 = .ok (.putfield 36, 3) := by decide +kernel
theorem dX7_init_72 : decode cX7_init 72 = .ok (.aload_n 0, 1) := by decide +kernel
theorem dX7_init_73 : decode cX7_init 73 = .ok (.sipush 488, 3) := by decide +kernel
theorem dX7_init_76 : decode cX7_init 76 = .ok (.newarray .int, 2) := by decide +kernel
theorem dX7_init_78 : decode cX7_init 78 = .ok (.putfield 39, 3) := by decide +kernel
theorem dX7_init_81 : decode cX7_init 81 = .ok (.aload_n 0, 1) := by decide +kernel
theorem dX7_init_82 : decode cX7_init 82 = .ok (.sipush 488, 3) := by decide +kernel
theorem dX7_init_85 : decode cX7_init 85 = .ok (.newarray .int, 2) := by decide +kernel
theorem dX7_init_87 : decode cX7_init 87 = .ok (.putfield 42, 3) := by decide +kernel
theorem dX7_init_90 : decode cX7_init 90 = .ok (.aload_n 0, 1) := by decide +kernel
theorem dX7_init_91 : decode cX7_init 91 = .ok (.sipush 488, 3) := by decide +kernel
theorem dX7_init_94 : decode cX7_init 94 = .ok (.newarray .int, 2) := by decide +kernel
theorem dX7_init_96 : decode cX7_init 96 = .ok (.putfield 45, 3) := by decide +kernel
theorem dX7_init_99 : decode cX7_init 99 = .ok (.aload_n 0, 1) := by decide +kernel
theorem dX7_init_100 : decode cX7_init 100 = .ok (.aload_n 1, 1) := by decide +kernel
theorem dX7_init_101 : decode cX7_init 101 = .ok (.putfield 48, 3) := by decide +kernel
theorem dX7_init_104 : decode cX7_init 104 = .ok (.return_, 1) := by decide +kernel
theorem dX1_init_0 : decode cX1_init 0 = .ok (.aload_n 0, 1) := by decide +kernel
theorem dX1_init_1 : decode cX1_init 1 = .ok (.invokespecial 7, 3) := by decide +kernel
theorem dX1_init_4 : decode cX1_init 4 = .ok (.aload_n 0, 1) := by decide +kernel
theorem dX1_init_5 : decode cX1_init 5 = .ok (.ldc 15, 2) := by decide +kernel
theorem dX1_init_7 : decode cX1_init 7 = .ok (.newarray .int, 2) := by decide +kernel
theorem dX1_init_9 : decode cX1_init 9 = .ok (.putfield 16, 3) := by decide +kernel
theorem dX1_init_12 : decode cX1_init 12 = .ok (.aload_n 0, 1) := by decide +kernel
theorem dX1_init_13 : decode cX1_init 13 = .ok (.sipush 4096, 3) := by decide +kernel
theorem dX1_init_16 : decode cX1_init 16 = .ok (.newarray .int, 2) := by decide +kernel
theorem dX1_init_18 : decode cX1_init 18 = .ok (.putfield 20, 3) := by decide +kernel
theorem dX1_init_21 : decode cX1_init 21 = .ok (.aload_n 0, 1) := by decide +kernel
theorem dX1_init_22 : decode cX1_init 22 = .ok (.sipush 512, 3) := by decide +kernel
theorem dX1_init_25 : decode cX1_init 25 = .ok (.newarray .int, 2) := by decide +kernel
theorem dX1_init_27 : decode cX1_init 27 = .ok (.putfield 23, 3) := by decide +kernel
theorem dX1_init_30 : decode cX1_init 30 = .ok (.aload_n 0, 1) := by decide +kernel
theorem dX1_init_31 : decode cX1_init 31 = .ok (.sipush 4096, 3) := by decide +kernel
theorem dX1_init_34 : decode cX1_init 34 = .ok (.newarray .int, 2) := by decide +kernel
theorem dX1_init_36 : decode cX1_init 36 = .ok (.putfield 26, 3) := by decide +kernel
theorem dX1_init_39 : decode cX1_init 39 = .ok (.aload_n 0, 1) := by decide +kernel
theorem dX1_init_40 : decode cX1_init 40 = .ok (.bipush 16, 2) := by decide +kernel
theorem dX1_init_42 : decode cX1_init 42 = .ok (.newarray .int, 2) := by decide +kernel
theorem dX1_init_44 : decode cX1_init 44 = .ok (.putfield 29, 3) := by decide +kernel
theorem dX1_init_47 : decode cX1_init 47 = .ok (.aload_n 0, 1) := by decide +kernel
theorem dX1_init_48 : decode cX1_init 48 = .ok (.bipush 16, 2) := by decide +kernel
theorem dX1_init_50 : decode cX1_init 50 = .ok (.newarray .int, 2) := by decide +kernel
theorem dX1_init_52 : decode cX1_init 52 = .ok (.putfield 32, 3) := by decide +kernel
theorem dX1_init_55 : decode cX1_init 55 = .ok (.aload_n 0, 1) := by decide +kernel
theorem dX1_init_56 : decode cX1_init 56 = .ok (.ldc 35, 2) := by decide +kernel
theorem dX1_init_58 : decode cX1_init 58 = .ok (.newarray .long, 2) := by decide +kernel
theorem dX1_init_60 : decode cX1_init 60 = .ok (.putfield 36, 3) := by decide +kernel
theorem dX1_init_63 : decode cX1_init 63 = .ok (.aload_n 0, 1) := by decide +kernel
theorem dX1_init_64 : decode cX1_init 64 = .ok (.sipush 1013, 3) := by decide +kernel
theorem dX1_init_67 : decode cX1_init 67 = .ok (.newarray .int, 2) := by decide +kernel
theorem dX1_init_69 : decode cX1_init 69 = .ok (.putfield 40, 3) := by decide +kernel
theorem dX1_init_72 : decode cX1_init 72 = .ok (.aload_n 0, 1) := by decide +kernel
theorem dX1_init_73 : decode cX1_init 73 = .ok (.aload_n 1, 1) := by decide +kernel
theorem dX1_init_74 : decode cX1_init 74 = .ok (.putfield 43, 3) := by decide +kernel
theorem dX1_init_77 : decode cX1_init 77 = .ok (.return_, 1) := by decide +kernel
theorem dX6_init_0 : decode cX6_init 0 = .ok (.aload_n 0, 1) := by decide +kernel
theorem dX6_init_1 : decode cX6_init 1 = .ok (.invokespecial 3, 3) := by decide +kernel
theorem dX6_init_4 : decode cX6_init 4 = .ok (.aload_n 0, 1) := by decide +kernel
theorem dX6_init_5 : decode cX6_init 5 = .ok (.sipush 1013, 3) := by decide +kernel
theorem dX6_init_8 : decode cX6_init 8 = .ok (.newarray .int, 2) := by decide +kernel
theorem dX6_init_10 : decode cX6_init 10 = .ok (.putfield 11, 3) := by decide +kernel
theorem dX6_init_13 : decode cX6_init 13 = .ok (.aload_n 0, 1) := by decide +kernel
theorem dX6_init_14 : decode cX6_init 14 = .ok (.sipush 1013, 3) := by decide +kernel
theorem dX6_init_17 : decode cX6_init 17 = .ok (.newarray .int, 2) := by decide +kernel
theorem dX6_init_19 : decode cX6_init 19 = .ok (.putfield 17, 3) := by decide +kernel
theorem dX6_init_22 : decode cX6_init 22 = .ok (.aload_n 0, 1) := by decide +kernel
theorem dX6_init_23 : decode cX6_init 23 = .ok (.sipush 2026, 3) := by decide +kernel
theorem dX6_init_26 : decode cX6_init 26 = .ok (.newarray .int, 2) := by decide +kernel
theorem dX6_init_28 : decode cX6_init 28 = .ok (.putfield 20, 3) := by decide +kernel
theorem dX6_init_31 : decode cX6_init 31 = .ok (.aload_n 0, 1) := by decide +kernel
theorem dX6_init_32 : decode cX6_init 32 = .ok (.sipush 2026, 3) := by decide +kernel
theorem dX6_init_35 : decode cX6_init 35 = .ok (.newarray .int, 2) := by decide +kernel
theorem dX6_init_37 : decode cX6_init 37 = .ok (.putfield 23, 3) := by decide +kernel
theorem dX6_init_40 : decode cX6_init 40 = .ok (.aload_n 0, 1) := by decide +kernel
theorem dX6_init_41 : decode cX6_init 41 = .ok (.sipush 2026, 3) := by decide +kernel
theorem dX6_init_44 : decode cX6_init 44 = .ok (.newarray .int, 2) := by decide +kernel
theorem dX6_init_46 : decode cX6_init 46 = .ok (.putfield 26, 3) := by decide +kernel
theorem dX6_init_49 : decode cX6_init 49 = .ok (.aload_n 0, 1) := by decide +kernel
theorem dX6_init_50 : decode cX6_init 50 = .ok (.sipush 6078, 3) := by decide +kernel
theorem dX6_init_53 : decode cX6_init 53 = .ok (.newarray .int, 2) := by decide +kernel
theorem dX6_init_55 : decode cX6_init 55 = .ok (.putfield 29, 3) := by decide +kernel
theorem dX6_init_58 : decode cX6_init 58 = .ok (.aload_n 0, 1) := by decide +kernel
theorem dX6_init_59 : decode cX6_init 59 = .ok (.sipush 3072, 3) := by decide +kernel
theorem dX6_init_62 : decode cX6_init 62 = .ok (.newarray .int, 2) := by decide +kernel
theorem dX6_init_64 : decode cX6_init 64 = .ok (.putfield 32, 3) := by decide +kernel
theorem dX6_init_67 : decode cX6_init 67 = .ok (.aload_n 0, 1) := by decide +kernel
theorem dX6_init_68 : decode cX6_init 68 = .ok (.sipush 1024, 3) := by decide +kernel
theorem dX6_init_71 : decode cX6_init 71 = .ok (.newarray .int, 2) := by decide +kernel
theorem dX6_init_73 : decode cX6_init 73 = .ok (.putfield 35, 3) := by decide +kernel
theorem dX6_init_76 : decode cX6_init 76 = .ok (.aload_n 0, 1) := by decide +kernel
theorem dX6_init_77 : decode cX6_init 77 = .ok (.sipush 1024, 3) := by decide +kernel
theorem dX6_init_80 : decode cX6_init 80 = .ok (.newarray .int, 2) := by decide +kernel
theorem dX6_init_82 : decode cX6_init 82 = .ok (.putfield 38, 3) := by decide +kernel
theorem dX6_init_85 : decode cX6_init 85 = .ok (.aload_n 0, 1) := by decide +kernel
theorem dX6_init_86 : decode cX6_init 86 = .ok (.iconst 4, 1) := by decide +kernel
theorem dX6_init_87 : decode cX6_init 87 = .ok (.newarray .int, 2) := by decide +kernel
theorem dX6_init_89 : decode cX6_init 89 = .ok (.putfield 41, 3) := by decide +kernel
theorem dX6_init_92 : decode cX6_init 92 = .ok (.aload_n 0, 1) := by decide +kernel
theorem dX6_init_93 : decode cX6_init 93 = .ok (.sipush 576, 3) := by decide +kernel
theorem dX6_init_96 : decode cX6_init 96 = .ok (.newarray .int, 2) := by decide +kernel
theorem dX6_init_98 : decode cX6_init 98 = .ok (.putfield 46, 3) := by decide +kernel
theorem dX6_init_101 : decode cX6_init 101 = .ok (.aload_n 0, 1) := by decide +kernel
theorem dX6_init_102 : decode cX6_init 102 = .ok (.sipush 1013, 3) := by decide +kernel
theorem dX6_init_105 : decode cX6_init 105 = .ok (.newarray .int, 2) := by decide +kernel
theorem dX6_init_107 : decode cX6_init 107 = .ok (.putfield 49, 3) := by decide +kernel
theorem dX6_init_110 : decode cX6_init 110 = .ok (.aload_n 0, 1) := by decide +kernel
theorem dX6_init_111 : decode cX6_init 111 = .ok (.sipush 1013, 3) := by decide +kernel
theorem dX6_init_114 : decode cX6_init 114 = .ok (.newarray .int, 2) := by decide +kernel
theorem dX6_init_116 : decode cX6_init 116 = .ok (.putfield 52, 3) := by decide +kernel
theorem dX6_init_119 : decode cX6_init 119 = .ok (.aload_n 0, 1) := by decide +kernel
theorem dX6_init_120 : decode cX6_init 120 = .ok (.sipush 3039, 3) := by decide +kernel
theorem dX6_init_123 : decode cX6_init 123 = .ok (.newarray .int, 2) := by decide +kernel
theorem dX6_init_125 : decode cX6_init 125 = .ok (.putfield 55, 3) := by decide +kernel
theorem dX6_init_128 : decode cX6_init 128 = .ok (.aload_n 0, 1) := by decide +kernel
theorem dX6_init_129 : decode cX6_init 129 = .ok (.sipush 3039, 3) := by decide +kernel
theorem dX6_init_132 : decode cX6_init 132 = .ok (.newarray .int, 2) := by decide +kernel
theorem dX6_init_134 : decode cX6_init 134 = .ok (.putfield 58, 3) := by decide +kernel
theorem dX6_init_137 : decode cX6_init 137 = .ok (.return_, 1) := by decide +kernel
theorem dX8_init_0 : decode cX8_init 0 = .ok (.aload_n 0, 1) := by decide +kernel
theorem dX8_init_1 : decode cX8_init 1 = .ok (.invokespecial 3, 3) := by decide +kernel
theorem dX8_init_4 : decode cX8_init 4 = .ok (.aload_n 0, 1) := by decide +kernel
theorem dX8_init_5 : decode cX8_init 5 = .ok (.sipush 4712, 3) := by decide +kernel
theorem dX8_init_8 : decode cX8_init 8 = .ok (.newarray .int, 2) := by decide +kernel
theorem dX8_init_10 : decode cX8_init 10 = .ok (.putfield 11, 3) := by decide +kernel
theorem dX8_init_13 : decode cX8_init 13 = .ok (.aload_n 0, 1) := by decide +kernel
theorem dX8_init_14 : decode cX8_init 14 = .ok (.sipush 4712, 3) := by decide +kernel
theorem dX8_init_17 : decode cX8_init 17 = .ok (.newarray .int, 2) := by decide +kernel
theorem dX8_init_19 : decode cX8_init 19 = .ok (.putfield 17, 3) := by decide +kernel
theorem dX8_init_22 : decode cX8_init 22 = .ok (.aload_n 0, 1) := by decide +kernel
theorem dX8_init_23 : decode cX8_init 23 = .ok (.sipush 4712, 3) := by decide +kernel
theorem dX8_init_26 : decode cX8_init 26 = .ok (.newarray .int, 2) := by decide +kernel
theorem dX8_init_28 : decode cX8_init 28 = .ok (.putfield 20, 3) := by decide +kernel
theorem dX8_init_31 : decode cX8_init 31 = .ok (.aload_n 0, 1) := by decide +kernel
theorem dX8_init_32 : decode cX8_init 32 = .ok (.sipush 4712, 3) := by decide +kernel
theorem dX8_init_35 : decode cX8_init 35 = .ok (.newarray .int, 2) := by decide +kernel
theorem dX8_init_37 : decode cX8_init 37 = .ok (.putfield 23, 3) := by decide +kernel
theorem dX8_init_40 : decode cX8_init 40 = .ok (.aload_n 0, 1) := by decide +kernel
theorem dX8_init_41 : decode cX8_init 41 = .ok (.sipush 4712, 3) := by decide +kernel
theorem dX8_init_44 : decode cX8_init 44 = .ok (.newarray .int, 2) := by decide +kernel
theorem dX8_init_46 : decode cX8_init 46 = .ok (.putfield 26, 3) := by decide +kernel
theorem dX8_init_49 : decode cX8_init 49 = .ok (.aload_n 0, 1) := by decide +kernel
theorem dX8_init_50 : decode cX8_init 50 = .ok (.sipush 4712, 3) := by decide +kernel
theorem dX8_init_53 : decode cX8_init 53 = .ok (.newarray .int, 2) := by decide +kernel
theorem dX8_init_55 : decode cX8_init 55 = .ok (.putfield 29, 3) := by decide +kernel
theorem dX8_init_58 : decode cX8_init 58 = .ok (.aload_n 0, 1) := by decide +kernel
theorem dX8_init_59 : decode cX8_init 59 = .ok (.sipush 162, 3) := by decide +kernel
theorem dX8_init_62 : decode cX8_init 62 = .ok (.newarray .int, 2) := by decide +kernel
theorem dX8_init_64 : decode cX8_init 64 = .ok (.putfield 34, 3) := by decide +kernel
theorem dX8_init_67 : decode cX8_init 67 = .ok (.return_, 1) := by decide +kernel
theorem dX11_init_0 : decode cX11_init 0 = .ok (.aload_n 0, 1) := by decide +kernel
theorem dX11_init_1 : decode cX11_init 1 = .ok (.invokespecial 5, 3) := by decide +kernel
theorem dX11_init_4 : decode cX11_init 4 = .ok (.aload_n 0, 1) := by decide +kernel
theorem dX11_init_5 : decode cX11_init 5 = .ok (.sipush 162, 3) := by decide +kernel
theorem dX11_init_8 : decode cX11_init 8 = .ok (.newarray .int, 2) := by decide +kernel
theorem dX11_init_10 : decode cX11_init 10 = .ok (.putfield 11, 3) := by decide +kernel
theorem dX11_init_13 : decode cX11_init 13 = .ok (.aload_n 0, 1) := by decide +kernel
theorem dX11_init_14 : decode cX11_init 14 = .ok (.sipush 162, 3) := by decide +kernel
theorem dX11_init_17 : decode cX11_init 17 = .ok (.newarray .int, 2) := by decide +kernel
theorem dX11_init_19 : decode cX11_init 19 = .ok (.putfield 17, 3) := by decide +kernel
theorem dX11_init_22 : decode cX11_init 22 = .ok (.aload_n 0, 1) := by decide +kernel
theorem dX11_init_23 : decode cX11_init 23 = .ok (.sipush 1944, 3) := by decide +kernel
theorem dX11_init_26 : decode cX11_init 26 = .ok (.newarray .int, 2) := by decide +kernel
theorem dX11_init_28 : decode cX11_init 28 = .ok (.putfield 22, 3) := by decide +kernel
theorem dX11_init_31 : decode cX11_init 31 = .ok (.aload_n 0, 1) := by decide +kernel
theorem dX11_init_32 : decode cX11_init 32 = .ok (.bipush 41, 2) := by decide +kernel
theorem dX11_init_34 : decode cX11_init 34 = .ok (.newarray .int, 2) := by decide +kernel
theorem dX11_init_36 : decode cX11_init 36 = .ok (.putfield 25, 3) := by decide +kernel
theorem dX11_init_39 : decode cX11_init 39 = .ok (.aload_n 0, 1) := by decide +kernel
theorem dX11_init_40 : decode cX11_init 40 = .ok (.bipush 41, 2) := by decide +kernel
theorem dX11_init_42 : decode cX11_init 42 = .ok (.newarray .int, 2) := by decide +kernel
theorem dX11_init_44 : decode cX11_init 44 = .ok (.putfield 28, 3) := by decide +kernel
theorem dX11_init_47 : decode cX11_init 47 = .ok (.aload_n 0, 1) := by decide +kernel
theorem dX11_init_48 : decode cX11_init 48 = .ok (.bipush 41, 2) := by decide +kernel
theorem dX11_init_50 : decode cX11_init 50 = .ok (.newarray .int, 2) := by decide +kernel
theorem dX11_init_52 : decode cX11_init 52 = .ok (.putfield 31, 3) := by decide +kernel
theorem dX11_init_55 : decode cX11_init 55 = .ok (.aload_n 0, 1) := by decide +kernel
theorem dX11_init_56 : decode cX11_init 56 = .ok (.sipush 6232, 3) := by decide +kernel
theorem dX11_init_59 : decode cX11_init 59 = .ok (.newarray .int, 2) := by decide +kernel
theorem dX11_init_61 : decode cX11_init 61 = .ok (.putfield 34, 3) := by decide +kernel
theorem dX11_init_64 : decode cX11_init 64 = .ok (.aload_n 0, 1) := by decide +kernel
theorem dX11_init_65 : decode cX11_init 65 = .ok (.sipush 152, 3) := by decide +kernel
theorem dX11_init_68 : decode cX11_init 68 = .ok (.newarray .int, 2) := by decide +kernel
theorem dX11_init_70 : decode cX11_init 70 = .ok (.putfield 37, 3) := by decide +kernel
theorem dX11_init_73 : decode cX11_init 73 = .ok (.aload_n 0, 1) := by decide +kernel
theorem dX11_init_74 : decode cX11_init 74 = .ok (.sipush 162, 3) := by decide +kernel
theorem dX11_init_77 : decode cX11_init 77 = .ok (.newarray .int, 2) := by decide +kernel
theorem dX11_init_79 : decode cX11_init 79 = .ok (.putfield 40, 3) := by decide +kernel
theorem dX11_init_82 : decode cX11_init 82 = .ok (.aload_n 0, 1) := by decide +kernel
theorem dX11_init_83 : decode cX11_init 83 = .ok (.sipush 163, 3) := by decide +kernel
theorem dX11_init_86 : decode cX11_init 86 = .ok (.newarray .int, 2) := by decide +kernel
theorem dX11_init_88 : decode cX11_init 88 = .ok (.putfield 43, 3) := by decide +kernel
theorem dX11_init_91 : decode cX11_init 91 = .ok (.aload_n 0, 1) := by decide +kernel
theorem dX11_init_92 : decode cX11_init 92 = .ok (.sipush 20000, 3) := by decide +kernel
theorem dX11_init_95 : decode cX11_init 95 = .ok (.newarray .int, 2) := by decide +kernel
theorem dX11_init_97 : decode cX11_init 97 = .ok (.putfield 46, 3) := by decide +kernel
theorem dX11_init_100 : decode cX11_init 100 = .ok (.return_, 1) := by decide +kernel
theorem dX9_init_0 : decode cX9_init 0 = .ok (.aload_n 0, 1) := by decide +kernel
theorem dX9_init_1 : decode cX9_init 1 = .ok (.invokespecial 5, 3) := by decide +kernel
theorem dX9_init_4 : decode cX9_init 4 = .ok (.aload_n 0, 1) := by decide +kernel
theorem dX9_init_5 : decode cX9_init 5 = .ok (.sipush 10368, 3) := by decide +kernel
theorem dX9_init_8 : decode cX9_init 8 = .ok (.newarray .long, 2) := by decide +kernel
theorem dX9_init_10 : decode cX9_init 10 = .ok (.putfield 15, 3) := by decide +kernel
theorem dX9_init_13 : decode cX9_init 13 = .ok (.aload_n 0, 1) := by decide +kernel
theorem dX9_init_14 : decode cX9_init 14 = .ok (.sipush 10368, 3) := by decide +kernel
theorem dX9_init_17 : decode cX9_init 17 = .ok (.newarray .long, 2) := by decide +kernel
theorem dX9_init_19 : decode cX9_init 19 = .ok (.putfield 19, 3) := by decide +kernel
theorem dX9_init_22 : decode cX9_init 22 = .ok (.aload_n 0, 1) := by decide +kernel
theorem dX9_init_23 : decode cX9_init 23 = .ok (.sipush 162, 3) := by decide +kernel
theorem dX9_init_26 : decode cX9_init 26 = .ok (.newarray .int, 2) := by decide +kernel
theorem dX9_init_28 : decode cX9_init 28 = .ok (.putfield 22, 3) := by decide +kernel
theorem dX9_init_31 : decode cX9_init 31 = .ok (.aload_n 0, 1) := by decide +kernel
theorem dX9_init_32 : decode cX9_init 32 = .ok (.ldc 26, 2) := by decide +kernel
theorem dX9_init_34 : decode cX9_init 34 = .ok (.newarray .long, 2) := by decide +kernel
theorem dX9_init_36 : decode cX9_init 36 = .ok (.putfield 27, 3) := by decide +kernel
theorem dX9_init_39 : decode cX9_init 39 = .ok (.aload_n 0, 1) := by decide +kernel
theorem dX9_init_40 : decode cX9_init 40 = .ok (.sipush 1224, 3) := by decide +kernel
theorem dX9_init_43 : decode cX9_init 43 = .ok (.newarray .int, 2) := by decide +kernel
theorem dX9_init_45 : decode cX9_init 45 = .ok (.putfield 30, 3) := by decide +kernel
theorem dX9_init_48 : decode cX9_init 48 = .ok (.aload_n 0, 1) := by decide +kernel
theorem dX9_init_49 : decode cX9_init 49 = .ok (.sipush 1224, 3) := by decide +kernel
theorem dX9_init_52 : decode cX9_init 52 = .ok (.newarray .int, 2) := by decide +kernel
theorem dX9_init_54 : decode cX9_init 54 = .ok (.putfield 33, 3) := by decide +kernel
theorem dX9_init_57 : decode cX9_init 57 = .ok (.return_, 1) := by decide +kernel
theorem dX4_init_0 : decode cX4_init 0 = .ok (.aload_n 0, 1) := by decide +kernel
theorem dX4_init_1 : decode cX4_init 1 = .ok (.invokespecial 3, 3) := by decide +kernel
theorem dX4_init_4 : decode cX4_init 4 = .ok (.aload_n 0, 1) := by decide +kernel
theorem dX4_init_5 : decode cX4_init 5 = .ok (.sipush 10000, 3) := by decide +kernel
theorem dX4_init_8 : decode cX4_init 8 = .ok (.newarray .int, 2) := by decide +kernel
theorem dX4_init_10 : decode cX4_init 10 = .ok (.putfield 11, 3) := by decide +kernel
theorem dX4_init_13 : decode cX4_init 13 = .ok (.aload_n 0, 1) := by decide +kernel
theorem dX4_init_14 : decode cX4_init 14 = .ok (.sipush 162, 3) := by decide +kernel
theorem dX4_init_17 : decode cX4_init 17 = .ok (.newarray .int, 2) := by decide +kernel
theorem dX4_init_19 : decode cX4_init 19 = .ok (.putfield 17, 3) := by decide +kernel
theorem dX4_init_22 : decode cX4_init 22 = .ok (.aload_n 0, 1) := by decide +kernel
theorem dX4_init_23 : decode cX4_init 23 = .ok (.sipush 2000, 3) := by decide +kernel
theorem dX4_init_26 : decode cX4_init 26 = .ok (.newarray .int, 2) := by decide +kernel
theorem dX4_init_28 : decode cX4_init 28 = .ok (.putfield 20, 3) := by decide +kernel
theorem dX4_init_31 : decode cX4_init 31 = .ok (.aload_n 0, 1) := by decide +kernel
theorem dX4_init_32 : decode cX4_init 32 = .ok (.sipush 2000, 3) := by decide +kernel
theorem dX4_init_35 : decode cX4_init 35 = .ok (.newarray .int, 2) := by decide +kernel
theorem dX4_init_37 : decode cX4_init 37 = .ok (.putfield 23, 3) := by decide +kernel
theorem dX4_init_40 : decode cX4_init 40 = .ok (.aload_n 0, 1) := by decide +kernel
theorem dX4_init_41 : decode cX4_init 41 = .ok (.sipush 652, 3) := by decide +kernel
theorem dX4_init_44 : decode cX4_init 44 = .ok (.newarray .int, 2) := by decide +kernel
theorem dX4_init_46 : decode cX4_init 46 = .ok (.putfield 28, 3) := by decide +kernel
theorem dX4_init_49 : decode cX4_init 49 = .ok (.aload_n 0, 1) := by decide +kernel
theorem dX4_init_50 : decode cX4_init 50 = .ok (.sipush 2000, 3) := by decide +kernel
theorem dX4_init_53 : decode cX4_init 53 = .ok (.newarray .int, 2) := by decide +kernel
theorem dX4_init_55 : decode cX4_init 55 = .ok (.putfield 31, 3) := by decide +kernel
theorem dX4_init_58 : decode cX4_init 58 = .ok (.aload_n 0, 1) := by decide +kernel
theorem dX4_init_59 : decode cX4_init 59 = .ok (.sipush 486, 3) := by decide +kernel
theorem dX4_init_62 : decode cX4_init 62 = .ok (.newarray .long, 2) := by decide +kernel
theorem dX4_init_64 : decode cX4_init 64 = .ok (.putfield 34, 3) := by decide +kernel
theorem dX4_init_67 : decode cX4_init 67 = .ok (.return_, 1) := by decide +kernel
theorem dX3_init_0 : decode cX3_init 0 = .ok (.aload_n 0, 1) := by decide +kernel
theorem dX3_init_1 : decode cX3_init 1 = .ok (.invokespecial 3, 3) := by decide +kernel
theorem dX3_init_4 : decode cX3_init 4 = .ok (.aload_n 0, 1) := by decide +kernel
theorem dX3_init_5 : decode cX3_init 5 = .ok (.sipush 1013, 3) := by decide +kernel
theorem dX3_init_8 : decode cX3_init 8 = .ok (.newarray .int, 2) := by decide +kernel
theorem dX3_init_10 : decode cX3_init 10 = .ok (.putfield 9, 3) := by decide +kernel
theorem dX3_init_13 : decode cX3_init 13 = .ok (.aload_n 0, 1) := by decide +kernel
theorem dX3_init_14 : decode cX3_init 14 = .ok (.sipush 1013, 3) := by decide +kernel
theorem dX3_init_17 : decode cX3_init 17 = .ok (.newarray .int, 2) := by decide +kernel
theorem dX3_init_19 : decode cX3_init 19 = .ok (.putfield 13, 3) := by decide +kernel
theorem dX3_init_22 : decode cX3_init 22 = .ok (.aload_n 0, 1) := by decide +kernel
theorem dX3_init_23 : decode cX3_init 23 = .ok (.sipush 1013, 3) := by decide +kernel
theorem dX3_init_26 : decode cX3_init 26 = .ok (.newarray .int, 2) := by decide +kernel
theorem dX3_init_28 : decode cX3_init 28 = .ok (.putfield 16, 3) := by decide +kernel
theorem dX3_init_31 : decode cX3_init 31 = .ok (.aload_n 0, 1) := by decide +kernel
theorem dX3_init_32 : decode cX3_init 32 = .ok (.bipush 16, 2) := by decide +kernel
theorem dX3_init_34 : decode cX3_init 34 = .ok (.newarray .int, 2) := by decide +kernel
theorem dX3_init_36 : decode cX3_init 36 = .ok (.putfield 19, 3) := by decide +kernel
theorem dX3_init_39 : decode cX3_init 39 = .ok (.aload_n 0, 1) := by decide +kernel
theorem dX3_init_40 : decode cX3_init 40 = .ok (.bipush 6, 2) := by decide +kernel
theorem dX3_init_42 : decode cX3_init 42 = .ok (.newarray .int, 2) := by decide +kernel
theorem dX3_init_44 : decode cX3_init 44 = .ok (.putfield 22, 3) := by decide +kernel
theorem dX3_init_47 : decode cX3_init 47 = .ok (.aload_n 0, 1) := by decide +kernel
theorem dX3_init_48 : decode cX3_init 48 = .ok (.sipush 4096, 3) := by decide +kernel
theorem dX3_init_51 : decode cX3_init 51 = .ok (.newarray .int, 2) := by decide +kernel
theorem dX3_init_53 : decode cX3_init 53 = .ok (.putfield 25, 3) := by decide +kernel
theorem dX3_init_56 : decode cX3_init 56 = .ok (.return_, 1) := by decide +kernel
theorem dX5_init_0 : decode cX5_init 0 = .ok (.aload_n 0, 1) := by decide +kernel
theorem dX5_init_1 : decode cX5_init 1 = .ok (.invokespecial 3, 3) := by decide +kernel
theorem dX5_init_4 : decode cX5_init 4 = .ok (.aload_n 0, 1) := by decide +kernel
theorem dX5_init_5 : decode cX5_init 5 = .ok (.bipush 12, 2) := by decide +kernel
theorem dX5_init_7 : decode cX5_init 7 = .ok (.newarray .int, 2) := by decide +kernel
theorem dX5_init_9 : decode cX5_init 9 = .ok (.putfield 11, 3) := by decide +kernel
theorem dX5_init_12 : decode cX5_init 12 = .ok (.aload_n 0, 1) := by decide +kernel
theorem dX5_init_13 : decode cX5_init 13 = .ok (.bipush 12, 2) := by decide +kernel
theorem dX5_init_15 : decode cX5_init 15 = .ok (.newarray .int, 2) := by decide +kernel
theorem dX5_init_17 : decode cX5_init 17 = .ok (.putfield 15, 3) := by decide +kernel
theorem dX5_init_20 : decode cX5_init 20 = .ok (.aload_n 0, 1) := by decide +kernel
theorem dX5_init_21 : decode cX5_init 21 = .ok (.bipush 12, 2) := by decide +kernel
theorem dX5_init_23 : decode cX5_init 23 = .ok (.newarray .int, 2) := by decide +kernel
theorem dX5_init_25 : decode cX5_init 25 = .ok (.putfield 18, 3) := by decide +kernel
theorem dX5_init_28 : decode cX5_init 28 = .ok (.aload_n 0, 1) := by decide +kernel
theorem dX5_init_29 : decode cX5_init 29 = .ok (.bipush 12, 2) := by decide +kernel
theorem dX5_init_31 : decode cX5_init 31 = .ok (.newarray .int, 2) := by decide +kernel
theorem dX5_init_33 : decode cX5_init 33 = .ok (.putfield 21, 3) := by decide +kernel
theorem dX5_init_36 : decode cX5_init 36 = .ok (.return_, 1) := by decide +kernel
theorem dX13_init_0 : decode cX13_init 0 = .ok (.aload_n 0, 1) := by decide +kernel
theorem dX13_init_1 : decode cX13_init 1 = .ok (.invokespecial 7, 3) := by decide +kernel
theorem dX13_init_4 : decode cX13_init 4 = .ok (.aload_n 0, 1) := by decide +kernel
theorem dX13_init_5 : decode cX13_init 5 = .ok (.ldc 13, 2) := by decide +kernel
theorem dX13_init_7 : decode cX13_init 7 = .ok (.newarray .byte, 2) := by decide +kernel
theorem dX13_init_9 : decode cX13_init 9 = .ok (.putfield 14, 3) := by decide +kernel
theorem dX13_init_12 : decode cX13_init 12 = .ok (.aload_n 0, 1) := by decide +kernel
theorem dX13_init_13 : decode cX13_init 13 = .ok (.ldc 18, 2) := by decide +kernel
theorem dX13_init_15 : decode cX13_init 15 = .ok (.newarray .byte, 2) := by decide +kernel
theorem dX13_init_17 : decode cX13_init 17 = .ok (.putfield 19, 3) := by decide +kernel
theorem dX13_init_20 : decode cX13_init 20 = .ok (.aload_n 0, 1) := by decide +kernel
theorem dX13_init_21 : decode cX13_init 21 = .ok (.ldc 18, 2) := by decide +kernel
theorem dX13_init_23 : decode cX13_init 23 = .ok (.newarray .int, 2) := by decide +kernel
theorem dX13_init_25 : decode cX13_init 25 = .ok (.putfield 22, 3) := by decide +kernel
theorem dX13_init_28 : decode cX13_init 28 = .ok (.aload_n 0, 1) := by decide +kernel
theorem dX13_init_29 : decode cX13_init 29 = .ok (.ldc 18, 2) := by decide +kernel
theorem dX13_init_31 : decode cX13_init 31 = .ok (.newarray .int, 2) := by decide +kernel
theorem dX13_init_33 : decode cX13_init 33 = .ok (.putfield 26, 3) := by decide +kernel
theorem dX13_init_36 : decode cX13_init 36 = .ok (.aload_n 0, 1) := by decide +kernel
theorem dX13_init_37 : decode cX13_init 37 = .ok (.ldc 18, 2) := by decide +kernel
theorem dX13_init_39 : decode cX13_init 39 = .ok (.newarray .long, 2) := by decide +kernel
theorem dX13_init_41 : decode cX13_init 41 = .ok (.putfield 29, 3) := by decide +kernel
theorem dX13_init_44 : decode cX13_init 44 = .ok (.aload_n 0, 1) := by decide +kernel
theorem dX13_init_45 : decode cX13_init 45 = .ok (.ldc 18, 2) := by decide +kernel
theorem dX13_init_47 : decode cX13_init 47 = .ok (.newarray .int, 2) := by decide +kernel
theorem dX13_init_49 : decode cX13_init 49 = .ok (.putfield 33, 3) := by decide +kernel
theorem dX13_init_52 : decode cX13_init 52 = .ok (.aload_n 0, 1) := by decide +kernel
theorem dX13_init_53 : decode cX13_init 53 = .ok (.bipush 16, 2) := by decide +kernel
theorem dX13_init_55 : decode cX13_init 55 = .ok (.newarray .int, 2) := by decide +kernel
theorem dX13_init_57 : decode cX13_init 57 = .ok (.putfield 36, 3) := by decide +kernel
theorem dX13_init_60 : decode cX13_init 60 = .ok (.aload_n 0, 1) := by decide +kernel
theorem dX13_init_61 : decode cX13_init 61 = .ok (.bipush 16, 2) := by decide +kernel
theorem dX13_init_63 : decode cX13_init 63 = .ok (.newarray .int, 2) := by decide +kernel
theorem dX13_init_65 : decode cX13_init 65 = .ok (.putfield 39, 3) := by decide +kernel
theorem dX13_init_68 : decode cX13_init 68 = .ok (.aload_n 0, 1) := by decide +kernel
theorem dX13_init_69 : decode cX13_init 69 = .ok (.bipush 16, 2) := by decide +kernel
theorem dX13_init_71 : decode cX13_init 71 = .ok (.newarray .int, 2) := by decide +kernel
theorem dX13_init_73 : decode cX13_init 73 = .ok (.putfield 42, 3) := by decide +kernel
theorem dX13_init_76 : decode cX13_init 76 = .ok (.aload_n 0, 1) := by decide +kernel
theorem dX13_init_77 : decode cX13_init 77 = .ok (.sipush 640, 3) := by decide +kernel
theorem dX13_init_80 : decode cX13_init 80 = .ok (.newarray .int, 2) := by decide +kernel
theorem dX13_init_82 : decode cX13_init 82 = .ok (.putfield 45, 3) := by decide +kernel
theorem dX13_init_85 : decode cX13_init 85 = .ok (.aload_n 0, 1) := by decide +kernel
theorem dX13_init_86 : decode cX13_init 86 = .ok (.sipush 640, 3) := by decide +kernel
theorem dX13_init_89 : decode cX13_init 89 = .ok (.newarray .int, 2) := by decide +kernel
theorem dX13_init_91 : decode cX13_init 91 = .ok (.putfield 48, 3) := by decide +kernel
theorem dX13_init_94 : decode cX13_init 94 = .ok (.aload_n 0, 1) := by decide +kernel
theorem dX13_init_95 : decode cX13_init 95 = .ok (.sipush 640, 3) := by decide +kernel
theorem dX13_init_98 : decode cX13_init 98 = .ok (.newarray .int, 2) := by decide +kernel
theorem dX13_init_100 : decode cX13_init 100 = .ok (.putfield 51, 3) := by decide +kernel
theorem dX13_init_103 : decode cX13_init 103 = .ok (.aload_n 0, 1) := by decide +kernel
theorem dX13_init_104 : decode cX13_init 104 = .ok (.sipush 640, 3) := by decide +kernel
theorem dX13_init_107 : decode cX13_init 107 = .ok (.newarray .int, 2) := by decide +kernel
theorem dX13_init_109 : decode cX13_init 109 = .ok (.putfield 54, 3) := by decide +kernel
theorem dX13_init_112 : decode cX13_init 112 = .ok (.aload_n 0, 1) := by decide +kernel
theorem dX13_init_113 : decode cX13_init 113 = .ok (.sipush 640, 3) := by decide +kernel
theorem dX13_init_116 : decode cX13_init 116 = .ok (.newarray .boolean, 2) := by decide +kernel
theorem dX13_init_118 : decode cX13_init 118 = .ok (.putfield 57, 3) := by decide +kernel
theorem dX13_init_121 : decode cX13_init 121 = .ok (.aload_n 0, 1) := by decide +kernel
theorem dX13_init_122 : decode cX13_init 122 = .ok (.bipush 16, 2) := by decide +kernel
theorem dX13_init_124 : decode cX13_init 124 = .ok (.newarray .int, 2) := by decide +kernel
theorem dX13_init_126 : decode cX13_init 126 = .ok (.putfield 61, 3) := by decide +kernel
theorem dX13_init_129 : decode cX13_init 129 = .ok (.aload_n 0, 1) := by decide +kernel
theorem dX13_init_130 : decode cX13_init 130 = .ok (.bipush 16, 2) := by decide +kernel
theorem dX13_init_132 : decode cX13_init 132 = .ok (.newarray .int, 2) := by decide +kernel
theorem dX13_init_134 : decode cX13_init 134 = .ok (.putfield 64, 3) := by decide +kernel
theorem dX13_init_137 : decode cX13_init 137 = .ok (.aload_n 0, 1) := by decide +kernel
theorem dX13_init_138 : decode cX13_init 138 = .ok (.bipush 16, 2) := by decide +kernel
theorem dX13_init_140 : decode cX13_init 140 = .ok (.newarray .int, 2) := by decide +kernel
theorem dX13_init_142 : decode cX13_init 142 = .ok (.putfield 67, 3) := by decide +kernel
theorem dX13_init_145 : decode cX13_init 145 = .ok (.aload_n 0, 1) := by decide +kernel
theorem dX13_init_146 : decode cX13_init 146 = .ok (.bipush 16, 2) := by decide +kernel
theorem dX13_init_148 : decode cX13_init 148 = .ok (.newarray .int, 2) := by decide +kernel
theorem dX13_init_150 : decode cX13_init 150 = .ok (.putfield 70, 3) := by decide +kernel
theorem dX13_init_153 : decode cX13_init 153 = .ok (.aload_n 0, 1) := by decide +kernel
theorem dX13_init_154 : decode cX13_init 154 = .ok (.sipush 1024, 3) := by decide +kernel
theorem dX13_init_157 : decode cX13_init 157 = .ok (.newarray .int, 2) := by decide +kernel
theorem dX13_init_159 : decode cX13_init 159 = .ok (.putfield 73, 3) := by decide +kernel
theorem dX13_init_162 : decode cX13_init 162 = .ok (.aload_n 0, 1) := by decide +kernel
theorem dX13_init_163 : decode cX13_init 163 = .ok (.sipush 1024, 3) := by decide +kernel
theorem dX13_init_166 : decode cX13_init 166 = .ok (.newarray .int, 2) := by decide +kernel
theorem dX13_init_168 : decode cX13_init 168 = .ok (.putfield 76, 3) := by decide +kernel
theorem dX13_init_171 : decode cX13_init 171 = .ok (.aload_n 0, 1) := by decide +kernel
theorem dX13_init_172 : decode cX13_init 172 = .ok (.sipush 1024, 3) := by decide +kernel
theorem dX13_init_175 : decode cX13_init 175 = .ok (.newarray .int, 2) := by decide +kernel
theorem dX13_init_177 : decode cX13_init 177 = .ok (.putfield 79, 3) := by decide +kernel
theorem dX13_init_180 : decode cX13_init 180 = .ok (.aload_n 0, 1) := by decide +kernel
theorem dX13_init_181 : decode cX13_init 181 = .ok (.sipush 8192, 3) := by decide +kernel
theorem dX13_init_184 : decode cX13_init 184 = .ok (.newarray .int, 2) := by decide +kernel
theorem dX13_init_186 : decode cX13_init 186 = .ok (.putfield 82, 3) := by decide +kernel
theorem dX13_init_189 : decode cX13_init 189 = .ok (.aload_n 0, 1) := by decide +kernel
theorem dX13_init_190 : decode cX13_init 190 = .ok (.sipush 2048, 3) := by decide +kernel
theorem dX13_init_193 : decode cX13_init 193 = .ok (.newarray .int, 2) := by decide +kernel
theorem dX13_init_195 : decode cX13_init 195 = .ok (.putfield 85, 3) := by decide +kernel
theorem dX13_init_198 : decode cX13_init 198 = .ok (.aload_n 0, 1) := by decide +kernel
theorem dX13_init_199 : decode cX13_init 199 = .ok (.sipush 2048, 3) := by decide +kernel
theorem dX13_init_202 : decode cX13_init 202 = .ok (.newarray .int, 2) := by decide +kernel
theorem dX13_init_204 : decode cX13_init 204 = .ok (.putfield 88, 3) := by decide +kernel
theorem dX13_init_207 : decode cX13_init 207 = .ok (.aload_n 0, 1) := by decide +kernel
theorem dX13_init_208 : decode cX13_init 208 = .ok (.sipush 4096, 3) := by decide +kernel
theorem dX13_init_211 : decode cX13_init 211 = .ok (.newarray .int, 2) := by decide +kernel
theorem dX13_init_213 : decode cX13_init 213 = .ok (.putfield 91, 3) := by decide +kernel
theorem dX13_init_216 : decode cX13_init 216 = .ok (.aload_n 0, 1) := by decide +kernel
theorem dX13_init_217 : decode cX13_init 217 = .ok (.sipush 2048, 3) := by decide +kernel
theorem dX13_init_220 : decode cX13_init 220 = .ok (.newarray .int, 2) := by decide +kernel
theorem dX13_init_222 : decode cX13_init 222 = .ok (.putfield 94, 3) := by decide +kernel
theorem dX13_init_225 : decode cX13_init 225 = .ok (.aload_n 0, 1) := by decide +kernel
theorem dX13_init_226 : decode cX13_init 226 = .ok (.sipush 5120, 3) := by decide +kernel
theorem dX13_init_229 : decode cX13_init 229 = .ok (.newarray .int, 2) := by decide +kernel
theorem dX13_init_231 : decode cX13_init 231 = .ok (.putfield 97, 3) := by decide +kernel
theorem dX13_init_234 : decode cX13_init 234 = .ok (.aload_n 0, 1) := by decide +kernel
theorem dX13_init_235 : decode cX13_init 235 = .ok (.ldc 100, 2) := by decide +kernel
theorem dX13_init_237 : decode cX13_init 237 = .ok (.newarray .int, 2) := by decide +kernel
theorem dX13_init_239 : decode cX13_init 239 = .ok (.putfield 101, 3) := by decide +kernel
theorem dX13_init_242 : decode cX13_init 242 = .ok (.aload_n 0, 1) := by decide +kernel
theorem dX13_init_243 : decode cX13_init 243 = .ok (.bipush 16, 2) := by decide +kernel
theorem dX13_init_245 : decode cX13_init 245 = .ok (.newarray .int, 2) := by decide +kernel
theorem dX13_init_247 : decode cX13_init 247 = .ok (.putfield 104, 3) := by decide +kernel
theorem dX13_init_250 : decode cX13_init 250 = .ok (.aload_n 0, 1) := by decide +kernel
theorem dX13_init_251 : decode cX13_init 251 = .ok (.bipush 16, 2) := by decide +kernel
theorem dX13_init_253 : decode cX13_init 253 = .ok (.newarray .int, 2) := by decide +kernel
theorem dX13_init_255 : decode cX13_init 255 = .ok (.putfield 107, 3) := by decide +kernel
theorem dX13_init_258 : decode cX13_init 258 = .ok (.aload_n 0, 1) := by decide +kernel
theorem dX13_init_259 : decode cX13_init 259 = .ok (.bipush 16, 2) := by decide +kernel
theorem dX13_init_261 : decode cX13_init 261 = .ok (.newarray .int, 2) := by decide +kernel
theorem dX13_init_263 : decode cX13_init 263 = .ok (.putfield 110, 3) := by decide +kernel
theorem dX13_init_266 : decode cX13_init 266 = .ok (.aload_n 0, 1) := by decide +kernel
theorem dX13_init_267 : decode cX13_init 267 = .ok (.bipush 16, 2) := by decide +kernel
theorem dX13_init_269 : decode cX13_init 269 = .ok (.newarray .int, 2) := by decide +kernel
theorem dX13_init_271 : decode cX13_init 271 = .ok (.putfield 113, 3) := by decide +kernel
theorem dX13_init_274 : decode cX13_init 274 = .ok (.aload_n 0, 1) := by decide +kernel
theorem dX13_init_275 : decode cX13_init 275 = .ok (.sipush 640, 3) := by decide +kernel
theorem dX13_init_278 : decode cX13_init 278 = .ok (.newarray .int, 2) := by decide +kernel
theorem dX13_init_280 : decode cX13_init 280 = .ok (.putfield 116, 3) := by decide +kernel
theorem dX13_init_283 : decode cX13_init 283 = .ok (.aload_n 0, 1) := by decide +kernel
theorem dX13_init_284 : decode cX13_init 284 = .ok (.sipush 1024, 3) := by decide +kernel
theorem dX13_init_287 : decode cX13_init 287 = .ok (.newarray .int, 2) := by decide +kernel
theorem dX13_init_289 : decode cX13_init 289 = .ok (.putfield 119, 3) := by decide +kernel
theorem dX13_init_292 : decode cX13_init 292 = .ok (.aload_n 0, 1) := by decide +kernel
theorem dX13_init_293 : decode cX13_init 293 = .ok (.sipush 320, 3) := by decide +kernel
theorem dX13_init_296 : decode cX13_init 296 = .ok (.newarray .int, 2) := by decide +kernel
theorem dX13_init_298 : decode cX13_init 298 = .ok (.putfield 122, 3) := by decide +kernel
theorem dX13_init_301 : decode cX13_init 301 = .ok (.aload_n 0, 1) := by decide +kernel
theorem dX13_init_302 : decode cX13_init 302 = .ok (.bipush 6, 2) := by decide +kernel
theorem dX13_init_304 : decode cX13_init 304 = .ok (.newarray .boolean, 2) := by decide +kernel
theorem dX13_init_306 : decode cX13_init 306 = .ok (.putfield 125, 3) := by decide +kernel
theorem dX13_init_309 : decode cX13_init 309 = .ok (.aload_n 0, 1) := by decide +kernel
theorem dX13_init_310 : decode cX13_init 310 = .ok (.bipush 6, 2) := by decide +kernel
theorem dX13_init_312 : decode cX13_init 312 = .ok (.newarray .int, 2) := by decide +kernel
theorem dX13_init_314 : decode cX13_init 314 = .ok (.putfield 128, 3) := by decide +kernel
theorem dX13_init_317 : decode cX13_init 317 = .ok (.aload_n 0, 1) := by decide +kernel
theorem dX13_init_318 : decode cX13_init 318 = .ok (.bipush 6, 2) := by decide +kernel
theorem dX13_init_320 : decode cX13_init 320 = .ok (.newarray .int, 2) := by decide +kernel
theorem dX13_init_322 : decode cX13_init 322 = .ok (.putfield 131, 3) := by decide +kernel
theorem dX13_init_325 : decode cX13_init 325 = .ok (.aload_n 0, 1) := by decide +kernel
theorem dX13_init_326 : decode cX13_init 326 = .ok (.bipush 6, 2) := by decide +kernel
theorem dX13_init_328 : decode cX13_init 328 = .ok (.newarray .int, 2) := by decide +kernel
theorem dX13_init_330 : decode cX13_init 330 = .ok (.putfield 134, 3) := by decide +kernel
theorem dX13_init_333 : decode cX13_init 333 = .ok (.aload_n 0, 1) := by decide +kernel
theorem dX13_init_334 : decode cX13_init 334 = .ok (.bipush 6, 2) := by decide +kernel
theorem dX13_init_336 : decode cX13_init 336 = .ok (.newarray .int, 2) := by decide +kernel
theorem dX13_init_338 : decode cX13_init 338 = .ok (.putfield 137, 3) := by decide +kernel
theorem dX13_init_341 : decode cX13_init 341 = .ok (.aload_n 0, 1) := by decide +kernel
theorem dX13_init_342 : decode cX13_init 342 = .ok (.bipush 6, 2) := by decide +kernel
theorem dX13_init_344 : decode cX13_init 344 = .ok (.newarray .int, 2) := by decide +kernel
theorem dX13_init_346 : decode cX13_init 346 = .ok (.putfield 140, 3) := by decide +kernel
theorem dX13_init_349 : decode cX13_init 349 = .ok (.aload_n 0, 1) := by decide +kernel
theorem dX13_init_350 : decode cX13_init 350 = .ok (.bipush 6, 2) := by decide +kernel
theorem dX13_init_352 : decode cX13_init 352 = .ok (.newarray .int, 2) := by decide +kernel
theorem dX13_init_354 : decode cX13_init 354 = .ok (.putfield 143, 3) := by decide +kernel
theorem dX13_init_357 : decode cX13_init 357 = .ok (.aload_n 0, 1) := by decide +kernel
theorem dX13_init_358 : decode cX13_init 358 = .ok (.bipush 6, 2) := by decide +kernel
theorem dX13_init_360 : decode cX13_init 360 = .ok (.newarray .int, 2) := by decide +kernel
theorem dX13_init_362 : decode cX13_init 362 = .ok (.putfield 146, 3) := by decide +kernel
theorem dX13_init_365 : decode cX13_init 365 = .ok (.aload_n 0, 1) := by decide +kernel
theorem dX13_init_366 : decode cX13_init 366 = .ok (.bipush 6, 2) := by decide +kernel
theorem dX13_init_368 : decode cX13_init 368 = .ok (.newarray .int, 2) := by decide +kernel
theorem dX13_init_370 : decode cX13_init 370 = .ok (.putfield 149, 3) := by decide +kernel
theorem dX13_init_373 : decode cX13_init 373 = .ok (.aload_n 0, 1) := by decide +kernel
theorem dX13_init_374 : decode cX13_init 374 = .ok (.bipush 6, 2) := by decide +kernel
theorem dX13_init_376 : decode cX13_init 376 = .ok (.newarray .int, 2) := by decide +kernel
theorem dX13_init_378 : decode cX13_init 378 = .ok (.putfield 152, 3) := by decide +kernel
theorem dX13_init_381 : decode cX13_init 381 = .ok (.aload_n 0, 1) := by decide +kernel
theorem dX13_init_382 : decode cX13_init 382 = .ok (.bipush 6, 2) := by decide +kernel
theorem dX13_init_384 : decode cX13_init 384 = .ok (.newarray .int, 2) := by decide +kernel
theorem dX13_init_386 : decode cX13_init 386 = .ok (.putfield 155, 3) := by decide +kernel
theorem dX13_init_389 : decode cX13_init 389 = .ok (.aload_n 0, 1) := by decide +kernel
theorem dX13_init_390 : decode cX13_init 390 = .ok (.sipush 12288, 3) := by decide +kernel
theorem dX13_init_393 : decode cX13_init 393 = .ok (.newarray .int, 2) := by decide +kernel
theorem dX13_init_395 : decode cX13_init 395 = .ok (.putfield 158, 3) := by decide +kernel
theorem dX13_init_398 : decode cX13_init 398 = .ok (.aload_n 0, 1) := by decide +kernel
theorem dX13_init_399 : decode cX13_init 399 = .ok (.sipush 12288, 3) := by decide +kernel
theorem dX13_init_402 : decode cX13_init 402 = .ok (.newarray .int, 2) := by decide +kernel
theorem dX13_init_404 : decode cX13_init 404 = .ok (.putfield 161, 3) := by decide +kernel
theorem dX13_init_407 : decode cX13_init 407 = .ok (.aload_n 0, 1) := by decide +kernel
theorem dX13_init_408 : decode cX13_init 408 = .ok (.sipush 12288, 3) := by decide +kernel
theorem dX13_init_411 : decode cX13_init 411 = .ok (.newarray .int, 2) := by decide +kernel
theorem dX13_init_413 : decode cX13_init 413 = .ok (.putfield 164, 3) := by decide +kernel
theorem dX13_init_416 : decode cX13_init 416 = .ok (.aload_n 0, 1) := by decide +kernel
theorem dX13_init_417 : decode cX13_init 417 = .ok (.bipush 96, 2) := by decide +kernel
theorem dX13_init_419 : decode cX13_init 419 = .ok (.newarray .int, 2) := by decide +kernel
theorem dX13_init_421 : decode cX13_init 421 = .ok (.putfield 167, 3) := by decide +kernel
theorem dX13_init_424 : decode cX13_init 424 = .ok (.aload_n 0, 1) := by decide +kernel
theorem dX13_init_425 : decode cX13_init 425 = .ok (.bipush 36, 2) := by decide +kernel
theorem dX13_init_427 : decode cX13_init 427 = .ok (.newarray .int, 2) := by decide +kernel
theorem dX13_init_429 : decode cX13_init 429 = .ok (.putfield 170, 3) := by decide +kernel
theorem dX13_init_432 : decode cX13_init 432 = .ok (.aload_n 0, 1) := by decide +kernel
theorem dX13_init_433 : decode cX13_init 433 = .ok (.sipush 24576, 3) := by decide +kernel
theorem dX13_init_436 : decode cX13_init 436 = .ok (.newarray .int, 2) := by decide +kernel
theorem dX13_init_438 : decode cX13_init 438 = .ok (.putfield 173, 3) := by decide +kernel
theorem dX13_init_441 : decode cX13_init 441 = .ok (.aload_n 0, 1) := by decide +kernel
theorem dX13_init_442 : decode cX13_init 442 = .ok (.sipush 24576, 3) := by decide +kernel
theorem dX13_init_445 : decode cX13_init 445 = .ok (.newarray .int, 2) := by decide +kernel
theorem dX13_init_447 : decode cX13_init 447 = .ok (.putfield 176, 3) := by decide +kernel
theorem dX13_init_450 : decode cX13_init 450 = .ok (.aload_n 0, 1) := by decide +kernel
theorem dX13_init_451 : decode cX13_init 451 = .ok (.ldc 179, 2) := by decide +kernel
theorem dX13_init_453 : decode cX13_init 453 = .ok (.newarray .long, 2) := by decide +kernel
theorem dX13_init_455 : decode cX13_init 455 = .ok (.putfield 180, 3) := by decide +kernel
theorem dX13_init_458 : decode cX13_init 458 = .ok (.aload_n 0, 1) := by decide +kernel
theorem dX13_init_459 : decode cX13_init 459 = .ok (.sipush 2048, 3) := by decide +kernel
theorem dX13_init_462 : decode cX13_init 462 = .ok (.newarray .int, 2) := by decide +kernel
theorem dX13_init_464 : decode cX13_init 464 = .ok (.putfield 183, 3) := by decide +kernel
theorem dX13_init_467 : decode cX13_init 467 = .ok (.aload_n 0, 1) := by decide +kernel
theorem dX13_init_468 : decode cX13_init 468 = .ok (.sipush 2048, 3) := by decide +kernel
theorem dX13_init_471 : decode cX13_init 471 = .ok (.newarray .boolean, 2) := by decide +kernel
theorem dX13_init_473 : decode cX13_init 473 = .ok (.putfield 186, 3) := by decide +kernel
theorem dX13_init_476 : decode cX13_init 476 = .ok (.aload_n 0, 1) := by decide +kernel
theorem dX13_init_477 : decode cX13_init 477 = .ok (.sipush 2048, 3) := by decide +kernel
theorem dX13_init_480 : decode cX13_init 480 = .ok (.newarray .int, 2) := by decide +kernel
theorem dX13_init_482 : decode cX13_init 482 = .ok (.putfield 189, 3) := by decide +kernel
theorem dX13_init_485 : decode cX13_init 485 = .ok (.aload_n 0, 1) := by decide +kernel
theorem dX13_init_486 : decode cX13_init 486 = .ok (.bipush 16, 2) := by decide +kernel
theorem dX13_init_488 : decode cX13_init 488 = .ok (.newarray .int, 2) := by decide +kernel
theorem dX13_init_490 : decode cX13_init 490 = .ok (.putfield 192, 3) := by decide +kernel
theorem dX13_init_493 : decode cX13_init 493 = .ok (.aload_n 0, 1) := by decide +kernel
theorem dX13_init_494 : decode cX13_init 494 = .ok (.bipush 64, 2) := by decide +kernel
theorem dX13_init_496 : decode cX13_init 496 = .ok (.newarray .boolean, 2) := by decide +kernel
theorem dX13_init_498 : decode cX13_init 498 = .ok (.putfield 195, 3) := by decide +kernel
theorem dX13_init_501 : decode cX13_init 501 = .ok (.aload_n 0, 1) := by decide +kernel
theorem dX13_init_502 : decode cX13_init 502 = .ok (.iconst 3, 1) := by decide +kernel
theorem dX13_init_503 : decode cX13_init 503 = .ok (.newarray .int, 2) := by decide +kernel
theorem dX13_init_505 : decode cX13_init 505 = .ok (.putfield 198, 3) := by decide +kernel
theorem dX13_init_508 : decode cX13_init 508 = .ok (.aload_n 0, 1) := by decide +kernel
theorem dX13_init_509 : decode cX13_init 509 = .ok (.bipush 12, 2) := by decide +kernel
theorem dX13_init_511 : decode cX13_init 511 = .ok (.newarray .int, 2) := by decide +kernel
theorem dX13_init_513 : decode cX13_init 513 = .ok (.putfield 201, 3) := by decide +kernel
theorem dX13_init_516 : decode cX13_init 516 = .ok (.aload_n 0, 1) := by decide +kernel
theorem dX13_init_517 : decode cX13_init 517 = .ok (.bipush 12, 2) := by decide +kernel
theorem dX13_init_519 : decode cX13_init 519 = .ok (.newarray .int, 2) := by decide +kernel
theorem dX13_init_521 : decode cX13_init 521 = .ok (.putfield 204, 3) := by decide +kernel
theorem dX13_init_524 : decode cX13_init 524 = .ok (.aload_n 0, 1) := by decide +kernel
theorem dX13_init_525 : decode cX13_init 525 = .ok (.bipush 12, 2) := by decide +kernel
theorem dX13_init_527 : decode cX13_init 527 = .ok (.newarray .int, 2) := by decide +kernel
theorem dX13_init_529 : decode cX13_init 529 = .ok (.putfield 207, 3) := by decide +kernel
theorem dX13_init_532 : decode cX13_init 532 = .ok (.aload_n 0, 1) := by decide +kernel
theorem dX13_init_533 : decode cX13_init 533 = .ok (.bipush 12, 2) := by decide +kernel
theorem dX13_init_535 : decode cX13_init 535 = .ok (.newarray .int, 2) := by decide +kernel
theorem dX13_init_537 : decode cX13_init 537 = .ok (.putfield 210, 3) := by decide +kernel
theorem dX13_init_540 : decode cX13_init 540 = .ok (.aload_n 0, 1) := by decide +kernel
theorem dX13_init_541 : decode cX13_init 541 = .ok (.bipush 12, 2) := by decide +kernel
theorem dX13_init_543 : decode cX13_init 543 = .ok (.newarray .int, 2) := by decide +kernel
theorem dX13_init_545 : decode cX13_init 545 = .ok (.putfield 213, 3) := by decide +kernel
theorem dX13_init_548 : decode cX13_init 548 = .ok (.aload_n 0, 1) := by decide +kernel
theorem dX13_init_549 : decode cX13_init 549 = .ok (.iconst 3, 1) := by decide +kernel
theorem dX13_init_550 : decode cX13_init 550 = .ok (.newarray .boolean, 2) := by decide +kernel
theorem dX13_init_552 : decode cX13_init 552 = .ok (.putfield 216, 3) := by decide +kernel
theorem dX13_init_555 : decode cX13_init 555 = .ok (.aload_n 0, 1) := by decide +kernel
theorem dX13_init_556 : decode cX13_init 556 = .ok (.iconst 3, 1) := by decide +kernel
theorem dX13_init_557 : decode cX13_init 557 = .ok (.newarray .int, 2) := by decide +kernel
theorem dX13_init_559 : decode cX13_init 559 = .ok (.putfield 219, 3) := by decide +kernel
theorem dX13_init_562 : decode cX13_init 562 = .ok (.aload_n 0, 1) := by decide +kernel
theorem dX13_init_563 : decode cX13_init 563 = .ok (.bipush 36, 2) := by decide +kernel
theorem dX13_init_565 : decode cX13_init 565 = .ok (.newarray .int, 2) := by decide +kernel
theorem dX13_init_567 : decode cX13_init 567 = .ok (.putfield 222, 3) := by decide +kernel
theorem dX13_init_570 : decode cX13_init 570 = .ok (.aload_n 0, 1) := by decide +kernel
theorem dX13_init_571 : decode cX13_init 571 = .ok (.bipush 36, 2) := by decide +kernel
theorem dX13_init_573 : decode cX13_init 573 = .ok (.newarray .int, 2) := by decide +kernel
theorem dX13_init_575 : decode cX13_init 575 = .ok (.putfield 225, 3) := by decide +kernel
theorem dX13_init_578 : decode cX13_init 578 = .ok (.aload_n 0, 1) := by decide +kernel
theorem dX13_init_579 : decode cX13_init 579 = .ok (.bipush 36, 2) := by decide +kernel
theorem dX13_init_581 : decode cX13_init 581 = .ok (.newarray .int, 2) := by decide +kernel
theorem dX13_init_583 : decode cX13_init 583 = .ok (.putfield 228, 3) := by decide +kernel
theorem dX13_init_586 : decode cX13_init 586 = .ok (.aload_n 0, 1) := by decide +kernel
theorem dX13_init_587 : decode cX13_init 587 = .ok (.bipush 36, 2) := by decide +kernel
theorem dX13_init_589 : decode cX13_init 589 = .ok (.newarray .int, 2) := by decide +kernel
theorem dX13_init_591 : decode cX13_init 591 = .ok (.putfield 231, 3) := by decide +kernel
theorem dX13_init_594 : decode cX13_init 594 = .ok (.aload_n 0, 1) := by decide +kernel
theorem dX13_init_595 : decode cX13_init 595 = .ok (.sipush 4200, 3) := by decide +kernel
theorem dX13_init_598 : decode cX13_init 598 = .ok (.newarray .int, 2) := by decide +kernel
theorem dX13_init_600 : decode cX13_init 600 = .ok (.putfield 234, 3) := by decide +kernel
theorem dX13_init_603 : decode cX13_init 603 = .ok (.aload_n 0, 1) := by decide +kernel
theorem dX13_init_604 : decode cX13_init 604 = .ok (.sipush 4096, 3) := by decide +kernel
theorem dX13_init_607 : decode cX13_init 607 = .ok (.newarray .int, 2) := by decide +kernel
theorem dX13_init_609 : decode cX13_init 609 = .ok (.putfield 237, 3) := by decide +kernel
theorem dX13_init_612 : decode cX13_init 612 = .ok (.aload_n 0, 1) := by decide +kernel
theorem dX13_init_613 : decode cX13_init 613 = .ok (.sipush 4096, 3) := by decide +kernel
theorem dX13_init_616 : decode cX13_init 616 = .ok (.newarray .int, 2) := by decide +kernel
theorem dX13_init_618 : decode cX13_init 618 = .ok (.putfield 240, 3) := by decide +kernel
theorem dX13_init_621 : decode cX13_init 621 = .ok (.aload_n 0, 1) := by decide +kernel
theorem dX13_init_622 : decode cX13_init 622 = .ok (.sipush 4096, 3) := by decide +kernel
theorem dX13_init_625 : decode cX13_init 625 = .ok (.newarray .int, 2) := by decide +kernel
theorem dX13_init_627 : decode cX13_init 627 = .ok (.putfield 243, 3) := by decide +kernel
theorem dX13_init_630 : decode cX13_init 630 = .ok (.aload_n 0, 1) := by decide +kernel
theorem dX13_init_631 : decode cX13_init 631 = .ok (.sipush 4096, 3) := by decide +kernel
theorem dX13_init_634 : decode cX13_init 634 = .ok (.newarray .int, 2) := by decide +kernel
theorem dX13_init_636 : decode cX13_init 636 = .ok (.putfield 246, 3) := by decide +kernel
theorem dX13_init_639 : decode cX13_init 639 = .ok (.aload_n 0, 1) := by decide +kernel
theorem dX13_init_640 : decode cX13_init 640 = .ok (.sipush 4096, 3) := by decide +kernel
theorem dX13_init_643 : decode cX13_init 643 = .ok (.newarray .int, 2) := by decide +kernel
theorem dX13_init_645 : decode cX13_init 645 = .ok (.putfield 249, 3) := by decide +kernel
theorem dX13_init_648 : decode cX13_init 648 = .ok (.aload_n 0, 1) := by decide +kernel
theorem dX13_init_649 : decode cX13_init 649 = .ok (.sipush 4096, 3) := by decide +kernel
theorem dX13_init_652 : decode cX13_init 652 = .ok (.newarray .int, 2) := by decide +kernel
theorem dX13_init_654 : decode cX13_init 654 = .ok (.putfield 252, 3) := by decide +kernel
theorem dX13_init_657 : decode cX13_init 657 = .ok (.aload_n 0, 1) := by decide +kernel
theorem dX13_init_658 : decode cX13_init 658 = .ok (.sipush 4096, 3) := by decide +kernel
theorem dX13_init_661 : decode cX13_init 661 = .ok (.newarray .int, 2) := by decide +kernel
theorem dX13_init_663 : decode cX13_init 663 = .ok (.putfield 255, 3) := by decide +kernel
theorem dX13_init_666 : decode cX13_init 666 = .ok (.aload_n 0, 1) := by decide +kernel
theorem dX13_init_667 : decode cX13_init 667 = .ok (.sipush 4096, 3) := by decide +kernel
theorem dX13_init_670 : decode cX13_init 670 = .ok (.newarray .int, 2) := by decide +kernel
theorem dX13_init_672 : decode cX13_init 672 = .ok (.putfield 258, 3) := by decide +kernel
theorem dX13_init_675 : decode cX13_init 675 = .ok (.aload_n 0, 1) := by decide +kernel
theorem dX13_init_676 : decode cX13_init 676 = .ok (.sipush 4096, 3) := by decide +kernel
theorem dX13_init_679 : decode cX13_init 679 = .ok (.newarray .boolean, 2) := by decide +kernel
theorem dX13_init_681 : decode cX13_init 681 = .ok (.putfield 261, 3) := by decide +kernel
theorem dX13_init_684 : decode cX13_init 684 = .ok (.aload_n 0, 1) := by decide +kernel
theorem dX13_init_685 : decode cX13_init 685 = .ok (.sipush 2048, 3) := by decide +kernel
theorem dX13_init_688 : decode cX13_init 688 = .ok (.newarray .int, 2) := by decide +kernel
theorem dX13_init_690 : decode cX13_init 690 = .ok (.putfield 264, 3) := by decide +kernel
theorem dX13_init_693 : decode cX13_init 693 = .ok (.aload_n 0, 1) := by decide +kernel
theorem dX13_init_694 : decode cX13_init 694 = .ok (.sipush 2048, 3) := by decide +kernel
theorem dX13_init_697 : decode cX13_init 697 = .ok (.newarray .int, 2) := by decide +kernel
theorem dX13_init_699 : decode cX13_init 699 = .ok (.putfield 267, 3) := by decide +kernel
theorem dX13_init_702 : decode cX13_init 702 = .ok (.aload_n 0, 1) := by decide +kernel
theorem dX13_init_703 : decode cX13_init 703 = .ok (.sipush 2048, 3) := by decide +kernel
theorem dX13_init_706 : decode cX13_init 706 = .ok (.newarray .int, 2) := by decide +kernel
theorem dX13_init_708 : decode cX13_init 708 = .ok (.putfield 270, 3) := by decide +kernel
theorem dX13_init_711 : decode cX13_init 711 = .ok (.aload_n 0, 1) := by decide +kernel
theorem dX13_init_712 : decode cX13_init 712 = .ok (.sipush 2048, 3) := by decide +kernel
theorem dX13_init_715 : decode cX13_init 715 = .ok (.newarray .boolean, 2) := by decide +kernel
theorem dX13_init_717 : decode cX13_init 717 = .ok (.putfield 273, 3) := by decide +kernel
theorem dX13_init_720 : decode cX13_init 720 = .ok (.aload_n 0, 1) := by decide +kernel
theorem dX13_init_721 : decode cX13_init 721 = .ok (.sipush 2048, 3) := by decide +kernel
theorem dX13_init_724 : decode cX13_init 724 = .ok (.newarray .boolean, 2) := by decide +kernel
theorem dX13_init_726 : decode cX13_init 726 = .ok (.putfield 276, 3) := by decide +kernel
theorem dX13_init_729 : decode cX13_init 729 = .ok (.aload_n 0, 1) := by decide +kernel
theorem dX13_init_730 : decode cX13_init 730 = .ok (.bipush 64, 2) := by decide +kernel
theorem dX13_init_732 : decode cX13_init 732 = .ok (.newarray .int, 2) := by decide +kernel
theorem dX13_init_734 : decode cX13_init 734 = .ok (.putfield 279, 3) := by decide +kernel
theorem dX13_init_737 : decode cX13_init 737 = .ok (.aload_n 0, 1) := by decide +kernel
theorem dX13_init_738 : decode cX13_init 738 = .ok (.sipush 192, 3) := by decide +kernel
theorem dX13_init_741 : decode cX13_init 741 = .ok (.newarray .int, 2) := by decide +kernel
theorem dX13_init_743 : decode cX13_init 743 = .ok (.putfield 282, 3) := by decide +kernel
theorem dX13_init_746 : decode cX13_init 746 = .ok (.aload_n 0, 1) := by decide +kernel
theorem dX13_init_747 : decode cX13_init 747 = .ok (.sipush 4096, 3) := by decide +kernel
theorem dX13_init_750 : decode cX13_init 750 = .ok (.newarray .int, 2) := by decide +kernel
theorem dX13_init_752 : decode cX13_init 752 = .ok (.putfield 285, 3) := by decide +kernel
theorem dX13_init_755 : decode cX13_init 755 = .ok (.aload_n 0, 1) := by decide +kernel
theorem dX13_init_756 : decode cX13_init 756 = .ok (.sipush 4096, 3) := by decide +kernel
theorem dX13_init_759 : decode cX13_init 759 = .ok (.newarray .int, 2) := by decide +kernel
theorem dX13_init_761 : decode cX13_init 761 = .ok (.putfield 288, 3) := by decide +kernel
theorem dX13_init_764 : decode cX13_init 764 = .ok (.aload_n 0, 1) := by decide +kernel
theorem dX13_init_765 : decode cX13_init 765 = .ok (.sipush 12288, 3) := by decide +kernel
theorem dX13_init_768 : decode cX13_init 768 = .ok (.newarray .int, 2) := by decide +kernel
theorem dX13_init_770 : decode cX13_init 770 = .ok (.putfield 291, 3) := by decide +kernel
theorem dX13_init_773 : decode cX13_init 773 = .ok (.aload_n 0, 1) := by decide +kernel
theorem dX13_init_774 : decode cX13_init 774 = .ok (.sipush 4096, 3) := by decide +kernel
theorem dX13_init_777 : decode cX13_init 777 = .ok (.newarray .int, 2) := by decide +kernel
theorem dX13_init_779 : decode cX13_init 779 = .ok (.putfield 294, 3) := by decide +kernel
theorem dX13_init_782 : decode cX13_init 782 = .ok (.aload_n 0, 1) := by decide +kernel
theorem dX13_init_783 : decode cX13_init 783 = .ok (.sipush 4096, 3) := by decide +kernel
theorem dX13_init_786 : decode cX13_init 786 = .ok (.newarray .int, 2) := by decide +kernel
theorem dX13_init_788 : decode cX13_init 788 = .ok (.putfield 297, 3) := by decide +kernel
theorem dX13_init_791 : decode cX13_init 791 = .ok (.aload_n 0, 1) := by decide +kernel
theorem dX13_init_792 : decode cX13_init 792 = .ok (.sipush 4096, 3) := by decide +kernel
theorem dX13_init_795 : decode cX13_init 795 = .ok (.newarray .boolean, 2) := by decide +kernel
theorem dX13_init_797 : decode cX13_init 797 = .ok (.putfield 300, 3) := by decide +kernel
theorem dX13_init_800 : decode cX13_init 800 = .ok (.aload_n 0, 1) := by decide +kernel
theorem dX13_init_801 : decode cX13_init 801 = .ok (.bipush 8, 2) := by decide +kernel
theorem dX13_init_803 : decode cX13_init 803 = .ok (.newarray .int, 2) := by decide +kernel
theorem dX13_init_805 : decode cX13_init 805 = .ok (.putfield 303, 3) := by decide +kernel
theorem dX13_init_808 : decode cX13_init 808 = .ok (.aload_n 0, 1) := by decide +kernel
theorem dX13_init_809 : decode cX13_init 809 = .ok (.sipush 2048, 3) := by decide +kernel
theorem dX13_init_812 : decode cX13_init 812 = .ok (.newarray .int, 2) := by decide +kernel
theorem dX13_init_814 : decode cX13_init 814 = .ok (.putfield 306, 3) := by decide +kernel
theorem dX13_init_817 : decode cX13_init 817 = .ok (.aload_n 0, 1) := by decide +kernel
theorem dX13_init_818 : decode cX13_init 818 = .ok (.sipush 2048, 3) := by decide +kernel
theorem dX13_init_821 : decode cX13_init 821 = .ok (.newarray .int, 2) := by decide +kernel
theorem dX13_init_823 : decode cX13_init 823 = .ok (.putfield 309, 3) := by decide +kernel
theorem dX13_init_826 : decode cX13_init 826 = .ok (.aload_n 0, 1) := by decide +kernel
theorem dX13_init_827 : decode cX13_init 827 = .ok (.bipush 64, 2) := by decide +kernel
theorem dX13_init_829 : decode cX13_init 829 = .ok (.newarray .int, 2) := by decide +kernel
theorem dX13_init_831 : decode cX13_init 831 = .ok (.putfield 312, 3) := by decide +kernel
theorem dX13_init_834 : decode cX13_init 834 = .ok (.aload_n 0, 1) := by decide +kernel
theorem dX13_init_835 : decode cX13_init 835 = .ok (.sipush 8192, 3) := by decide +kernel
theorem dX13_init_838 : decode cX13_init 838 = .ok (.newarray .int, 2) := by decide +kernel
theorem dX13_init_840 : decode cX13_init 840 = .ok (.putfield 315, 3) := by decide +kernel
theorem dX13_init_843 : decode cX13_init 843 = .ok (.aload_n 0, 1) := by decide +kernel
theorem dX13_init_844 : decode cX13_init 844 = .ok (.sipush 24576, 3) := by decide +kernel
theorem dX13_init_847 : decode cX13_init 847 = .ok (.newarray .int, 2) := by decide +kernel
theorem dX13_init_849 : decode cX13_init 849 = .ok (.putfield 318, 3) := by decide +kernel
theorem dX13_init_852 : decode cX13_init 852 = .ok (.aload_n 0, 1) := by decide +kernel
theorem dX13_init_853 : decode cX13_init 853 = .ok (.sipush 4096, 3) := by decide +kernel
theorem dX13_init_856 : decode cX13_init 856 = .ok (.newarray .int, 2) := by decide +kernel
theorem dX13_init_858 : decode cX13_init 858 = .ok (.putfield 321, 3) := by decide +kernel
theorem dX13_init_861 : decode cX13_init 861 = .ok (.aload_n 0, 1) := by decide +kernel
theorem dX13_init_862 : decode cX13_init 862 = .ok (.sipush 2048, 3) := by decide +kernel
theorem dX13_init_865 : decode cX13_init 865 = .ok (.newarray .int, 2) := by decide +kernel
theorem dX13_init_867 : decode cX13_init 867 = .ok (.putfield 324, 3) := by decide +kernel
theorem dX13_init_870 : decode cX13_init 870 = .ok (.aload_n 0, 1) := by decide +kernel
theorem dX13_init_871 : decode cX13_init 871 = .ok (.sipush 8192, 3) := by decide +kernel
theorem dX13_init_874 : decode cX13_init 874 = .ok (.newarray .int, 2) := by decide +kernel
theorem dX13_init_876 : decode cX13_init 876 = .ok (.putfield 327, 3) := by decide +kernel
theorem dX13_init_879 : decode cX13_init 879 = .ok (.aload_n 0, 1) := by decide +kernel
theorem dX13_init_880 : decode cX13_init 880 = .ok (.sipush 8192, 3) := by decide +kernel
theorem dX13_init_883 : decode cX13_init 883 = .ok (.newarray .int, 2) := by decide +kernel
theorem dX13_init_885 : decode cX13_init 885 = .ok (.putfield 330, 3) := by decide +kernel
theorem dX13_init_888 : decode cX13_init 888 = .ok (.aload_n 0, 1) := by decide +kernel
theorem dX13_init_889 : decode cX13_init 889 = .ok (.iconst 4, 1) := by decide +kernel
theorem dX13_init_890 : decode cX13_init 890 = .ok (.newarray .boolean, 2) := by decide +kernel
theorem dX13_init_892 : decode cX13_init 892 = .ok (.putfield 333, 3) := by decide +kernel
theorem dX13_init_895 : decode cX13_init 895 = .ok (.aload_n 0, 1) := by decide +kernel
theorem dX13_init_896 : decode cX13_init 896 = .ok (.iconst 4, 1) := by decide +kernel
theorem dX13_init_897 : decode cX13_init 897 = .ok (.newarray .int, 2) := by decide +kernel
theorem dX13_init_899 : decode cX13_init 899 = .ok (.putfield 336, 3) := by decide +kernel
theorem dX13_init_902 : decode cX13_init 902 = .ok (.aload_n 0, 1) := by decide +kernel
theorem dX13_init_903 : decode cX13_init 903 = .ok (.iconst 4, 1) := by decide +kernel
theorem dX13_init_904 : decode cX13_init 904 = .ok (.newarray .int, 2) := by decide +kernel
theorem dX13_init_906 : decode cX13_init 906 = .ok (.putfield 339, 3) := by decide +kernel
theorem dX13_init_909 : decode cX13_init 909 = .ok (.aload_n 0, 1) := by decide +kernel
theorem dX13_init_910 : decode cX13_init 910 = .ok (.iconst 4, 1) := by decide +kernel
theorem dX13_init_911 : decode cX13_init 911 = .ok (.newarray .int, 2) := by decide +kernel
theorem dX13_init_913 : decode cX13_init 913 = .ok (.putfield 342, 3) := by decide +kernel
theorem dX13_init_916 : decode cX13_init 916 = .ok (.aload_n 0, 1) := by decide +kernel
theorem dX13_init_917 : decode cX13_init 917 = .ok (.iconst 4, 1) := by decide +kernel
theorem dX13_init_918 : decode cX13_init 918 = .ok (.newarray .int, 2) := by decide +kernel
theorem dX13_init_920 : decode cX13_init 920 = .ok (.putfield 345, 3) := by decide +kernel
theorem dX13_init_923 : decode cX13_init 923 = .ok (.aload_n 0, 1) := by decide +kernel
theorem dX13_init_924 : decode cX13_init 924 = .ok (.iconst 4, 1) := by decide +kernel
theorem dX13_init_925 : decode cX13_init 925 = .ok (.newarray .int, 2) := by decide +kernel
theorem dX13_init_927 : decode cX13_init 927 = .ok (.putfield 348, 3) := by decide +kernel
theorem dX13_init_930 : decode cX13_init 930 = .ok (.aload_n 0, 1) := by decide +kernel
theorem dX13_init_931 : decode cX13_init 931 = .ok (.iconst 4, 1) := by decide +kernel
theorem dX13_init_932 : decode cX13_init 932 = .ok (.newarray .int, 2) := by decide +kernel
theorem dX13_init_934 : decode cX13_init 934 = .ok (.putfield 351, 3) := by decide +kernel
theorem dX13_init_937 : decode cX13_init 937 = .ok (.aload_n 0, 1) := by decide +kernel
theorem dX13_init_938 : decode cX13_init 938 = .ok (.sipush 600, 3) := by decide +kernel
theorem dX13_init_941 : decode cX13_init 941 = .ok (.newarray .int, 2) := by decide +kernel
theorem dX13_init_943 : decode cX13_init 943 = .ok (.putfield 354, 3) := by decide +kernel
theorem dX13_init_946 : decode cX13_init 946 = .ok (.aload_n 0, 1) := by decide +kernel
theorem dX13_init_947 : decode cX13_init 947 = .ok (.sipush 1800, 3) := by decide +kernel
theorem dX13_init_950 : decode cX13_init 950 = .ok (.newarray .int, 2) := by decide +kernel
theorem dX13_init_952 : decode cX13_init 952 = .ok (.putfield 357, 3) := by decide +kernel
theorem dX13_init_955 : decode cX13_init 955 = .ok (.aload_n 0, 1) := by decide +kernel
theorem dX13_init_956 : decode cX13_init 956 = .ok (.bipush 64, 2) := by decide +kernel
theorem dX13_init_958 : decode cX13_init 958 = .ok (.newarray .int, 2) := by decide +kernel
theorem dX13_init_960 : decode cX13_init 960 = .ok (.putfield 360, 3) := by decide +kernel
theorem dX13_init_963 : decode cX13_init 963 = .ok (.aload_n 0, 1) := by decide +kernel
theorem dX13_init_964 : decode cX13_init 964 = .ok (.bipush 24, 2) := by decide +kernel
theorem dX13_init_966 : decode cX13_init 966 = .ok (.newarray .int, 2) := by decide +kernel
theorem dX13_init_968 : decode cX13_init 968 = .ok (.putfield 363, 3) := by decide +kernel
theorem dX13_init_971 : decode cX13_init 971 = .ok (.aload_n 0, 1) := by decide +kernel
theorem dX13_init_972 : decode cX13_init 972 = .ok (.iconst 4, 1) := by decide +kernel
theorem dX13_init_973 : decode cX13_init 973 = .ok (.newarray .int, 2) := by decide +kernel
theorem dX13_init_975 : decode cX13_init 975 = .ok (.putfield 366, 3) := by decide +kernel
theorem dX13_init_978 : decode cX13_init 978 = .ok (.aload_n 0, 1) := by decide +kernel
theorem dX13_init_979 : decode cX13_init 979 = .ok (.bipush 48, 2) := by decide +kernel
theorem dX13_init_981 : decode cX13_init 981 = .ok (.newarray .int, 2) := by decide +kernel
theorem dX13_init_983 : decode cX13_init 983 = .ok (.putfield 369, 3) := by decide +kernel
theorem dX13_init_986 : decode cX13_init 986 = .ok (.aload_n 0, 1) := by decide +kernel
theorem dX13_init_987 : decode cX13_init 987 = .ok (.bipush 48, 2) := by decide +kernel
theorem dX13_init_989 : decode cX13_init 989 = .ok (.newarray .int, 2) := by decide +kernel
theorem dX13_init_991 : decode cX13_init 991 = .ok (.putfield 372, 3) := by decide +kernel
theorem dX13_init_994 : decode cX13_init 994 = .ok (.aload_n 0, 1) := by decide +kernel
theorem dX13_init_995 : decode cX13_init 995 = .ok (.bipush 48, 2) := by decide +kernel
theorem dX13_init_997 : decode cX13_init 997 = .ok (.newarray .int, 2) := by decide +kernel
theorem dX13_init_999 : decode cX13_init 999 = .ok (.putfield 375, 3) := by decide +kernel
theorem dX13_init_1002 : decode cX13_init 1002 = .ok (.aload_n 0, 1) := by decide +kernel
theorem dX13_init_1003 : decode cX13_init 1003 = .ok (.bipush 48, 2) := by decide +kernel
theorem dX13_init_1005 : decode cX13_init 1005 = .ok (.newarray .int, 2) := by decide +kernel
theorem dX13_init_1007 : decode cX13_init 1007 = .ok (.putfield 378, 3) := by decide +kernel
theorem dX13_init_1010 : decode cX13_init 1010 = .ok (.aload_n 0, 1) := by decide +kernel
theorem dX13_init_1011 : decode cX13_init 1011 = .ok (.sipush 256, 3) := by decide +kernel
theorem dX13_init_1014 : decode cX13_init 1014 = .ok (.newarray .long, 2) := by decide +kernel
theorem dX13_init_1016 : decode cX13_init 1016 = .ok (.putfield 381, 3) := by decide +kernel
theorem dX13_init_1019 : decode cX13_init 1019 = .ok (.aload_n 0, 1) := by decide +kernel
theorem dX13_init_1020 : decode cX13_init 1020 = .ok (.iconst 4, 1) := by decide +kernel
theorem dX13_init_1021 : decode cX13_init 1021 = .ok (.newarray .int, 2) := by decide +kernel
theorem dX13_init_1023 : decode cX13_init 1023 = .ok (.putfield 384, 3) := by decide +kernel
theorem dX13_init_1026 : decode cX13_init 1026 = .ok (.aload_n 0, 1) := by decide +kernel
theorem dX13_init_1027 : decode cX13_init 1027 = .ok (.iconst 4, 1) := by decide +kernel
theorem dX13_init_1028 : decode cX13_init 1028 = .ok (.newarray .int, 2) := by decide +kernel
theorem dX13_init_1030 : decode cX13_init 1030 = .ok (.putfield 387, 3) := by decide +kernel
theorem dX13_init_1033 : decode cX13_init 1033 = .ok (.aload_n 0, 1) := by decide +kernel
theorem dX13_init_1034 : decode cX13_init 1034 = .ok (.sipush 624, 3) := by decide +kernel
theorem dX13_init_1037 : decode cX13_init 1037 = .ok (.newarray .int, 2) := by decide +kernel
theorem dX13_init_1039 : decode cX13_init 1039 = .ok (.putfield 390, 3) := by decide +kernel
theorem dX13_init_1042 : decode cX13_init 1042 = .ok (.aload_n 0, 1) := by decide +kernel
theorem dX13_init_1043 : decode cX13_init 1043 = .ok (.sipush 624, 3) := by decide +kernel
theorem dX13_init_1046 : decode cX13_init 1046 = .ok (.newarray .int, 2) := by decide +kernel
theorem dX13_init_1048 : decode cX13_init 1048 = .ok (.putfield 393, 3) := by decide +kernel
theorem dX13_init_1051 : decode cX13_init 1051 = .ok (.aload_n 0, 1) := by decide +kernel
theorem dX13_init_1052 : decode cX13_init 1052 = .ok (.sipush 700, 3) := by decide +kernel
theorem dX13_init_1055 : decode cX13_init 1055 = .ok (.newarray .int, 2) := by decide +kernel
theorem dX13_init_1057 : decode cX13_init 1057 = .ok (.putfield 396, 3) := by decide +kernel
theorem dX13_init_1060 : decode cX13_init 1060 = .ok (.aload_n 0, 1) := by decide +kernel
theorem dX13_init_1061 : decode cX13_init 1061 = .ok (.sipush 700, 3) := by decide +kernel
theorem dX13_init_1064 : decode cX13_init 1064 = .ok (.newarray .int, 2) := by decide +kernel
theorem dX13_init_1066 : decode cX13_init 1066 = .ok (.putfield 399, 3) := by decide +kernel
theorem dX13_init_1069 : decode cX13_init 1069 = .ok (.aload_n 0, 1) := by decide +kernel
theorem dX13_init_1070 : decode cX13_init 1070 = .ok (.sipush 700, 3) := by decide +kernel
theorem dX13_init_1073 : decode cX13_init 1073 = .ok (.newarray .int, 2) := by decide +kernel
theorem dX13_init_1075 : decode cX13_init 1075 = .ok (.putfield 402, 3) := by decide +kernel
theorem dX13_init_1078 : decode cX13_init 1078 = .ok (.aload_n 0, 1) := by decide +kernel
theorem dX13_init_1079 : decode cX13_init 1079 = .ok (.sipush 256, 3) := by decide +kernel
theorem dX13_init_1082 : decode cX13_init 1082 = .ok (.newarray .int, 2) := by decide +kernel
theorem dX13_init_1084 : decode cX13_init 1084 = .ok (.putfield 405, 3) := by decide +kernel
theorem dX13_init_1087 : decode cX13_init 1087 = .ok (.aload_n 0, 1) := by decide +kernel
theorem dX13_init_1088 : decode cX13_init 1088 = .ok (.sipush 256, 3) := by decide +kernel
theorem dX13_init_1091 : decode cX13_init 1091 = .ok (.newarray .int, 2) := by decide +kernel
theorem dX13_init_1093 : decode cX13_init 1093 = .ok (.putfield 408, 3) := by decide +kernel
theorem dX13_init_1096 : decode cX13_init 1096 = .ok (.aload_n 0, 1) := by decide +kernel
theorem dX13_init_1097 : decode cX13_init 1097 = .ok (.sipush 256, 3) := by decide +kernel
theorem dX13_init_1100 : decode cX13_init 1100 = .ok (.newarray .int, 2) := by decide +kernel
theorem dX13_init_1102 : decode cX13_init 1102 = .ok (.putfield 411, 3) := by decide +kernel
theorem dX13_init_1105 : decode cX13_init 1105 = .ok (.aload_n 0, 1) := by decide +kernel
theorem dX13_init_1106 : decode cX13_init 1106 = .ok (.sipush 256, 3) := by decide +kernel
theorem dX13_init_1109 : decode cX13_init 1109 = .ok (.newarray .int, 2) := by decide +kernel
theorem dX13_init_1111 : decode cX13_init 1111 = .ok (.putfield 414, 3) := by decide +kernel
theorem dX13_init_1114 : decode cX13_init 1114 = .ok (.aload_n 0, 1) := by decide +kernel
theorem dX13_init_1115 : decode cX13_init 1115 = .ok (.sipush 256, 3) := by decide +kernel
theorem dX13_init_1118 : decode cX13_init 1118 = .ok (.newarray .int, 2) := by decide +kernel
theorem dX13_init_1120 : decode cX13_init 1120 = .ok (.putfield 417, 3) := by decide +kernel
theorem dX13_init_1123 : decode cX13_init 1123 = .ok (.aload_n 0, 1) := by decide +kernel
theorem dX13_init_1124 : decode cX13_init 1124 = .ok (.iconst 4, 1) := by decide +kernel
theorem dX13_init_1125 : decode cX13_init 1125 = .ok (.newarray .boolean, 2) := by decide +kernel
theorem dX13_init_1127 : decode cX13_init 1127 = .ok (.putfield 420, 3) := by decide +kernel
theorem dX13_init_1130 : decode cX13_init 1130 = .ok (.aload_n 0, 1) := by decide +kernel
theorem dX13_init_1131 : decode cX13_init 1131 = .ok (.sipush 18848, 3) := by decide +kernel
theorem dX13_init_1134 : decode cX13_init 1134 = .ok (.newarray .int, 2) := by decide +kernel
theorem dX13_init_1136 : decode cX13_init 1136 = .ok (.putfield 423, 3) := by decide +kernel
theorem dX13_init_1139 : decode cX13_init 1139 = .ok (.aload_n 0, 1) := by decide +kernel
theorem dX13_init_1140 : decode cX13_init 1140 = .ok (.sipush 18848, 3) := by decide +kernel
theorem dX13_init_1143 : decode cX13_init 1143 = .ok (.newarray .boolean, 2) := by decide +kernel
theorem dX13_init_1145 : decode cX13_init 1145 = .ok (.putfield 426, 3) := by decide +kernel
theorem dX13_init_1148 : decode cX13_init 1148 = .ok (.aload_n 0, 1) := by decide +kernel
theorem dX13_init_1149 : decode cX13_init 1149 = .ok (.sipush 18848, 3) := by decide +kernel
theorem dX13_init_1152 : decode cX13_init 1152 = .ok (.newarray .boolean, 2) := by decide +kernel
theorem dX13_init_1154 : decode cX13_init 1154 = .ok (.putfield 429, 3) := by decide +kernel
theorem dX13_init_1157 : decode cX13_init 1157 = .ok (.aload_n 0, 1) := by decide +kernel
theorem dX13_init_1158 : decode cX13_init 1158 = .ok (.sipush 18848, 3) := by decide +kernel
theorem dX13_init_1161 : decode cX13_init 1161 = .ok (.newarray .boolean, 2) := by decide +kernel
theorem dX13_init_1163 : decode cX13_init 1163 = .ok (.putfield 432, 3) := by decide +kernel
theorem dX13_init_1166 : decode cX13_init 1166 = .ok (.aload_n 0, 1) := by decide +kernel
theorem dX13_init_1167 : decode cX13_init 1167 = .ok (.sipush 1024, 3) := by decide +kernel
theorem dX13_init_1170 : decode cX13_init 1170 = .ok (.newarray .boolean, 2) := by decide +kernel
theorem dX13_init_1172 : decode cX13_init 1172 = .ok (.putfield 435, 3) := by decide +kernel
theorem dX13_init_1175 : decode cX13_init 1175 = .ok (.aload_n 0, 1) := by decide +kernel
theorem dX13_init_1176 : decode cX13_init 1176 = .ok (.sipush 4712, 3) := by decide +kernel
theorem dX13_init_1179 : decode cX13_init 1179 = .ok (.newarray .int, 2) := by decide +kernel
theorem dX13_init_1181 : decode cX13_init 1181 = .ok (.putfield 438, 3) := by decide +kernel
theorem dX13_init_1184 : decode cX13_init 1184 = .ok (.aload_n 0, 1) := by decide +kernel
theorem dX13_init_1185 : decode cX13_init 1185 = .ok (.sipush 4712, 3) := by decide +kernel
theorem dX13_init_1188 : decode cX13_init 1188 = .ok (.newarray .int, 2) := by decide +kernel
theorem dX13_init_1190 : decode cX13_init 1190 = .ok (.putfield 441, 3) := by decide +kernel
theorem dX13_init_1193 : decode cX13_init 1193 = .ok (.aload_n 0, 1) := by decide +kernel
theorem dX13_init_1194 : decode cX13_init 1194 = .ok (.sipush 4712, 3) := by decide +kernel
theorem dX13_init_1197 : decode cX13_init 1197 = .ok (.newarray .int, 2) := by decide +kernel
theorem dX13_init_1199 : decode cX13_init 1199 = .ok (.putfield 444, 3) := by decide +kernel
theorem dX13_init_1202 : decode cX13_init 1202 = .ok (.aload_n 0, 1) := by decide +kernel
theorem dX13_init_1203 : decode cX13_init 1203 = .ok (.sipush 4712, 3) := by decide +kernel
theorem dX13_init_1206 : decode cX13_init 1206 = .ok (.newarray .boolean, 2) := by decide +kernel
theorem dX13_init_1208 : decode cX13_init 1208 = .ok (.putfield 447, 3) := by decide +kernel
theorem dX13_init_1211 : decode cX13_init 1211 = .ok (.aload_n 0, 1) := by decide +kernel
theorem dX13_init_1212 : decode cX13_init 1212 = .ok (.sipush 4712, 3) := by decide +kernel
theorem dX13_init_1215 : decode cX13_init 1215 = .ok (.newarray .int, 2) := by decide +kernel
theorem dX13_init_1217 : decode cX13_init 1217 = .ok (.putfield 450, 3) := by decide +kernel
theorem dX13_init_1220 : decode cX13_init 1220 = .ok (.aload_n 0, 1) := by decide +kernel
theorem dX13_init_1221 : decode cX13_init 1221 = .ok (.sipush 256, 3) := by decide +kernel
theorem dX13_init_1224 : decode cX13_init 1224 = .ok (.newarray .int, 2) := by decide +kernel
theorem dX13_init_1226 : decode cX13_init 1226 = .ok (.putfield 453, 3) := by decide +kernel
theorem dX13_init_1229 : decode cX13_init 1229 = .ok (.aload_n 0, 1) := by decide +kernel
theorem dX13_init_1230 : decode cX13_init 1230 = .ok (.iconst 4, 1) := by decide +kernel
theorem dX13_init_1231 : decode cX13_init 1231 = .ok (.newarray .boolean, 2) := by decide +kernel
theorem dX13_init_1233 : decode cX13_init 1233 = .ok (.putfield 456, 3) := by decide +kernel
theorem dX13_init_1236 : decode cX13_init 1236 = .ok (.aload_n 0, 1) := by decide +kernel
theorem dX13_init_1237 : decode cX13_init 1237 = .ok (.iconst 4, 1) := by decide +kernel
theorem dX13_init_1238 : decode cX13_init 1238 = .ok (.newarray .int, 2) := by decide +kernel
theorem dX13_init_1240 : decode cX13_init 1240 = .ok (.putfield 459, 3) := by decide +kernel
theorem dX13_init_1243 : decode cX13_init 1243 = .ok (.aload_n 0, 1) := by decide +kernel
theorem dX13_init_1244 : decode cX13_init 1244 = .ok (.ldc_w 462, 3) := by decide +kernel
theorem dX13_init_1247 : decode cX13_init 1247 = .ok (.newarray .int, 2) := by decide +kernel
theorem dX13_init_1249 : decode cX13_init 1249 = .ok (.putfield 463, 3) := by decide +kernel
theorem dX13_init_1252 : decode cX13_init 1252 = .ok (.aload_n 0, 1) := by decide +kernel
theorem dX13_init_1253 : decode cX13_init 1253 = .ok (.sipush 2700, 3) := by decide +kernel
theorem dX13_init_1256 : decode cX13_init 1256 = .ok (.newarray .int, 2) := by decide +kernel
theorem dX13_init_1258 : decode cX13_init 1258 = .ok (.putfield 466, 3) := by decide +kernel
theorem dX13_init_1261 : decode cX13_init 1261 = .ok (.aload_n 0, 1) := by decide +kernel
theorem dX13_init_1262 : decode cX13_init 1262 = .ok (.ldc 13, 2) := by decide +kernel
theorem dX13_init_1264 : decode cX13_init 1264 = .ok (.newarray .boolean, 2) := by decide +kernel
theorem dX13_init_1266 : decode cX13_init 1266 = .ok (.putfield 469, 3) := by decide +kernel
theorem dX13_init_1269 : decode cX13_init 1269 = .ok (.aload_n 0, 1) := by decide +kernel
theorem dX13_init_1270 : decode cX13_init 1270 = .ok (.sipush 256, 3) := by decide +kernel
theorem dX13_init_1273 : decode cX13_init 1273 = .ok (.newarray .boolean, 2) := by decide +kernel
theorem dX13_init_1275 : decode cX13_init 1275 = .ok (.putfield 472, 3) := by decide +kernel
theorem dX13_init_1278 : decode cX13_init 1278 = .ok (.aload_n 0, 1) := by decide +kernel
theorem dX13_init_1279 : decode cX13_init 1279 = .ok (.sipush 2700, 3) := by decide +kernel
theorem dX13_init_1282 : decode cX13_init 1282 = .ok (.newarray .boolean, 2) := by decide +kernel
theorem dX13_init_1284 : decode cX13_init 1284 = .ok (.putfield 475, 3) := by decide +kernel
theorem dX13_init_1287 : decode cX13_init 1287 = .ok (.aload_n 0, 1) := by decide +kernel
theorem dX13_init_1288 : decode cX13_init 1288 = .ok (.sipush 256, 3) := by decide +kernel
theorem dX13_init_1291 : decode cX13_init 1291 = .ok (.newarray .int, 2) := by decide +kernel
theorem dX13_init_1293 : decode cX13_init 1293 = .ok (.putfield 478, 3) := by decide +kernel
theorem dX13_init_1296 : decode cX13_init 1296 = .ok (.aload_n 0, 1) := by decide +kernel
theorem dX13_init_1297 : decode cX13_init 1297 = .ok (.sipush 256, 3) := by decide +kernel
theorem dX13_init_1300 : decode cX13_init 1300 = .ok (.newarray .int, 2) := by decide +kernel
theorem dX13_init_1302 : decode cX13_init 1302 = .ok (.putfield 481, 3) := by decide +kernel
theorem dX13_init_1305 : decode cX13_init 1305 = .ok (.aload_n 0, 1) := by decide +kernel
theorem dX13_init_1306 : decode cX13_init 1306 = .ok (.iconst 4, 1) := by decide +kernel
theorem dX13_init_1307 : decode cX13_init 1307 = .ok (.newarray .int, 2) := by decide +kernel
theorem dX13_init_1309 : decode cX13_init 1309 = .ok (.putfield 484, 3) := by decide +kernel
theorem dX13_init_1312 : decode cX13_init 1312 = .ok (.aload_n 0, 1) := by decide +kernel
theorem dX13_init_1313 : decode cX13_init 1313 = .ok (.sipush 160, 3) := by decide +kernel
theorem dX13_init_1316 : decode cX13_init 1316 = .ok (.newarray .int, 2) := by decide +kernel
theorem dX13_init_1318 : decode cX13_init 1318 = .ok (.putfield 487, 3) := by decide +kernel
theorem dX13_init_1321 : decode cX13_init 1321 = .ok (.aload_n 0, 1) := by decide +kernel
theorem dX13_init_1322 : decode cX13_init 1322 = .ok (.sipush 160, 3) := by decide +kernel
theorem dX13_init_1325 : decode cX13_init 1325 = .ok (.newarray .int, 2) := by decide +kernel
theorem dX13_init_1327 : decode cX13_init 1327 = .ok (.putfield 490, 3) := by decide +kernel
theorem dX13_init_1330 : decode cX13_init 1330 = .ok (.aload_n 0, 1) := by decide +kernel
theorem dX13_init_1331 : decode cX13_init 1331 = .ok (.sipush 5632, 3) := by decide +kernel
theorem dX13_init_1334 : decode cX13_init 1334 = .ok (.newarray .int, 2) := by decide +kernel
theorem dX13_init_1336 : decode cX13_init 1336 = .ok (.putfield 493, 3) := by decide +kernel
theorem dX13_init_1339 : decode cX13_init 1339 = .ok (.aload_n 0, 1) := by decide +kernel
theorem dX13_init_1340 : decode cX13_init 1340 = .ok (.ldc_w 496, 3) := by decide +kernel
theorem dX13_init_1343 : decode cX13_init 1343 = .ok (.newarray .int, 2) := by decide +kernel
theorem dX13_init_1345 : decode cX13_init 1345 = .ok (.putfield 497, 3) := by decide +kernel
theorem dX13_init_1348 : decode cX13_init 1348 = .ok (.aload_n 0, 1) := by decide +kernel
theorem dX13_init_1349 : decode cX13_init 1349 = .ok (.ldc_w 496, 3) := by decide +kernel
theorem dX13_init_1352 : decode cX13_init 1352 = .ok (.newarray .int, 2) := by decide +kernel
theorem dX13_init_1354 : decode cX13_init 1354 = .ok (.putfield 500, 3) := by decide +kernel
theorem dX13_init_1357 : decode cX13_init 1357 = .ok (.aload_n 0, 1) := by decide +kernel
theorem dX13_init_1358 : decode cX13_init 1358 = .ok (.ldc_w 496, 3) := by decide +kernel
theorem dX13_init_1361 : decode cX13_init 1361 = .ok (.newarray .int, 2) := by decide +kernel
theorem dX13_init_1363 : decode cX13_init 1363 = .ok (.putfield 503, 3) := by decide +kernel
theorem dX13_init_1366 : decode cX13_init 1366 = .ok (.aload_n 0, 1) := by decide +kernel
theorem dX13_init_1367 : decode cX13_init 1367 = .ok (.sipush 256, 3) := by decide +kernel
theorem dX13_init_1370 : decode cX13_init 1370 = .ok (.newarray .int, 2) := by decide +kernel
theorem dX13_init_1372 : decode cX13_init 1372 = .ok (.putfield 506, 3) := by decide +kernel
theorem dX13_init_1375 : decode cX13_init 1375 = .ok (.aload_n 0, 1) := by decide +kernel
theorem dX13_init_1376 : decode cX13_init 1376 = .ok (.bipush 40, 2) := by decide +kernel
theorem dX13_init_1378 : decode cX13_init 1378 = .ok (.newarray .int, 2) := by decide +kernel
theorem dX13_init_1380 : decode cX13_init 1380 = .ok (.putfield 509, 3) := by decide +kernel
theorem dX13_init_1383 : decode cX13_init 1383 = .ok (.aload_n 0, 1) := by decide +kernel
theorem dX13_init_1384 : decode cX13_init 1384 = .ok (.bipush 40, 2) := by decide +kernel
theorem dX13_init_1386 : decode cX13_init 1386 = .ok (.newarray .int, 2) := by decide +kernel
theorem dX13_init_1388 : decode cX13_init 1388 = .ok (.putfield 512, 3) := by decide +kernel
theorem dX13_init_1391 : decode cX13_init 1391 = .ok (.aload_n 0, 1) := by decide +kernel
theorem dX13_init_1392 : decode cX13_init 1392 = .ok (.bipush 40, 2) := by decide +kernel
theorem dX13_init_1394 : decode cX13_init 1394 = .ok (.newarray .int, 2) := by decide +kernel
theorem dX13_init_1396 : decode cX13_init 1396 = .ok (.putfield 515, 3) := by decide +kernel
theorem dX13_init_1399 : decode cX13_init 1399 = .ok (.aload_n 0, 1) := by decide +kernel
theorem dX13_init_1400 : decode cX13_init 1400 = .ok (.sipush 512, 3) := by decide +kernel
theorem dX13_init_1403 : decode cX13_init 1403 = .ok (.newarray .int, 2) := by decide +kernel
theorem dX13_init_1405 : decode cX13_init 1405 = .ok (.putfield 518, 3) := by decide +kernel
theorem dX13_init_1408 : decode cX13_init 1408 = .ok (.aload_n 0, 1) := by decide +kernel
theorem dX13_init_1409 : decode cX13_init 1409 = .ok (.sipush 256, 3) := by decide +kernel
theorem dX13_init_1412 : decode cX13_init 1412 = .ok (.newarray .boolean, 2) := by decide +kernel
theorem dX13_init_1414 : decode cX13_init 1414 = .ok (.putfield 521, 3) := by decide +kernel
theorem dX13_init_1417 : decode cX13_init 1417 = .ok (.aload_n 0, 1) := by decide +kernel
theorem dX13_init_1418 : decode cX13_init 1418 = .ok (.sipush 20010, 3) := by decide +kernel
theorem dX13_init_1421 : decode cX13_init 1421 = .ok (.newarray .int, 2) := by decide +kernel
theorem dX13_init_1423 : decode cX13_init 1423 = .ok (.putfield 524, 3) := by decide +kernel
theorem dX13_init_1426 : decode cX13_init 1426 = .ok (.aload_n 0, 1) := by decide +kernel
theorem dX13_init_1427 : decode cX13_init 1427 = .ok (.sipush 257, 3) := by decide +kernel
theorem dX13_init_1430 : decode cX13_init 1430 = .ok (.newarray .int, 2) := by decide +kernel
theorem dX13_init_1432 : decode cX13_init 1432 = .ok (.putfield 527, 3) := by decide +kernel
theorem dX13_init_1435 : decode cX13_init 1435 = .ok (.aload_n 0, 1) := by decide +kernel
theorem dX13_init_1436 : decode cX13_init 1436 = .ok (.iconst 3, 1) := by decide +kernel
theorem dX13_init_1437 : decode cX13_init 1437 = .ok (.newarray .int, 2) := by decide +kernel
theorem dX13_init_1439 : decode cX13_init 1439 = .ok (.putfield 530, 3) := by decide +kernel
theorem dX13_init_1442 : decode cX13_init 1442 = .ok (.aload_n 0, 1) := by decide +kernel
theorem dX13_init_1443 : decode cX13_init 1443 = .ok (.iconst 3, 1) := by decide +kernel
theorem dX13_init_1444 : decode cX13_init 1444 = .ok (.newarray .boolean, 2) := by decide +kernel
theorem dX13_init_1446 : decode cX13_init 1446 = .ok (.putfield 533, 3) := by decide +kernel
theorem dX13_init_1449 : decode cX13_init 1449 = .ok (.aload_n 0, 1) := by decide +kernel
theorem dX13_init_1450 : decode cX13_init 1450 = .ok (.iconst 4, 1) := by decide +kernel
theorem dX13_init_1451 : decode cX13_init 1451 = .ok (.newarray .int, 2) := by decide +kernel
theorem dX13_init_1453 : decode cX13_init 1453 = .ok (.putfield 536, 3) := by decide +kernel
theorem dX13_init_1456 : decode cX13_init 1456 = .ok (.aload_n 0, 1) := by decide +kernel
theorem dX13_init_1457 : decode cX13_init 1457 = .ok (.sipush 5120, 3) := by decide +kernel
theorem dX13_init_1460 : decode cX13_init 1460 = .ok (.newarray .int, 2) := by decide +kernel
theorem dX13_init_1462 : decode cX13_init 1462 = .ok (.putfield 539, 3) := by decide +kernel
theorem dX13_init_1465 : decode cX13_init 1465 = .ok (.aload_n 0, 1) := by decide +kernel
theorem dX13_init_1466 : decode cX13_init 1466 = .ok (.sipush 5120, 3) := by decide +kernel
theorem dX13_init_1469 : decode cX13_init 1469 = .ok (.newarray .boolean, 2) := by decide +kernel
theorem dX13_init_1471 : decode cX13_init 1471 = .ok (.putfield 542, 3) := by decide +kernel
theorem dX13_init_1474 : decode cX13_init 1474 = .ok (.aload_n 0, 1) := by decide +kernel
theorem dX13_init_1475 : decode cX13_init 1475 = .ok (.ldc_w 545, 3) := by decide +kernel
theorem dX13_init_1478 : decode cX13_init 1478 = .ok (.newarray .long, 2) := by decide +kernel
theorem dX13_init_1480 : decode cX13_init 1480 = .ok (.putfield 546, 3) := by decide +kernel
theorem dX13_init_1483 : decode cX13_init 1483 = .ok (.aload_n 0, 1) := by decide +kernel
theorem dX13_init_1484 : decode cX13_init 1484 = .ok (.bipush 32, 2) := by decide +kernel
theorem dX13_init_1486 : decode cX13_init 1486 = .ok (.newarray .long, 2) := by decide +kernel
theorem dX13_init_1488 : decode cX13_init 1488 = .ok (.putfield 549, 3) := by decide +kernel
theorem dX13_init_1491 : decode cX13_init 1491 = .ok (.aload_n 0, 1) := by decide +kernel
theorem dX13_init_1492 : decode cX13_init 1492 = .ok (.sipush 5120, 3) := by decide +kernel
theorem dX13_init_1495 : decode cX13_init 1495 = .ok (.newarray .int, 2) := by decide +kernel
theorem dX13_init_1497 : decode cX13_init 1497 = .ok (.putfield 552, 3) := by decide +kernel
theorem dX13_init_1500 : decode cX13_init 1500 = .ok (.return_, 1) := by decide +kernel
theorem dX0_init_0 : decode cX0_init 0 = .ok (.aload_n 0, 1) := by decide +kernel
theorem dX0_init_1 : decode cX0_init 1 = .ok (.invokespecial 9, 3) := by decide +kernel
theorem dX0_init_4 : decode cX0_init 4 = .ok (.aload_n 0, 1) := by decide +kernel
theorem dX0_init_5 : decode cX0_init 5 = .ok (.sipush 156, 3) := by decide +kernel
theorem dX0_init_8 : decode cX0_init 8 = .ok (.newarray .int, 2) := by decide +kernel
theorem dX0_init_10 : decode cX0_init 10 = .ok (.putfield 15, 3) := by decide +kernel
theorem dX0_init_13 : decode cX0_init 13 = .ok (.aload_n 0, 1) := by decide +kernel
theorem dX0_init_14 : decode cX0_init 14 = .ok (.sipush 156, 3) := by decide +kernel
theorem dX0_init_17 : decode cX0_init 17 = .ok (.newarray .int, 2) := by decide +kernel
theorem dX0_init_19 : decode cX0_init 19 = .ok (.putfield 19, 3) := by decide +kernel
theorem dX0_init_22 : decode cX0_init 22 = .ok (.aload_n 0, 1) := by decide +kernel
theorem dX0_init_23 : decode cX0_init 23 = .ok (.sipush 156, 3) := by decide +kernel
theorem dX0_init_26 : decode cX0_init 26 = .ok (.newarray .int, 2) := by decide +kernel
theorem dX0_init_28 : decode cX0_init 28 = .ok (.putfield 22, 3) := by decide +kernel
theorem dX0_init_31 : decode cX0_init 31 = .ok (.aload_n 0, 1) := by decide +kernel
theorem dX0_init_32 : decode cX0_init 32 = .ok (.sipush 652, 3) := by decide +kernel
theorem dX0_init_35 : decode cX0_init 35 = .ok (.newarray .int, 2) := by decide +kernel
theorem dX0_init_37 : decode cX0_init 37 = .ok (.putfield 25, 3) := by decide +kernel
theorem dX0_init_40 : decode cX0_init 40 = .ok (.aload_n 0, 1) := by decide +kernel
theorem dX0_init_41 : decode cX0_init 41 = .ok (.sipush 652, 3) := by decide +kernel
theorem dX0_init_44 : decode cX0_init 44 = .ok (.newarray .int, 2) := by decide +kernel
theorem dX0_init_46 : decode cX0_init 46 = .ok (.putfield 28, 3) := by decide +kernel
theorem dX0_init_49 : decode cX0_init 49 = .ok (.aload_n 0, 1) := by decide +kernel
theorem dX0_init_50 : decode cX0_init 50 = .ok (.sipush 162, 3) := by decide +kernel
theorem dX0_init_53 : decode cX0_init 53 = .ok (.newarray .int, 2) := by decide +kernel
theorem dX0_init_55 : decode cX0_init 55 = .ok (.putfield 31, 3) := by decide +kernel
theorem dX0_init_58 : decode cX0_init 58 = .ok (.aload_n 0, 1) := by decide +kernel
theorem dX0_init_59 : decode cX0_init 59 = .ok (.sipush 162, 3) := by decide +kernel
theorem dX0_init_62 : decode cX0_init 62 = .ok (.newarray .int, 2) := by decide +kernel
theorem dX0_init_64 : decode cX0_init 64 = .ok (.putfield 34, 3) := by decide +kernel
theorem dX0_init_67 : decode cX0_init 67 = .ok (.aload_n 0, 1) := by decide +kernel
theorem dX0_init_68 : decode cX0_init 68 = .ok (.sipush 162, 3) := by decide +kernel
theorem dX0_init_71 : decode cX0_init 71 = .ok (.newarray .int, 2) := by decide +kernel
theorem dX0_init_73 : decode cX0_init 73 = .ok (.putfield 37, 3) := by decide +kernel
theorem dX0_init_76 : decode cX0_init 76 = .ok (.aload_n 0, 1) := by decide +kernel
theorem dX0_init_77 : decode cX0_init 77 = .ok (.sipush 4712, 3) := by decide +kernel
theorem dX0_init_80 : decode cX0_init 80 = .ok (.newarray .int, 2) := by decide +kernel
theorem dX0_init_82 : decode cX0_init 82 = .ok (.putfield 40, 3) := by decide +kernel
theorem dX0_init_85 : decode cX0_init 85 = .ok (.aload_n 0, 1) := by decide +kernel
theorem dX0_init_86 : decode cX0_init 86 = .ok (.sipush 4712, 3) := by decide +kernel
theorem dX0_init_89 : decode cX0_init 89 = .ok (.newarray .int, 2) := by decide +kernel
theorem dX0_init_91 : decode cX0_init 91 = .ok (.putfield 43, 3) := by decide +kernel
theorem dX0_init_94 : decode cX0_init 94 = .ok (.aload_n 0, 1) := by decide +kernel
theorem dX0_init_95 : decode cX0_init 95 = .ok (.sipush 162, 3) := by decide +kernel
theorem dX0_init_98 : decode cX0_init 98 = .ok (.newarray .int, 2) := by decide +kernel
theorem dX0_init_100 : decode cX0_init 100 = .ok (.putfield 46, 3) := by decide +kernel
theorem dX0_init_103 : decode cX0_init 103 = .ok (.aload_n 0, 1) := by decide +kernel
theorem dX0_init_104 : decode cX0_init 104 = .ok (.new 49, 3) := by decide +kernel
theorem dX0_init_107 : decode cX0_init 107 = .ok (.dup, 1) := by decide +kernel
theorem dX0_init_108 : decode cX0_init 108 = .ok (.invokespecial 51, 3) := by decide +kernel
theorem dX0_init_111 : decode cX0_init 111 = .ok (.putfield 52, 3) := by decide +kernel
theorem dX0_init_114 : decode cX0_init 114 = .ok (.aload_n 0, 1) := by decide +kernel
theorem dX0_init_115 : decode cX0_init 115 = .ok (.bipush 8, 2) := by decide +kernel
theorem dX0_init_117 : decode cX0_init 117 = .ok (.newarray .int, 2) := by decide +kernel
theorem dX0_init_119 : decode cX0_init 119 = .ok (.putfield 56, 3) := by decide +kernel
theorem dX0_init_122 : decode cX0_init 122 = .ok (.return_, 1) := by decide +kernel
theorem dX2_init_0 : decode cX2_init 0 = .ok (.aload_n 0, 1) := by decide +kernel
theorem dX2_init_1 : decode cX2_init 1 = .ok (.invokespecial 7, 3) := by decide +kernel
theorem dX2_init_4 : decode cX2_init 4 = .ok (.aload_n 0, 1) := by decide +kernel
theorem dX2_init_5 : decode cX2_init 5 = .ok (.sipush 4096, 3) := by decide +kernel
theorem dX2_init_8 : decode cX2_init 8 = .ok (.newarray .int, 2) := by decide +kernel
theorem dX2_init_10 : decode cX2_init 10 = .ok (.putfield 13, 3) := by decide +kernel
theorem dX2_init_13 : decode cX2_init 13 = .ok (.aload_n 0, 1) := by decide +kernel
theorem dX2_init_14 : decode cX2_init 14 = .ok (.new 17, 3) := by decide +kernel
theorem dX2_init_17 : decode cX2_init 17 = .ok (.dup, 1) := by decide +kernel
theorem dX2_init_18 : decode cX2_init 18 = .ok (.invokespecial 19, 3) := by decide +kernel
theorem dX2_init_21 : decode cX2_init 21 = .ok (.putfield 20, 3) := by decide +kernel
theorem dX2_init_24 : decode cX2_init 24 = .ok (.aload_n 0, 1) := by decide +kernel
theorem dX2_init_25 : decode cX2_init 25 = .ok (.sipush 150, 3) := by decide +kernel
theorem dX2_init_28 : decode cX2_init 28 = .ok (.newarray .int, 2) := by decide +kernel
theorem dX2_init_30 : decode cX2_init 30 = .ok (.putfield 24, 3) := by decide +kernel
theorem dX2_init_33 : decode cX2_init 33 = .ok (.aload_n 0, 1) := by decide +kernel
theorem dX2_init_34 : decode cX2_init 34 = .ok (.sipush 450, 3) := by decide +kernel
theorem dX2_init_37 : decode cX2_init 37 = .ok (.newarray .int, 2) := by decide +kernel
theorem dX2_init_39 : decode cX2_init 39 = .ok (.putfield 27, 3) := by decide +kernel
theorem dX2_init_42 : decode cX2_init 42 = .ok (.aload_n 0, 1) := by decide +kernel
theorem dX2_init_43 : decode cX2_init 43 = .ok (.bipush 16, 2) := by decide +kernel
theorem dX2_init_45 : decode cX2_init 45 = .ok (.newarray .int, 2) := by decide +kernel
theorem dX2_init_47 : decode cX2_init 47 = .ok (.putfield 30, 3) := by decide +kernel
theorem dX2_init_50 : decode cX2_init 50 = .ok (.aload_n 0, 1) := by decide +kernel
theorem dX2_init_51 : decode cX2_init 51 = .ok (.bipush 6, 2) := by decide +kernel
theorem dX2_init_53 : decode cX2_init 53 = .ok (.newarray .int, 2) := by decide +kernel
theorem dX2_init_55 : decode cX2_init 55 = .ok (.putfield 33, 3) := by decide +kernel
theorem dX2_init_58 : decode cX2_init 58 = .ok (.aload_n 0, 1) := by decide +kernel
theorem dX2_init_59 : decode cX2_init 59 = .ok (.bipush 12, 2) := by decide +kernel
theorem dX2_init_61 : decode cX2_init 61 = .ok (.newarray .int, 2) := by decide +kernel
theorem dX2_init_63 : decode cX2_init 63 = .ok (.putfield 36, 3) := by decide +kernel
theorem dX2_init_66 : decode cX2_init 66 = .ok (.aload_n 0, 1) := by decide +kernel
theorem dX2_init_67 : decode cX2_init 67 = .ok (.sipush 1224, 3) := by decide +kernel
theorem dX2_init_70 : decode cX2_init 70 = .ok (.newarray .int, 2) := by decide +kernel
theorem dX2_init_72 : decode cX2_init 72 = .ok (.putfield 39, 3) := by decide +kernel
theorem dX2_init_75 : decode cX2_init 75 = .ok (.aload_n 0, 1) := by decide +kernel
theorem dX2_init_76 : decode cX2_init 76 = .ok (.sipush 1224, 3) := by decide +kernel
theorem dX2_init_79 : decode cX2_init 79 = .ok (.newarray .int, 2) := by decide +kernel
theorem dX2_init_81 : decode cX2_init 81 = .ok (.putfield 42, 3) := by decide +kernel
theorem dX2_init_84 : decode cX2_init 84 = .ok (.aload_n 0, 1) := by decide +kernel
theorem dX2_init_85 : decode cX2_init 85 = .ok (.new 45, 3) := by decide +kernel
theorem dX2_init_88 : decode cX2_init 88 = .ok (.dup, 1) := by decide +kernel
theorem dX2_init_89 : decode cX2_init 89 = .ok (.invokespecial 47, 3) := by decide +kernel
theorem dX2_init_92 : decode cX2_init 92 = .ok (.putfield 48, 3) := by decide +kernel
theorem dX2_init_95 : decode cX2_init 95 = .ok (.return_, 1) := by decide +kernel
theorem dX12_init_0 : decode cX12_init 0 = .ok (.aload_n 0, 1) := by decide +kernel
theorem dX12_init_1 : decode cX12_init 1 = .ok (.invokespecial 1, 3) := by decide +kernel
theorem dX12_init_4 : decode cX12_init 4 = .ok (.aload_n 0, 1) := by decide +kernel
theorem dX12_init_5 : decode cX12_init 5 = .ok (.new 7, 3) := by decide +kernel
theorem dX12_init_8 : decode cX12_init 8 = .ok (.dup, 1) := by decide +kernel
theorem dX12_init_9 : decode cX12_init 9 = .ok (.invokespecial 9, 3) := by decide +kernel
theorem dX12_init_12 : decode cX12_init 12 = .ok (.putfield 10, 3) := by decide +kernel
theorem dX12_init_15 : decode cX12_init 15 = .ok (.aload_n 0, 1) := by decide +kernel
theorem dX12_init_16 : decode cX12_init 16 = .ok (.new 16, 3) := by decide +kernel
theorem dX12_init_19 : decode cX12_init 19 = .ok (.dup, 1) := by decide +kernel
theorem dX12_init_20 : decode cX12_init 20 = .ok (.aload_n 0, 1) := by decide +kernel
theorem dX12_init_21 : decode cX12_init 21 = .ok (.getfield 10, 3) := by decide +kernel
theorem dX12_init_24 : decode cX12_init 24 = .ok (.invokespecial 18, 3) := by decide +kernel
theorem dX12_init_27 : decode cX12_init 27 = .ok (.putfield 21, 3) := by decide +kernel
theorem dX12_init_30 : decode cX12_init 30 = .ok (.aload_n 0, 1) := by decide +kernel
theorem dX12_init_31 : decode cX12_init 31 = .ok (.new 25, 3) := by decide +kernel
theorem dX12_init_34 : decode cX12_init 34 = .ok (.dup, 1) := by decide +kernel
theorem dX12_init_35 : decode cX12_init 35 = .ok (.aload_n 0, 1) := by decide +kernel
theorem dX12_init_36 : decode cX12_init 36 = .ok (.getfield 21, 3) := by decide +kernel
theorem dX12_init_39 : decode cX12_init 39 = .ok (.invokespecial 27, 3) := by decide +kernel
theorem dX12_init_42 : decode cX12_init 42 = .ok (.putfield 30, 3) := by decide +kernel
theorem dX12_init_45 : decode cX12_init 45 = .ok (.aload_n 0, 1) := by decide +kernel
theorem dX12_init_46 : decode cX12_init 46 = .ok (.new 34, 3) := by decide +kernel
theorem dX12_init_49 : decode cX12_init 49 = .ok (.dup, 1) := by decide +kernel
theorem dX12_init_50 : decode cX12_init 50 = .ok (.invokespecial 36, 3) := by decide +kernel
theorem dX12_init_53 : decode cX12_init 53 = .ok (.putfield 37, 3) := by decide +kernel
theorem dX12_init_56 : decode cX12_init 56 = .ok (.aload_n 0, 1) := by decide +kernel
theorem dX12_init_57 : decode cX12_init 57 = .ok (.new 41, 3) := by decide +kernel
theorem dX12_init_60 : decode cX12_init 60 = .ok (.dup, 1) := by decide +kernel
theorem dX12_init_61 : decode cX12_init 61 = .ok (.invokespecial 43, 3) := by decide +kernel
theorem dX12_init_64 : decode cX12_init 64 = .ok (.putfield 44, 3) := by decide +kernel
theorem dX12_init_67 : decode cX12_init 67 = .ok (.aload_n 0, 1) := by decide +kernel
theorem dX12_init_68 : decode cX12_init 68 = .ok (.new 48, 3) := by decide +kernel
theorem dX12_init_71 : decode cX12_init 71 = .ok (.dup, 1) := by decide +kernel
theorem dX12_init_72 : decode cX12_init 72 = .ok (.invokespecial 50, 3) := by decide +kernel
theorem dX12_init_75 : decode cX12_init 75 = .ok (.putfield 51, 3) := by decide +kernel
theorem dX12_init_78 : decode cX12_init 78 = .ok (.aload_n 0, 1) := by decide +kernel
theorem dX12_init_79 : decode cX12_init 79 = .ok (.new 55, 3) := by decide +kernel
theorem dX12_init_82 : decode cX12_init 82 = .ok (.dup, 1) := by decide +kernel
theorem dX12_init_83 : decode cX12_init 83 = .ok (.invokespecial 57, 3) := by decide +kernel
theorem dX12_init_86 : decode cX12_init 86 = .ok (.putfield 58, 3) := by decide +kernel
theorem dX12_init_89 : decode cX12_init 89 = .ok (.aload_n 0, 1) := by decide +kernel
theorem dX12_init_90 : decode cX12_init 90 = .ok (.bipush 6, 2) := by decide +kernel
theorem dX12_init_92 : decode cX12_init 92 = .ok (.anewarray 62, 3) := by decide +kernel
theorem dX12_init_95 : decode cX12_init 95 = .ok (.putfield 64, 3) := by decide +kernel
theorem dX12_init_98 : decode cX12_init 98 = .ok (.iconst 0, 1) := by decide +kernel
theorem dX12_init_99 : decode cX12_init 99 = .ok (.istore_n 1, 1) := by decide +kernel
theorem dX12_init_100 : decode cX12_init 100 = .ok (.iload_n 1, 1) := by decide +kernel
theorem dX12_init_101 : decode cX12_init 101 = .ok (.bipush 6, 2) := by decide +kernel
theorem dX12_init_103 : decode cX12_init 103 = .ok (.if_icmp .ge 22, 3) := by decide +kernel
theorem dX12_init_106 : decode cX12_init 106 = .ok (.aload_n 0, 1) := by decide +kernel
theorem dX12_init_107 : decode cX12_init 107 = .ok (.getfield 64, 3) := by decide +kernel
theorem dX12_init_110 : decode cX12_init 110 = .ok (.iload_n 1, 1) := by decide +kernel
theorem dX12_init_111 : decode cX12_init 111 = .ok (.new 62, 3) := by decide +kernel
theorem dX12_init_114 : decode cX12_init 114 = .ok (.dup, 1) := by decide +kernel
theorem dX12_init_115 : decode cX12_init 115 = .ok (.invokespecial 68, 3) := by decide +kernel
theorem dX12_init_118 : decode cX12_init 118 = .ok (.aastore, 1) := by decide +kernel
theorem dX12_init_119 : decode cX12_init 119 = .ok (.iinc 1 1, 3) := by decide +kernel
theorem dX12_init_122 : decode cX12_init 122 = .ok (.goto (-22), 3) := by decide +kernel
theorem dX12_init_125 : decode cX12_init 125 = .ok (.aload_n 0, 1) := by decide +kernel
theorem dX12_init_126 : decode cX12_init 126 = .ok (.iconst 3, 1) := by decide +kernel
theorem dX12_init_127 : decode cX12_init 127 = .ok (.anewarray 69, 3) := by decide +kernel
theorem dX12_init_130 : decode cX12_init 130 = .ok (.putfield 71, 3) := by decide +kernel
theorem dX12_init_133 : decode cX12_init 133 = .ok (.iconst 0, 1) := by decide +kernel
theorem dX12_init_134 : decode cX12_init 134 = .ok (.istore_n 1, 1) := by decide +kernel
theorem dX12_init_135 : decode cX12_init 135 = .ok (.iload_n 1, 1) := by decide +kernel
theorem dX12_init_136 : decode cX12_init 136 = .ok (.iconst 3, 1) := by decide +kernel
theorem dX12_init_137 : decode cX12_init 137 = .ok (.if_icmp .ge 22, 3) := by decide +kernel
theorem dX12_init_140 : decode cX12_init 140 = .ok (.aload_n 0, 1) := by decide +kernel
theorem dX12_init_141 : decode cX12_init 141 = .ok (.getfield 71, 3) := by decide +kernel
theorem dX12_init_144 : decode cX12_init 144 = .ok (.iload_n 1, 1) := by decide +kernel
theorem dX12_init_145 : decode cX12_init 145 = .ok (.new 69, 3) := by decide +kernel
theorem dX12_init_148 : decode cX12_init 148 = .ok (.dup, 1) := by decide +kernel
theorem dX12_init_149 : decode cX12_init 149 = .ok (.invokespecial 75, 3) := by decide +kernel
theorem dX12_init_152 : decode cX12_init 152 = .ok (.aastore, 1) := by decide +kernel
theorem dX12_init_153 : decode cX12_init 153 = .ok (.iinc 1 1, 3) := by decide +kernel
theorem dX12_init_156 : decode cX12_init 156 = .ok (.goto (-21), 3) := by decide +kernel
theorem dX12_init_159 : decode cX12_init 159 = .ok (.aload_n 0, 1) := by decide +kernel
theorem dX12_init_160 : decode cX12_init 160 = .ok (.iconst 4, 1) := by decide +kernel
theorem dX12_init_161 : decode cX12_init 161 = .ok (.anewarray 76, 3) := by decide +kernel
theorem dX12_init_164 : decode cX12_init 164 = .ok (.putfield 78, 3) := by decide +kernel
theorem dX12_init_167 : decode cX12_init 167 = .ok (.iconst 0, 1) := by decide +kernel
theorem dX12_init_168 : decode cX12_init 168 = .ok (.istore_n 1, 1) := by decide +kernel
theorem dX12_init_169 : decode cX12_init 169 = .ok (.iload_n 1, 1) := by decide +kernel
theorem dX12_init_170 : decode cX12_init 170 = .ok (.iconst 4, 1) := by decide +kernel
theorem dX12_init_171 : decode cX12_init 171 = .ok (.if_icmp .ge 22, 3) := by decide +kernel
theorem dX12_init_174 : decode cX12_init 174 = .ok (.aload_n 0, 1) := by decide +kernel
theorem dX12_init_175 : decode cX12_init 175 = .ok (.getfield 78, 3) := by decide +kernel
theorem dX12_init_178 : decode cX12_init 178 = .ok (.iload_n 1, 1) := by decide +kernel
theorem dX12_init_179 : decode cX12_init 179 = .ok (.new 76, 3) := by decide +kernel
theorem dX12_init_182 : decode cX12_init 182 = .ok (.dup, 1) := by decide +kernel
theorem dX12_init_183 : decode cX12_init 183 = .ok (.invokespecial 82, 3) := by decide +kernel
theorem dX12_init_186 : decode cX12_init 186 = .ok (.aastore, 1) := by decide +kernel
theorem dX12_init_187 : decode cX12_init 187 = .ok (.iinc 1 1, 3) := by decide +kernel
theorem dX12_init_190 : decode cX12_init 190 = .ok (.goto (-21), 3) := by decide +kernel
theorem dX12_init_193 : decode cX12_init 193 = .ok (.aload_n 0, 1) := by decide +kernel
theorem dX12_init_194 : decode cX12_init 194 = .ok (.sipush 4096, 3) := by decide +kernel
theorem dX12_init_197 : decode cX12_init 197 = .ok (.newarray .int, 2) := by decide +kernel
theorem dX12_init_199 : decode cX12_init 199 = .ok (.putfield 83, 3) := by decide +kernel
theorem dX12_init_202 : decode cX12_init 202 = .ok (.aload_n 0, 1) := by decide +kernel
theorem dX12_init_203 : decode cX12_init 203 = .ok (.sipush 4096, 3) := by decide +kernel
theorem dX12_init_206 : decode cX12_init 206 = .ok (.newarray .int, 2) := by decide +kernel
theorem dX12_init_208 : decode cX12_init 208 = .ok (.putfield 87, 3) := by decide +kernel
theorem dX12_init_211 : decode cX12_init 211 = .ok (.aload_n 0, 1) := by decide +kernel
theorem dX12_init_212 : decode cX12_init 212 = .ok (.sipush 4096, 3) := by decide +kernel
theorem dX12_init_215 : decode cX12_init 215 = .ok (.newarray .int, 2) := by decide +kernel
theorem dX12_init_217 : decode cX12_init 217 = .ok (.putfield 90, 3) := by decide +kernel
theorem dX12_init_220 : decode cX12_init 220 = .ok (.aload_n 0, 1) := by decide +kernel
theorem dX12_init_221 : decode cX12_init 221 = .ok (.sipush 4096, 3) := by decide +kernel
theorem dX12_init_224 : decode cX12_init 224 = .ok (.newarray .int, 2) := by decide +kernel
theorem dX12_init_226 : decode cX12_init 226 = .ok (.putfield 93, 3) := by decide +kernel
theorem dX12_init_229 : decode cX12_init 229 = .ok (.aload_n 0, 1) := by decide +kernel
theorem dX12_init_230 : decode cX12_init 230 = .ok (.sipush 4096, 3) := by decide +kernel
theorem dX12_init_233 : decode cX12_init 233 = .ok (.newarray .int, 2) := by decide +kernel
theorem dX12_init_235 : decode cX12_init 235 = .ok (.putfield 96, 3) := by decide +kernel
theorem dX12_init_238 : decode cX12_init 238 = .ok (.return_, 1) := by decide +kernel
theorem wd_obj : (Cond.code objectInit ⟨#[0xb1]⟩ 1 none) ∈ BG := bg_tb tb_1 43 (by decide +kernel) (by decide +kernel)
theorem wd_344 : (Cond.initialized "java/lang/UnsupportedOperationException") ∈ BG := bg_tb tb_1 18 (by decide +kernel) (by decide +kernel)
theorem wd_345 : (Cond.initialized "java/lang/IllegalArgumentException") ∈ BG := bg_tb tb_1 19 (by decide +kernel) (by decide +kernel)
theorem wd_352 : (Cond.initialized "java/lang/IllegalStateException") ∈ BG := bg_tb tb_1 26 (by decide +kernel) (by decide +kernel)
theorem wd_355 : (Cond.initialized "java/lang/IndexOutOfBoundsException") ∈ BG := bg_tb tb_1 29 (by decide +kernel) (by decide +kernel)
theorem wd_368 : (Cond.instanceMethod objectInit) ∈ BG := bg_tb tb_1 42 (by decide +kernel) (by decide +kernel)
theorem wd_375 : (Cond.methodLink RX10 1 objectInit) ∈ BG := bg_tb tb_1 49 (by decide +kernel) (by decide +kernel)
theorem wd_376 : (Cond.constant RX10 9 (65536)) ∈ BG := bg_tb tb_1 50 (by decide +kernel) (by decide +kernel)
theorem wd_377 : (Cond.fieldLink RX10 10 "ChipFlow$Text" "bytes" "[B") ∈ BG := bg_tb tb_1 51 (by decide +kernel) (by decide +kernel)
theorem wd_411 : (Cond.arrayClass .byte) ∈ BG := bg_tb tb_1 85 (by decide +kernel) (by decide +kernel)
theorem wd_417 : (Cond.methodLink RX7 3 objectInit) ∈ BG := bg_tb tb_1 91 (by decide +kernel) (by decide +kernel)
theorem wd_418 : (Cond.constant RX7 11 (65536)) ∈ BG := bg_tb tb_1 92 (by decide +kernel) (by decide +kernel)
theorem wd_419 : (Cond.fieldLink RX7 48 "ChipFlow$Reader" "text" "LChipFlow$Text;") ∈ BG := bg_tb tb_1 93 (by decide +kernel) (by decide +kernel)
theorem wd_421 : (Cond.fieldLink RX7 12 "ChipFlow$Reader" "code" "[I") ∈ BG := bg_tb tb_1 95 (by decide +kernel) (by decide +kernel)
theorem wd_426 : (Cond.fieldLink RX7 18 "ChipFlow$Reader" "moduleName" "[I") ∈ BG := bg_tb tb_1 100 (by decide +kernel) (by decide +kernel)
theorem wd_428 : (Cond.fieldLink RX7 21 "ChipFlow$Reader" "moduleCode" "[I") ∈ BG := bg_tb tb_1 102 (by decide +kernel) (by decide +kernel)
theorem wd_430 : (Cond.fieldLink RX7 24 "ChipFlow$Reader" "moduleNames" "[I") ∈ BG := bg_tb tb_1 104 (by decide +kernel) (by decide +kernel)
theorem wd_432 : (Cond.fieldLink RX7 27 "ChipFlow$Reader" "name" "[I") ∈ BG := bg_tb tb_1 106 (by decide +kernel) (by decide +kernel)
theorem wd_433 : (Cond.fieldLink RX7 30 "ChipFlow$Reader" "sort" "[I") ∈ BG := bg_tb tb_1 107 (by decide +kernel) (by decide +kernel)
theorem wd_435 : (Cond.fieldLink RX7 33 "ChipFlow$Reader" "width" "[I") ∈ BG := bg_tb tb_1 109 (by decide +kernel) (by decide +kernel)
theorem wd_437 : (Cond.fieldLink RX7 36 "ChipFlow$Reader" "detail" "[I") ∈ BG := bg_tb tb_1 111 (by decide +kernel) (by decide +kernel)
theorem wd_440 : (Cond.fieldLink RX7 39 "ChipFlow$Reader" "opKind" "[I") ∈ BG := bg_tb tb_1 114 (by decide +kernel) (by decide +kernel)
theorem wd_441 : (Cond.fieldLink RX7 42 "ChipFlow$Reader" "opPlace" "[I") ∈ BG := bg_tb tb_1 115 (by decide +kernel) (by decide +kernel)
theorem wd_443 : (Cond.fieldLink RX7 45 "ChipFlow$Reader" "held" "[I") ∈ BG := bg_tb tb_1 117 (by decide +kernel) (by decide +kernel)
theorem wd_483 : (Cond.arrayClass .int) ∈ BG := bg_tb tb_1 157 (by decide +kernel) (by decide +kernel)
theorem wd_489 : (Cond.methodLink RX1 7 objectInit) ∈ BG := bg_tb tb_1 163 (by decide +kernel) (by decide +kernel)
theorem wd_490 : (Cond.constant RX1 15 (64320)) ∈ BG := bg_tb tb_1 164 (by decide +kernel) (by decide +kernel)
theorem wd_491 : (Cond.constant RX1 35 (64832)) ∈ BG := bg_tb tb_1 165 (by decide +kernel) (by decide +kernel)
theorem wd_492 : (Cond.fieldLink RX1 43 "ChipFlow$Builder" "reader" "LChipFlow$Reader;") ∈ BG := bg_tb tb_1 166 (by decide +kernel) (by decide +kernel)
theorem wd_494 : (Cond.fieldLink RX1 16 "ChipFlow$Builder" "frames" "[I") ∈ BG := bg_tb tb_1 168 (by decide +kernel) (by decide +kernel)
theorem wd_496 : (Cond.fieldLink RX1 20 "ChipFlow$Builder" "stack" "[I") ∈ BG := bg_tb tb_1 170 (by decide +kernel) (by decide +kernel)
theorem wd_497 : (Cond.fieldLink RX1 23 "ChipFlow$Builder" "wide" "[I") ∈ BG := bg_tb tb_1 171 (by decide +kernel) (by decide +kernel)
theorem wd_499 : (Cond.fieldLink RX1 26 "ChipFlow$Builder" "buckets" "[I") ∈ BG := bg_tb tb_1 173 (by decide +kernel) (by decide +kernel)
theorem wd_502 : (Cond.fieldLink RX1 29 "ChipFlow$Builder" "instances" "[I") ∈ BG := bg_tb tb_1 176 (by decide +kernel) (by decide +kernel)
theorem wd_503 : (Cond.fieldLink RX1 32 "ChipFlow$Builder" "registerBits" "[I") ∈ BG := bg_tb tb_1 177 (by decide +kernel) (by decide +kernel)
theorem wd_504 : (Cond.fieldLink RX1 36 "ChipFlow$Builder" "rows" "[J") ∈ BG := bg_tb tb_1 178 (by decide +kernel) (by decide +kernel)
theorem wd_506 : (Cond.fieldLink RX1 40 "ChipFlow$Builder" "scratch" "[I") ∈ BG := bg_tb tb_1 180 (by decide +kernel) (by decide +kernel)
theorem wd_538 : (Cond.arrayClass .long) ∈ BG := bg_tb tb_1 212 (by decide +kernel) (by decide +kernel)
theorem wd_544 : (Cond.methodLink RX6 3 objectInit) ∈ BG := bg_tb tb_1 218 (by decide +kernel) (by decide +kernel)
theorem wd_547 : (Cond.fieldLink RX6 11 "ChipFlow$Mapper" "needed" "[I") ∈ BG := bg_tb tb_1 221 (by decide +kernel) (by decide +kernel)
theorem wd_548 : (Cond.fieldLink RX6 17 "ChipFlow$Mapper" "root" "[I") ∈ BG := bg_tb tb_1 222 (by decide +kernel) (by decide +kernel)
theorem wd_549 : (Cond.fieldLink RX6 20 "ChipFlow$Mapper" "need" "[I") ∈ BG := bg_tb tb_1 223 (by decide +kernel) (by decide +kernel)
theorem wd_550 : (Cond.fieldLink RX6 23 "ChipFlow$Mapper" "wayCell" "[I") ∈ BG := bg_tb tb_1 224 (by decide +kernel) (by decide +kernel)
theorem wd_551 : (Cond.fieldLink RX6 26 "ChipFlow$Mapper" "wayTurns" "[I") ∈ BG := bg_tb tb_1 225 (by decide +kernel) (by decide +kernel)
theorem wd_552 : (Cond.fieldLink RX6 29 "ChipFlow$Mapper" "wayNodes" "[I") ∈ BG := bg_tb tb_1 226 (by decide +kernel) (by decide +kernel)
theorem wd_553 : (Cond.fieldLink RX6 32 "ChipFlow$Mapper" "cuts" "[I") ∈ BG := bg_tb tb_1 227 (by decide +kernel) (by decide +kernel)
theorem wd_554 : (Cond.fieldLink RX6 35 "ChipFlow$Mapper" "cutOrder" "[I") ∈ BG := bg_tb tb_1 228 (by decide +kernel) (by decide +kernel)
theorem wd_555 : (Cond.fieldLink RX6 38 "ChipFlow$Mapper" "cutTable" "[I") ∈ BG := bg_tb tb_1 229 (by decide +kernel) (by decide +kernel)
theorem wd_557 : (Cond.fieldLink RX6 41 "ChipFlow$Mapper" "members" "[I") ∈ BG := bg_tb tb_1 231 (by decide +kernel) (by decide +kernel)
theorem wd_559 : (Cond.fieldLink RX6 46 "ChipFlow$Mapper" "views" "[I") ∈ BG := bg_tb tb_1 233 (by decide +kernel) (by decide +kernel)
theorem wd_560 : (Cond.fieldLink RX6 49 "ChipFlow$Mapper" "inner" "[I") ∈ BG := bg_tb tb_1 234 (by decide +kernel) (by decide +kernel)
theorem wd_561 : (Cond.fieldLink RX6 52 "ChipFlow$Mapper" "values" "[I") ∈ BG := bg_tb tb_1 235 (by decide +kernel) (by decide +kernel)
theorem wd_562 : (Cond.fieldLink RX6 55 "ChipFlow$Mapper" "made" "[I") ∈ BG := bg_tb tb_1 236 (by decide +kernel) (by decide +kernel)
theorem wd_563 : (Cond.fieldLink RX6 58 "ChipFlow$Mapper" "tasks" "[I") ∈ BG := bg_tb tb_1 237 (by decide +kernel) (by decide +kernel)
theorem wd_608 : (Cond.methodLink RX8 3 objectInit) ∈ BG := bg_tb tb_2 42 (by decide +kernel) (by decide +kernel)
theorem wd_612 : (Cond.fieldLink RX8 11 "ChipFlow$Router" "kept" "[I") ∈ BG := bg_tb tb_2 46 (by decide +kernel) (by decide +kernel)
theorem wd_613 : (Cond.fieldLink RX8 17 "ChipFlow$Router" "distance" "[I") ∈ BG := bg_tb tb_2 47 (by decide +kernel) (by decide +kernel)
theorem wd_614 : (Cond.fieldLink RX8 20 "ChipFlow$Router" "near" "[I") ∈ BG := bg_tb tb_2 48 (by decide +kernel) (by decide +kernel)
theorem wd_616 : (Cond.fieldLink RX8 23 "ChipFlow$Router" "far" "[I") ∈ BG := bg_tb tb_2 50 (by decide +kernel) (by decide +kernel)
theorem wd_618 : (Cond.fieldLink RX8 26 "ChipFlow$Router" "way" "[I") ∈ BG := bg_tb tb_2 52 (by decide +kernel) (by decide +kernel)
theorem wd_619 : (Cond.fieldLink RX8 29 "ChipFlow$Router" "tree" "[I") ∈ BG := bg_tb tb_2 53 (by decide +kernel) (by decide +kernel)
theorem wd_621 : (Cond.fieldLink RX8 34 "ChipFlow$Router" "row" "[I") ∈ BG := bg_tb tb_2 55 (by decide +kernel) (by decide +kernel)
theorem wd_657 : (Cond.methodLink RX11 5 objectInit) ∈ BG := bg_tb tb_2 91 (by decide +kernel) (by decide +kernel)
theorem wd_658 : (Cond.fieldLink RX11 11 "ChipFlow$Times" "time" "[I") ∈ BG := bg_tb tb_2 92 (by decide +kernel) (by decide +kernel)
theorem wd_659 : (Cond.fieldLink RX11 17 "ChipFlow$Times" "arrive" "[I") ∈ BG := bg_tb tb_2 93 (by decide +kernel) (by decide +kernel)
theorem wd_660 : (Cond.fieldLink RX11 22 "ChipFlow$Times" "rest" "[I") ∈ BG := bg_tb tb_2 94 (by decide +kernel) (by decide +kernel)
theorem wd_664 : (Cond.fieldLink RX11 25 "ChipFlow$Times" "order" "[I") ∈ BG := bg_tb tb_2 98 (by decide +kernel) (by decide +kernel)
theorem wd_665 : (Cond.fieldLink RX11 28 "ChipFlow$Times" "bound" "[I") ∈ BG := bg_tb tb_2 99 (by decide +kernel) (by decide +kernel)
theorem wd_666 : (Cond.fieldLink RX11 31 "ChipFlow$Times" "size" "[I") ∈ BG := bg_tb tb_2 100 (by decide +kernel) (by decide +kernel)
theorem wd_667 : (Cond.fieldLink RX11 34 "ChipFlow$Times" "rows" "[I") ∈ BG := bg_tb tb_2 101 (by decide +kernel) (by decide +kernel)
theorem wd_668 : (Cond.fieldLink RX11 37 "ChipFlow$Times" "trail" "[I") ∈ BG := bg_tb tb_2 102 (by decide +kernel) (by decide +kernel)
theorem wd_676 : (Cond.fieldLink RX11 40 "ChipFlow$Times" "before" "[I") ∈ BG := bg_tb tb_2 110 (by decide +kernel) (by decide +kernel)
theorem wd_677 : (Cond.fieldLink RX11 43 "ChipFlow$Times" "waveFrom" "[I") ∈ BG := bg_tb tb_2 111 (by decide +kernel) (by decide +kernel)
theorem wd_678 : (Cond.fieldLink RX11 46 "ChipFlow$Times" "change" "[I") ∈ BG := bg_tb tb_2 112 (by decide +kernel) (by decide +kernel)
theorem wd_725 : (Cond.methodLink RX9 5 objectInit) ∈ BG := bg_tb tb_2 159 (by decide +kernel) (by decide +kernel)
theorem wd_726 : (Cond.constant RX9 26 (78336)) ∈ BG := bg_tb tb_2 160 (by decide +kernel) (by decide +kernel)
theorem wd_731 : (Cond.fieldLink RX9 15 "ChipFlow$Tester" "good" "[J") ∈ BG := bg_tb tb_2 165 (by decide +kernel) (by decide +kernel)
theorem wd_732 : (Cond.fieldLink RX9 19 "ChipFlow$Tester" "bad" "[J") ∈ BG := bg_tb tb_2 166 (by decide +kernel) (by decide +kernel)
theorem wd_733 : (Cond.fieldLink RX9 22 "ChipFlow$Tester" "touched" "[I") ∈ BG := bg_tb tb_2 167 (by decide +kernel) (by decide +kernel)
theorem wd_734 : (Cond.fieldLink RX9 27 "ChipFlow$Tester" "shown" "[J") ∈ BG := bg_tb tb_2 168 (by decide +kernel) (by decide +kernel)
theorem wd_735 : (Cond.fieldLink RX9 30 "ChipFlow$Tester" "ready" "[I") ∈ BG := bg_tb tb_2 169 (by decide +kernel) (by decide +kernel)
theorem wd_736 : (Cond.fieldLink RX9 33 "ChipFlow$Tester" "tally" "[I") ∈ BG := bg_tb tb_2 170 (by decide +kernel) (by decide +kernel)
theorem wd_764 : (Cond.methodLink RX3 3 objectInit) ∈ BG := bg_tb tb_2 198 (by decide +kernel) (by decide +kernel)
theorem wd_795 : (Cond.fieldLink RX3 9 "ChipFlow$Design" "low" "[I") ∈ BG := bg_tb tb_2 229 (by decide +kernel) (by decide +kernel)
theorem wd_799 : (Cond.fieldLink RX3 13 "ChipFlow$Design" "high" "[I") ∈ BG := bg_tb tb_2 233 (by decide +kernel) (by decide +kernel)
theorem wd_803 : (Cond.fieldLink RX3 16 "ChipFlow$Design" "standsFor" "[I") ∈ BG := bg_tb tb_2 237 (by decide +kernel) (by decide +kernel)
theorem wd_806 : (Cond.fieldLink RX3 19 "ChipFlow$Design" "outRoot" "[I") ∈ BG := bg_tb tb_3 0 (by decide +kernel) (by decide +kernel)
theorem wd_809 : (Cond.fieldLink RX3 22 "ChipFlow$Design" "nextRoot" "[I") ∈ BG := bg_tb tb_3 3 (by decide +kernel) (by decide +kernel)
theorem wd_812 : (Cond.fieldLink RX3 25 "ChipFlow$Design" "table" "[I") ∈ BG := bg_tb tb_3 6 (by decide +kernel) (by decide +kernel)
theorem wd_854 : (Cond.methodLink RX5 3 objectInit) ∈ BG := bg_tb tb_3 48 (by decide +kernel) (by decide +kernel)
theorem wd_864 : (Cond.fieldLink RX5 11 "ChipFlow$Library" "inputs" "[I") ∈ BG := bg_tb tb_3 58 (by decide +kernel) (by decide +kernel)
theorem wd_868 : (Cond.fieldLink RX5 15 "ChipFlow$Library" "table" "[I") ∈ BG := bg_tb tb_3 62 (by decide +kernel) (by decide +kernel)
theorem wd_873 : (Cond.fieldLink RX5 18 "ChipFlow$Library" "area" "[I") ∈ BG := bg_tb tb_3 67 (by decide +kernel) (by decide +kernel)
theorem wd_877 : (Cond.fieldLink RX5 21 "ChipFlow$Library" "delay" "[I") ∈ BG := bg_tb tb_3 71 (by decide +kernel) (by decide +kernel)
theorem wd_915 : (Cond.methodLink RX4 3 objectInit) ∈ BG := bg_tb tb_3 109 (by decide +kernel) (by decide +kernel)
theorem wd_921 : (Cond.fieldLink RX4 11 "ChipFlow$Layout" "boxes" "[I") ∈ BG := bg_tb tb_3 115 (by decide +kernel) (by decide +kernel)
theorem wd_937 : (Cond.fieldLink RX4 17 "ChipFlow$Layout" "nextBox" "[I") ∈ BG := bg_tb tb_3 131 (by decide +kernel) (by decide +kernel)
theorem wd_938 : (Cond.fieldLink RX4 20 "ChipFlow$Layout" "nearOnes" "[I") ∈ BG := bg_tb tb_3 132 (by decide +kernel) (by decide +kernel)
theorem wd_939 : (Cond.fieldLink RX4 23 "ChipFlow$Layout" "parent" "[I") ∈ BG := bg_tb tb_3 133 (by decide +kernel) (by decide +kernel)
theorem wd_940 : (Cond.fieldLink RX4 28 "ChipFlow$Layout" "pinPart" "[I") ∈ BG := bg_tb tb_3 134 (by decide +kernel) (by decide +kernel)
theorem wd_941 : (Cond.fieldLink RX4 31 "ChipFlow$Layout" "partPins" "[I") ∈ BG := bg_tb tb_3 135 (by decide +kernel) (by decide +kernel)
theorem wd_942 : (Cond.fieldLink RX4 34 "ChipFlow$Layout" "shorted" "[J") ∈ BG := bg_tb tb_3 136 (by decide +kernel) (by decide +kernel)
theorem wd_1250 : (Cond.classLink RX12 501 "java/lang/UnsupportedOperationException") ∈ BG := bg_tb tb_4 204 (by decide +kernel) (by decide +kernel)
theorem wd_1331 : (Cond.classLink RX12 497 "java/lang/IllegalArgumentException") ∈ BG := bg_tb tb_5 45 (by decide +kernel) (by decide +kernel)
theorem wd_1353 : (Cond.classLink RX12 129 "java/lang/IllegalStateException") ∈ BG := bg_tb tb_5 67 (by decide +kernel) (by decide +kernel)
theorem wd_1816 : (Cond.classLink RX12 494 "java/lang/IndexOutOfBoundsException") ∈ BG := bg_tb tb_7 50 (by decide +kernel) (by decide +kernel)
theorem wd_3024 : (Cond.methodLink RX13 7 objectInit) ∈ BG := bg_tb tb_12 58 (by decide +kernel) (by decide +kernel)
theorem wd_3025 : (Cond.constant RX13 13 (65536)) ∈ BG := bg_tb tb_12 59 (by decide +kernel) (by decide +kernel)
theorem wd_3026 : (Cond.constant RX13 18 (65537)) ∈ BG := bg_tb tb_12 60 (by decide +kernel) (by decide +kernel)
theorem wd_3027 : (Cond.constant RX13 100 (204800)) ∈ BG := bg_tb tb_12 61 (by decide +kernel) (by decide +kernel)
theorem wd_3028 : (Cond.constant RX13 179 (131072)) ∈ BG := bg_tb tb_12 62 (by decide +kernel) (by decide +kernel)
theorem wd_3029 : (Cond.constant RX13 462 (40000)) ∈ BG := bg_tb tb_12 63 (by decide +kernel) (by decide +kernel)
theorem wd_3030 : (Cond.constant RX13 496 (225280)) ∈ BG := bg_tb tb_12 64 (by decide +kernel) (by decide +kernel)
theorem wd_3031 : (Cond.constant RX13 545 (102400)) ∈ BG := bg_tb tb_12 65 (by decide +kernel) (by decide +kernel)
theorem wd_3033 : (Cond.fieldLink RX13 14 "ChipFlowModel" "tape" "[B") ∈ BG := bg_tb tb_12 67 (by decide +kernel) (by decide +kernel)
theorem wd_3036 : (Cond.fieldLink RX13 19 "ChipFlowModel" "sorts" "[B") ∈ BG := bg_tb tb_12 70 (by decide +kernel) (by decide +kernel)
theorem wd_3037 : (Cond.fieldLink RX13 22 "ChipFlowModel" "places" "[I") ∈ BG := bg_tb tb_12 71 (by decide +kernel) (by decide +kernel)
theorem wd_3038 : (Cond.fieldLink RX13 26 "ChipFlowModel" "numbers" "[I") ∈ BG := bg_tb tb_12 72 (by decide +kernel) (by decide +kernel)
theorem wd_3039 : (Cond.fieldLink RX13 29 "ChipFlowModel" "firsts" "[J") ∈ BG := bg_tb tb_12 73 (by decide +kernel) (by decide +kernel)
theorem wd_3040 : (Cond.fieldLink RX13 33 "ChipFlowModel" "seconds" "[I") ∈ BG := bg_tb tb_12 74 (by decide +kernel) (by decide +kernel)
theorem wd_3045 : (Cond.fieldLink RX13 36 "ChipFlowModel" "moduleTokens" "[I") ∈ BG := bg_tb tb_12 79 (by decide +kernel) (by decide +kernel)
theorem wd_3046 : (Cond.fieldLink RX13 39 "ChipFlowModel" "bodies" "[I") ∈ BG := bg_tb tb_12 80 (by decide +kernel) (by decide +kernel)
theorem wd_3047 : (Cond.fieldLink RX13 42 "ChipFlowModel" "nameCounts" "[I") ∈ BG := bg_tb tb_12 81 (by decide +kernel) (by decide +kernel)
theorem wd_3048 : (Cond.fieldLink RX13 45 "ChipFlowModel" "nameTokens" "[I") ∈ BG := bg_tb tb_12 82 (by decide +kernel) (by decide +kernel)
theorem wd_3049 : (Cond.fieldLink RX13 48 "ChipFlowModel" "nameSorts" "[I") ∈ BG := bg_tb tb_12 83 (by decide +kernel) (by decide +kernel)
theorem wd_3050 : (Cond.fieldLink RX13 51 "ChipFlowModel" "nameWidths" "[I") ∈ BG := bg_tb tb_12 84 (by decide +kernel) (by decide +kernel)
theorem wd_3051 : (Cond.fieldLink RX13 54 "ChipFlowModel" "nameThings" "[I") ∈ BG := bg_tb tb_12 85 (by decide +kernel) (by decide +kernel)
theorem wd_3052 : (Cond.fieldLink RX13 57 "ChipFlowModel" "nameSet" "[Z") ∈ BG := bg_tb tb_12 86 (by decide +kernel) (by decide +kernel)
theorem wd_3053 : (Cond.fieldLink RX13 61 "ChipFlowModel" "inBits" "[I") ∈ BG := bg_tb tb_12 87 (by decide +kernel) (by decide +kernel)
theorem wd_3054 : (Cond.fieldLink RX13 64 "ChipFlowModel" "outBits" "[I") ∈ BG := bg_tb tb_12 88 (by decide +kernel) (by decide +kernel)
theorem wd_3055 : (Cond.fieldLink RX13 67 "ChipFlowModel" "regBits" "[I") ∈ BG := bg_tb tb_12 89 (by decide +kernel) (by decide +kernel)
theorem wd_3056 : (Cond.fieldLink RX13 70 "ChipFlowModel" "instances" "[I") ∈ BG := bg_tb tb_12 90 (by decide +kernel) (by decide +kernel)
theorem wd_3062 : (Cond.fieldLink RX13 73 "ChipFlowModel" "waits" "[I") ∈ BG := bg_tb tb_12 96 (by decide +kernel) (by decide +kernel)
theorem wd_3063 : (Cond.fieldLink RX13 76 "ChipFlowModel" "waitTokens" "[I") ∈ BG := bg_tb tb_12 97 (by decide +kernel) (by decide +kernel)
theorem wd_3067 : (Cond.fieldLink RX13 79 "ChipFlowModel" "widths" "[I") ∈ BG := bg_tb tb_12 101 (by decide +kernel) (by decide +kernel)
theorem wd_3068 : (Cond.fieldLink RX13 82 "ChipFlowModel" "literals" "[I") ∈ BG := bg_tb tb_12 102 (by decide +kernel) (by decide +kernel)
theorem wd_3071 : (Cond.fieldLink RX13 85 "ChipFlowModel" "lesser" "[I") ∈ BG := bg_tb tb_12 105 (by decide +kernel) (by decide +kernel)
theorem wd_3072 : (Cond.fieldLink RX13 88 "ChipFlowModel" "other" "[I") ∈ BG := bg_tb tb_12 106 (by decide +kernel) (by decide +kernel)
theorem wd_3073 : (Cond.fieldLink RX13 91 "ChipFlowModel" "chained" "[I") ∈ BG := bg_tb tb_12 107 (by decide +kernel) (by decide +kernel)
theorem wd_3074 : (Cond.fieldLink RX13 94 "ChipFlowModel" "nextChained" "[I") ∈ BG := bg_tb tb_12 108 (by decide +kernel) (by decide +kernel)
theorem wd_3075 : (Cond.fieldLink RX13 97 "ChipFlowModel" "frameValues" "[I") ∈ BG := bg_tb tb_12 109 (by decide +kernel) (by decide +kernel)
theorem wd_3076 : (Cond.fieldLink RX13 101 "ChipFlowModel" "instanceValues" "[I") ∈ BG := bg_tb tb_12 110 (by decide +kernel) (by decide +kernel)
theorem wd_3077 : (Cond.fieldLink RX13 104 "ChipFlowModel" "frameModules" "[I") ∈ BG := bg_tb tb_12 111 (by decide +kernel) (by decide +kernel)
theorem wd_3078 : (Cond.fieldLink RX13 107 "ChipFlowModel" "frameTokens" "[I") ∈ BG := bg_tb tb_12 112 (by decide +kernel) (by decide +kernel)
theorem wd_3079 : (Cond.fieldLink RX13 110 "ChipFlowModel" "frameNames" "[I") ∈ BG := bg_tb tb_12 113 (by decide +kernel) (by decide +kernel)
theorem wd_3080 : (Cond.fieldLink RX13 113 "ChipFlowModel" "frameTold" "[I") ∈ BG := bg_tb tb_12 114 (by decide +kernel) (by decide +kernel)
theorem wd_3081 : (Cond.fieldLink RX13 116 "ChipFlowModel" "registerBits" "[I") ∈ BG := bg_tb tb_12 115 (by decide +kernel) (by decide +kernel)
theorem wd_3082 : (Cond.fieldLink RX13 119 "ChipFlowModel" "nexts" "[I") ∈ BG := bg_tb tb_12 116 (by decide +kernel) (by decide +kernel)
theorem wd_3085 : (Cond.fieldLink RX13 122 "ChipFlowModel" "arguments" "[I") ∈ BG := bg_tb tb_12 119 (by decide +kernel) (by decide +kernel)
theorem wd_3086 : (Cond.fieldLink RX13 125 "ChipFlowModel" "designThere" "[Z") ∈ BG := bg_tb tb_12 120 (by decide +kernel) (by decide +kernel)
theorem wd_3087 : (Cond.fieldLink RX13 128 "ChipFlowModel" "designIn" "[I") ∈ BG := bg_tb tb_12 121 (by decide +kernel) (by decide +kernel)
theorem wd_3088 : (Cond.fieldLink RX13 131 "ChipFlowModel" "designState" "[I") ∈ BG := bg_tb tb_12 122 (by decide +kernel) (by decide +kernel)
theorem wd_3089 : (Cond.fieldLink RX13 134 "ChipFlowModel" "designOut" "[I") ∈ BG := bg_tb tb_12 123 (by decide +kernel) (by decide +kernel)
theorem wd_3090 : (Cond.fieldLink RX13 137 "ChipFlowModel" "designBegin" "[I") ∈ BG := bg_tb tb_12 124 (by decide +kernel) (by decide +kernel)
theorem wd_3091 : (Cond.fieldLink RX13 140 "ChipFlowModel" "designNow" "[I") ∈ BG := bg_tb tb_12 125 (by decide +kernel) (by decide +kernel)
theorem wd_3092 : (Cond.fieldLink RX13 143 "ChipFlowModel" "designNodes" "[I") ∈ BG := bg_tb tb_12 126 (by decide +kernel) (by decide +kernel)
theorem wd_3093 : (Cond.fieldLink RX13 146 "ChipFlowModel" "designFirst" "[I") ∈ BG := bg_tb tb_12 127 (by decide +kernel) (by decide +kernel)
theorem wd_3094 : (Cond.fieldLink RX13 149 "ChipFlowModel" "designDepth" "[I") ∈ BG := bg_tb tb_12 128 (by decide +kernel) (by decide +kernel)
theorem wd_3095 : (Cond.fieldLink RX13 152 "ChipFlowModel" "designSweptAnds" "[I") ∈ BG := bg_tb tb_12 129 (by decide +kernel) (by decide +kernel)
theorem wd_3096 : (Cond.fieldLink RX13 155 "ChipFlowModel" "designReached" "[I") ∈ BG := bg_tb tb_12 130 (by decide +kernel) (by decide +kernel)
theorem wd_3097 : (Cond.fieldLink RX13 158 "ChipFlowModel" "keptLesser" "[I") ∈ BG := bg_tb tb_12 131 (by decide +kernel) (by decide +kernel)
theorem wd_3098 : (Cond.fieldLink RX13 161 "ChipFlowModel" "keptOther" "[I") ∈ BG := bg_tb tb_12 132 (by decide +kernel) (by decide +kernel)
theorem wd_3099 : (Cond.fieldLink RX13 164 "ChipFlowModel" "keptSwept" "[I") ∈ BG := bg_tb tb_12 133 (by decide +kernel) (by decide +kernel)
theorem wd_3100 : (Cond.fieldLink RX13 167 "ChipFlowModel" "outLiterals" "[I") ∈ BG := bg_tb tb_12 134 (by decide +kernel) (by decide +kernel)
theorem wd_3101 : (Cond.fieldLink RX13 170 "ChipFlowModel" "nextLiterals" "[I") ∈ BG := bg_tb tb_12 135 (by decide +kernel) (by decide +kernel)
theorem wd_3102 : (Cond.fieldLink RX13 173 "ChipFlowModel" "outTables" "[I") ∈ BG := bg_tb tb_12 136 (by decide +kernel) (by decide +kernel)
theorem wd_3103 : (Cond.fieldLink RX13 176 "ChipFlowModel" "nextTables" "[I") ∈ BG := bg_tb tb_12 137 (by decide +kernel) (by decide +kernel)
theorem wd_3104 : (Cond.fieldLink RX13 180 "ChipFlowModel" "functions" "[J") ∈ BG := bg_tb tb_12 138 (by decide +kernel) (by decide +kernel)
theorem wd_3105 : (Cond.fieldLink RX13 183 "ChipFlowModel" "sweptOf" "[I") ∈ BG := bg_tb tb_12 139 (by decide +kernel) (by decide +kernel)
theorem wd_3106 : (Cond.fieldLink RX13 186 "ChipFlowModel" "isNeeded" "[Z") ∈ BG := bg_tb tb_12 140 (by decide +kernel) (by decide +kernel)
theorem wd_3107 : (Cond.fieldLink RX13 189 "ChipFlowModel" "depths" "[I") ∈ BG := bg_tb tb_12 141 (by decide +kernel) (by decide +kernel)
theorem wd_3108 : (Cond.fieldLink RX13 192 "ChipFlowModel" "roots" "[I") ∈ BG := bg_tb tb_12 142 (by decide +kernel) (by decide +kernel)
theorem wd_3109 : (Cond.fieldLink RX13 195 "ChipFlowModel" "isReached" "[Z") ∈ BG := bg_tb tb_12 143 (by decide +kernel) (by decide +kernel)
theorem wd_3112 : (Cond.fieldLink RX13 198 "ChipFlowModel" "inputTokens" "[I") ∈ BG := bg_tb tb_12 146 (by decide +kernel) (by decide +kernel)
theorem wd_3113 : (Cond.fieldLink RX13 201 "ChipFlowModel" "cellTokens" "[I") ∈ BG := bg_tb tb_12 147 (by decide +kernel) (by decide +kernel)
theorem wd_3115 : (Cond.fieldLink RX13 204 "ChipFlowModel" "newInputs" "[I") ∈ BG := bg_tb tb_12 149 (by decide +kernel) (by decide +kernel)
theorem wd_3116 : (Cond.fieldLink RX13 207 "ChipFlowModel" "newFunctions" "[I") ∈ BG := bg_tb tb_12 150 (by decide +kernel) (by decide +kernel)
theorem wd_3117 : (Cond.fieldLink RX13 210 "ChipFlowModel" "newAreas" "[I") ∈ BG := bg_tb tb_12 151 (by decide +kernel) (by decide +kernel)
theorem wd_3118 : (Cond.fieldLink RX13 213 "ChipFlowModel" "newDelays" "[I") ∈ BG := bg_tb tb_12 152 (by decide +kernel) (by decide +kernel)
theorem wd_3119 : (Cond.fieldLink RX13 216 "ChipFlowModel" "libraryThere" "[Z") ∈ BG := bg_tb tb_12 153 (by decide +kernel) (by decide +kernel)
theorem wd_3120 : (Cond.fieldLink RX13 219 "ChipFlowModel" "libraryCells" "[I") ∈ BG := bg_tb tb_12 154 (by decide +kernel) (by decide +kernel)
theorem wd_3121 : (Cond.fieldLink RX13 222 "ChipFlowModel" "cellInputsOf" "[I") ∈ BG := bg_tb tb_12 155 (by decide +kernel) (by decide +kernel)
theorem wd_3122 : (Cond.fieldLink RX13 225 "ChipFlowModel" "cellFunctions" "[I") ∈ BG := bg_tb tb_12 156 (by decide +kernel) (by decide +kernel)
theorem wd_3123 : (Cond.fieldLink RX13 228 "ChipFlowModel" "cellAreas" "[I") ∈ BG := bg_tb tb_12 157 (by decide +kernel) (by decide +kernel)
theorem wd_3124 : (Cond.fieldLink RX13 231 "ChipFlowModel" "cellDelays" "[I") ∈ BG := bg_tb tb_12 158 (by decide +kernel) (by decide +kernel)
theorem wd_3125 : (Cond.fieldLink RX13 234 "ChipFlowModel" "witnessRow" "[I") ∈ BG := bg_tb tb_12 159 (by decide +kernel) (by decide +kernel)
theorem wd_3127 : (Cond.fieldLink RX13 237 "ChipFlowModel" "outsA" "[I") ∈ BG := bg_tb tb_12 161 (by decide +kernel) (by decide +kernel)
theorem wd_3128 : (Cond.fieldLink RX13 240 "ChipFlowModel" "nextsA" "[I") ∈ BG := bg_tb tb_12 162 (by decide +kernel) (by decide +kernel)
theorem wd_3129 : (Cond.fieldLink RX13 243 "ChipFlowModel" "outsB" "[I") ∈ BG := bg_tb tb_12 163 (by decide +kernel) (by decide +kernel)
theorem wd_3130 : (Cond.fieldLink RX13 246 "ChipFlowModel" "nextsB" "[I") ∈ BG := bg_tb tb_12 164 (by decide +kernel) (by decide +kernel)
theorem wd_3131 : (Cond.fieldLink RX13 249 "ChipFlowModel" "queue" "[I") ∈ BG := bg_tb tb_12 165 (by decide +kernel) (by decide +kernel)
theorem wd_3132 : (Cond.fieldLink RX13 252 "ChipFlowModel" "parents" "[I") ∈ BG := bg_tb tb_12 166 (by decide +kernel) (by decide +kernel)
theorem wd_3133 : (Cond.fieldLink RX13 255 "ChipFlowModel" "byInput" "[I") ∈ BG := bg_tb tb_12 167 (by decide +kernel) (by decide +kernel)
theorem wd_3134 : (Cond.fieldLink RX13 258 "ChipFlowModel" "clocks" "[I") ∈ BG := bg_tb tb_12 168 (by decide +kernel) (by decide +kernel)
theorem wd_3135 : (Cond.fieldLink RX13 261 "ChipFlowModel" "isSeen" "[Z") ∈ BG := bg_tb tb_12 169 (by decide +kernel) (by decide +kernel)
theorem wd_3140 : (Cond.fieldLink RX13 264 "ChipFlowModel" "sideA" "[I") ∈ BG := bg_tb tb_12 174 (by decide +kernel) (by decide +kernel)
theorem wd_3141 : (Cond.fieldLink RX13 267 "ChipFlowModel" "sideB" "[I") ∈ BG := bg_tb tb_12 175 (by decide +kernel) (by decide +kernel)
theorem wd_3142 : (Cond.fieldLink RX13 270 "ChipFlowModel" "uses" "[I") ∈ BG := bg_tb tb_12 176 (by decide +kernel) (by decide +kernel)
theorem wd_3143 : (Cond.fieldLink RX13 273 "ChipFlowModel" "isWanted" "[Z") ∈ BG := bg_tb tb_12 177 (by decide +kernel) (by decide +kernel)
theorem wd_3144 : (Cond.fieldLink RX13 276 "ChipFlowModel" "isRoot" "[Z") ∈ BG := bg_tb tb_12 178 (by decide +kernel) (by decide +kernel)
theorem wd_3146 : (Cond.fieldLink RX13 279 "ChipFlowModel" "cutSizes" "[I") ∈ BG := bg_tb tb_12 180 (by decide +kernel) (by decide +kernel)
theorem wd_3147 : (Cond.fieldLink RX13 282 "ChipFlowModel" "cutNodes" "[I") ∈ BG := bg_tb tb_12 181 (by decide +kernel) (by decide +kernel)
theorem wd_3148 : (Cond.fieldLink RX13 285 "ChipFlowModel" "wayCosts" "[I") ∈ BG := bg_tb tb_12 182 (by decide +kernel) (by decide +kernel)
theorem wd_3149 : (Cond.fieldLink RX13 288 "ChipFlowModel" "wayCells" "[I") ∈ BG := bg_tb tb_12 183 (by decide +kernel) (by decide +kernel)
theorem wd_3150 : (Cond.fieldLink RX13 291 "ChipFlowModel" "wayNodes" "[I") ∈ BG := bg_tb tb_12 184 (by decide +kernel) (by decide +kernel)
theorem wd_3151 : (Cond.fieldLink RX13 294 "ChipFlowModel" "wayTurns" "[I") ∈ BG := bg_tb tb_12 185 (by decide +kernel) (by decide +kernel)
theorem wd_3152 : (Cond.fieldLink RX13 297 "ChipFlowModel" "needs" "[I") ∈ BG := bg_tb tb_12 186 (by decide +kernel) (by decide +kernel)
theorem wd_3153 : (Cond.fieldLink RX13 300 "ChipFlowModel" "isTurnedWay" "[Z") ∈ BG := bg_tb tb_12 187 (by decide +kernel) (by decide +kernel)
theorem wd_3155 : (Cond.fieldLink RX13 303 "ChipFlowModel" "trial" "[I") ∈ BG := bg_tb tb_12 189 (by decide +kernel) (by decide +kernel)
theorem wd_3156 : (Cond.fieldLink RX13 306 "ChipFlowModel" "marks" "[I") ∈ BG := bg_tb tb_12 190 (by decide +kernel) (by decide +kernel)
theorem wd_3157 : (Cond.fieldLink RX13 309 "ChipFlowModel" "tables" "[I") ∈ BG := bg_tb tb_12 191 (by decide +kernel) (by decide +kernel)
theorem wd_3159 : (Cond.fieldLink RX13 312 "ChipFlowModel" "cutFunctions" "[I") ∈ BG := bg_tb tb_12 193 (by decide +kernel) (by decide +kernel)
theorem wd_3161 : (Cond.fieldLink RX13 315 "ChipFlowModel" "madeCells" "[I") ∈ BG := bg_tb tb_12 195 (by decide +kernel) (by decide +kernel)
theorem wd_3162 : (Cond.fieldLink RX13 318 "ChipFlowModel" "madeNets" "[I") ∈ BG := bg_tb tb_12 196 (by decide +kernel) (by decide +kernel)
theorem wd_3163 : (Cond.fieldLink RX13 321 "ChipFlowModel" "gateNets" "[I") ∈ BG := bg_tb tb_12 197 (by decide +kernel) (by decide +kernel)
theorem wd_3164 : (Cond.fieldLink RX13 324 "ChipFlowModel" "turnedNets" "[I") ∈ BG := bg_tb tb_12 198 (by decide +kernel) (by decide +kernel)
theorem wd_3166 : (Cond.fieldLink RX13 327 "ChipFlowModel" "jobs" "[I") ∈ BG := bg_tb tb_12 200 (by decide +kernel) (by decide +kernel)
theorem wd_3167 : (Cond.fieldLink RX13 330 "ChipFlowModel" "jobSorts" "[I") ∈ BG := bg_tb tb_12 201 (by decide +kernel) (by decide +kernel)
theorem wd_3169 : (Cond.fieldLink RX13 333 "ChipFlowModel" "chipThere" "[Z") ∈ BG := bg_tb tb_12 203 (by decide +kernel) (by decide +kernel)
theorem wd_3170 : (Cond.fieldLink RX13 336 "ChipFlowModel" "chipIn" "[I") ∈ BG := bg_tb tb_12 204 (by decide +kernel) (by decide +kernel)
theorem wd_3171 : (Cond.fieldLink RX13 339 "ChipFlowModel" "chipState" "[I") ∈ BG := bg_tb tb_12 205 (by decide +kernel) (by decide +kernel)
theorem wd_3172 : (Cond.fieldLink RX13 342 "ChipFlowModel" "chipOut" "[I") ∈ BG := bg_tb tb_12 206 (by decide +kernel) (by decide +kernel)
theorem wd_3173 : (Cond.fieldLink RX13 345 "ChipFlowModel" "chipBegin" "[I") ∈ BG := bg_tb tb_12 207 (by decide +kernel) (by decide +kernel)
theorem wd_3174 : (Cond.fieldLink RX13 348 "ChipFlowModel" "chipNow" "[I") ∈ BG := bg_tb tb_12 208 (by decide +kernel) (by decide +kernel)
theorem wd_3175 : (Cond.fieldLink RX13 351 "ChipFlowModel" "gateCounts" "[I") ∈ BG := bg_tb tb_12 209 (by decide +kernel) (by decide +kernel)
theorem wd_3176 : (Cond.fieldLink RX13 354 "ChipFlowModel" "gateCells" "[I") ∈ BG := bg_tb tb_12 210 (by decide +kernel) (by decide +kernel)
theorem wd_3177 : (Cond.fieldLink RX13 357 "ChipFlowModel" "gateInputs" "[I") ∈ BG := bg_tb tb_12 211 (by decide +kernel) (by decide +kernel)
theorem wd_3178 : (Cond.fieldLink RX13 360 "ChipFlowModel" "outNets" "[I") ∈ BG := bg_tb tb_12 212 (by decide +kernel) (by decide +kernel)
theorem wd_3179 : (Cond.fieldLink RX13 363 "ChipFlowModel" "nextNets" "[I") ∈ BG := bg_tb tb_12 213 (by decide +kernel) (by decide +kernel)
theorem wd_3180 : (Cond.fieldLink RX13 366 "ChipFlowModel" "ownCells" "[I") ∈ BG := bg_tb tb_12 214 (by decide +kernel) (by decide +kernel)
theorem wd_3181 : (Cond.fieldLink RX13 369 "ChipFlowModel" "ownInputs" "[I") ∈ BG := bg_tb tb_12 215 (by decide +kernel) (by decide +kernel)
theorem wd_3182 : (Cond.fieldLink RX13 372 "ChipFlowModel" "ownFunctions" "[I") ∈ BG := bg_tb tb_12 216 (by decide +kernel) (by decide +kernel)
theorem wd_3183 : (Cond.fieldLink RX13 375 "ChipFlowModel" "ownAreas" "[I") ∈ BG := bg_tb tb_12 217 (by decide +kernel) (by decide +kernel)
theorem wd_3184 : (Cond.fieldLink RX13 378 "ChipFlowModel" "ownDelays" "[I") ∈ BG := bg_tb tb_12 218 (by decide +kernel) (by decide +kernel)
theorem wd_3185 : (Cond.fieldLink RX13 381 "ChipFlowModel" "netWords" "[J") ∈ BG := bg_tb tb_12 219 (by decide +kernel) (by decide +kernel)
theorem wd_3186 : (Cond.fieldLink RX13 384 "ChipFlowModel" "siteCounts" "[I") ∈ BG := bg_tb tb_12 220 (by decide +kernel) (by decide +kernel)
theorem wd_3187 : (Cond.fieldLink RX13 387 "ChipFlowModel" "placedRows" "[I") ∈ BG := bg_tb tb_12 221 (by decide +kernel) (by decide +kernel)
theorem wd_3188 : (Cond.fieldLink RX13 390 "ChipFlowModel" "sites" "[I") ∈ BG := bg_tb tb_12 222 (by decide +kernel) (by decide +kernel)
theorem wd_3189 : (Cond.fieldLink RX13 393 "ChipFlowModel" "rows" "[I") ∈ BG := bg_tb tb_12 223 (by decide +kernel) (by decide +kernel)
theorem wd_3191 : (Cond.fieldLink RX13 396 "ChipFlowModel" "pinNets" "[I") ∈ BG := bg_tb tb_12 225 (by decide +kernel) (by decide +kernel)
theorem wd_3192 : (Cond.fieldLink RX13 399 "ChipFlowModel" "pinX" "[I") ∈ BG := bg_tb tb_12 226 (by decide +kernel) (by decide +kernel)
theorem wd_3193 : (Cond.fieldLink RX13 402 "ChipFlowModel" "pinY" "[I") ∈ BG := bg_tb tb_12 227 (by decide +kernel) (by decide +kernel)
theorem wd_3194 : (Cond.fieldLink RX13 405 "ChipFlowModel" "pinCounts" "[I") ∈ BG := bg_tb tb_12 228 (by decide +kernel) (by decide +kernel)
theorem wd_3195 : (Cond.fieldLink RX13 408 "ChipFlowModel" "leftMost" "[I") ∈ BG := bg_tb tb_12 229 (by decide +kernel) (by decide +kernel)
theorem wd_3196 : (Cond.fieldLink RX13 411 "ChipFlowModel" "rightMost" "[I") ∈ BG := bg_tb tb_12 230 (by decide +kernel) (by decide +kernel)
theorem wd_3197 : (Cond.fieldLink RX13 414 "ChipFlowModel" "topMost" "[I") ∈ BG := bg_tb tb_12 231 (by decide +kernel) (by decide +kernel)
theorem wd_3198 : (Cond.fieldLink RX13 417 "ChipFlowModel" "lowMost" "[I") ∈ BG := bg_tb tb_12 232 (by decide +kernel) (by decide +kernel)
theorem wd_3199 : (Cond.fieldLink RX13 420 "ChipFlowModel" "isRouted" "[Z") ∈ BG := bg_tb tb_12 233 (by decide +kernel) (by decide +kernel)
theorem wd_3200 : (Cond.fieldLink RX13 423 "ChipFlowModel" "pointNets" "[I") ∈ BG := bg_tb tb_12 234 (by decide +kernel) (by decide +kernel)
theorem wd_3201 : (Cond.fieldLink RX13 426 "ChipFlowModel" "stepsX" "[Z") ∈ BG := bg_tb tb_12 235 (by decide +kernel) (by decide +kernel)
theorem wd_3202 : (Cond.fieldLink RX13 429 "ChipFlowModel" "stepsY" "[Z") ∈ BG := bg_tb tb_12 236 (by decide +kernel) (by decide +kernel)
theorem wd_3203 : (Cond.fieldLink RX13 432 "ChipFlowModel" "vias" "[Z") ∈ BG := bg_tb tb_12 237 (by decide +kernel) (by decide +kernel)
theorem wd_3204 : (Cond.fieldLink RX13 435 "ChipFlowModel" "isOpen" "[Z") ∈ BG := bg_tb tb_12 238 (by decide +kernel) (by decide +kernel)
theorem wd_3209 : (Cond.fieldLink RX13 438 "ChipFlowModel" "keptFor" "[I") ∈ BG := bg_tb tb_13 3 (by decide +kernel) (by decide +kernel)
theorem wd_3210 : (Cond.fieldLink RX13 441 "ChipFlowModel" "distances" "[I") ∈ BG := bg_tb tb_13 4 (by decide +kernel) (by decide +kernel)
theorem wd_3211 : (Cond.fieldLink RX13 444 "ChipFlowModel" "line" "[I") ∈ BG := bg_tb tb_13 5 (by decide +kernel) (by decide +kernel)
theorem wd_3212 : (Cond.fieldLink RX13 447 "ChipFlowModel" "inLine" "[Z") ∈ BG := bg_tb tb_13 6 (by decide +kernel) (by decide +kernel)
theorem wd_3213 : (Cond.fieldLink RX13 450 "ChipFlowModel" "way" "[I") ∈ BG := bg_tb tb_13 7 (by decide +kernel) (by decide +kernel)
theorem wd_3214 : (Cond.fieldLink RX13 453 "ChipFlowModel" "netRow" "[I") ∈ BG := bg_tb tb_13 8 (by decide +kernel) (by decide +kernel)
theorem wd_3216 : (Cond.fieldLink RX13 456 "ChipFlowModel" "isDrawn" "[Z") ∈ BG := bg_tb tb_13 10 (by decide +kernel) (by decide +kernel)
theorem wd_3217 : (Cond.fieldLink RX13 459 "ChipFlowModel" "boxCounts" "[I") ∈ BG := bg_tb tb_13 11 (by decide +kernel) (by decide +kernel)
theorem wd_3218 : (Cond.fieldLink RX13 463 "ChipFlowModel" "boxes" "[I") ∈ BG := bg_tb tb_13 12 (by decide +kernel) (by decide +kernel)
theorem wd_3223 : (Cond.fieldLink RX13 466 "ChipFlowModel" "parts" "[I") ∈ BG := bg_tb tb_13 17 (by decide +kernel) (by decide +kernel)
theorem wd_3224 : (Cond.fieldLink RX13 469 "ChipFlowModel" "isShort" "[Z") ∈ BG := bg_tb tb_13 18 (by decide +kernel) (by decide +kernel)
theorem wd_3225 : (Cond.fieldLink RX13 472 "ChipFlowModel" "isApart" "[Z") ∈ BG := bg_tb tb_13 19 (by decide +kernel) (by decide +kernel)
theorem wd_3226 : (Cond.fieldLink RX13 475 "ChipFlowModel" "hasPin" "[Z") ∈ BG := bg_tb tb_13 20 (by decide +kernel) (by decide +kernel)
theorem wd_3227 : (Cond.fieldLink RX13 478 "ChipFlowModel" "times" "[I") ∈ BG := bg_tb tb_13 21 (by decide +kernel) (by decide +kernel)
theorem wd_3228 : (Cond.fieldLink RX13 481 "ChipFlowModel" "arrivals" "[I") ∈ BG := bg_tb tb_13 22 (by decide +kernel) (by decide +kernel)
theorem wd_3229 : (Cond.fieldLink RX13 484 "ChipFlowModel" "falseCount" "[I") ∈ BG := bg_tb tb_13 23 (by decide +kernel) (by decide +kernel)
theorem wd_3230 : (Cond.fieldLink RX13 487 "ChipFlowModel" "falseNets" "[I") ∈ BG := bg_tb tb_13 24 (by decide +kernel) (by decide +kernel)
theorem wd_3231 : (Cond.fieldLink RX13 490 "ChipFlowModel" "falseEnds" "[I") ∈ BG := bg_tb tb_13 25 (by decide +kernel) (by decide +kernel)
theorem wd_3232 : (Cond.fieldLink RX13 493 "ChipFlowModel" "tailCounts" "[I") ∈ BG := bg_tb tb_13 26 (by decide +kernel) (by decide +kernel)
theorem wd_3233 : (Cond.fieldLink RX13 497 "ChipFlowModel" "tailLengths" "[I") ∈ BG := bg_tb tb_13 27 (by decide +kernel) (by decide +kernel)
theorem wd_3234 : (Cond.fieldLink RX13 500 "ChipFlowModel" "tailNexts" "[I") ∈ BG := bg_tb tb_13 28 (by decide +kernel) (by decide +kernel)
theorem wd_3235 : (Cond.fieldLink RX13 503 "ChipFlowModel" "tailPlaces" "[I") ∈ BG := bg_tb tb_13 29 (by decide +kernel) (by decide +kernel)
theorem wd_3236 : (Cond.fieldLink RX13 506 "ChipFlowModel" "pointers" "[I") ∈ BG := bg_tb tb_13 30 (by decide +kernel) (by decide +kernel)
theorem wd_3238 : (Cond.fieldLink RX13 509 "ChipFlowModel" "chosenNets" "[I") ∈ BG := bg_tb tb_13 32 (by decide +kernel) (by decide +kernel)
theorem wd_3239 : (Cond.fieldLink RX13 512 "ChipFlowModel" "chosenEnds" "[I") ∈ BG := bg_tb tb_13 33 (by decide +kernel) (by decide +kernel)
theorem wd_3240 : (Cond.fieldLink RX13 515 "ChipFlowModel" "chosenTails" "[I") ∈ BG := bg_tb tb_13 34 (by decide +kernel) (by decide +kernel)
theorem wd_3241 : (Cond.fieldLink RX13 518 "ChipFlowModel" "heads" "[I") ∈ BG := bg_tb tb_13 35 (by decide +kernel) (by decide +kernel)
theorem wd_3242 : (Cond.fieldLink RX13 521 "ChipFlowModel" "rest" "[Z") ∈ BG := bg_tb tb_13 36 (by decide +kernel) (by decide +kernel)
theorem wd_3243 : (Cond.fieldLink RX13 524 "ChipFlowModel" "changeTimes" "[I") ∈ BG := bg_tb tb_13 37 (by decide +kernel) (by decide +kernel)
theorem wd_3244 : (Cond.fieldLink RX13 527 "ChipFlowModel" "changeStarts" "[I") ∈ BG := bg_tb tb_13 38 (by decide +kernel) (by decide +kernel)
theorem wd_3246 : (Cond.fieldLink RX13 530 "ChipFlowModel" "comes" "[I") ∈ BG := bg_tb tb_13 40 (by decide +kernel) (by decide +kernel)
theorem wd_3247 : (Cond.fieldLink RX13 533 "ChipFlowModel" "stand" "[Z") ∈ BG := bg_tb tb_13 41 (by decide +kernel) (by decide +kernel)
theorem wd_3248 : (Cond.fieldLink RX13 536 "ChipFlowModel" "setCount" "[I") ∈ BG := bg_tb tb_13 42 (by decide +kernel) (by decide +kernel)
theorem wd_3249 : (Cond.fieldLink RX13 539 "ChipFlowModel" "setPatterns" "[I") ∈ BG := bg_tb tb_13 43 (by decide +kernel) (by decide +kernel)
theorem wd_3250 : (Cond.fieldLink RX13 542 "ChipFlowModel" "setFails" "[Z") ∈ BG := bg_tb tb_13 44 (by decide +kernel) (by decide +kernel)
theorem wd_3251 : (Cond.fieldLink RX13 546 "ChipFlowModel" "setShows" "[J") ∈ BG := bg_tb tb_13 45 (by decide +kernel) (by decide +kernel)
theorem wd_3254 : (Cond.fieldLink RX13 549 "ChipFlowModel" "rightWords" "[J") ∈ BG := bg_tb tb_13 48 (by decide +kernel) (by decide +kernel)
theorem wd_3255 : (Cond.fieldLink RX13 552 "ChipFlowModel" "leastKept" "[I") ∈ BG := bg_tb tb_13 49 (by decide +kernel) (by decide +kernel)
theorem wd_3707 : (Cond.arrayClass .boolean) ∈ BG := bg_tb tb_15 21 (by decide +kernel) (by decide +kernel)
