theorem tb_0 : ∀ w ∈ k2_sels lw_privs, w ∈ lw_tbl := fun _ h => List.mem_append_left _ h
theorem tb_1 : ∀ w ∈ tables_1_1, w ∈ lw_tbl := fun _ h => List.mem_append_right _ (List.mem_append_left _ h)
theorem tb_2 : ∀ w ∈ tables_1_2, w ∈ lw_tbl := fun _ h => List.mem_append_right _ (List.mem_append_right _ (List.mem_append_left _ h))
theorem tb_3 : ∀ w ∈ tables_1_3, w ∈ lw_tbl := fun _ h => List.mem_append_right _ (List.mem_append_right _ (List.mem_append_right _ (List.mem_append_left _ h)))
theorem tb_4 : ∀ w ∈ tables_1_4, w ∈ lw_tbl := fun _ h => List.mem_append_right _ (List.mem_append_right _ (List.mem_append_right _ (List.mem_append_right _ (List.mem_append_left _ h))))
theorem tb_5 : ∀ w ∈ tables_1_5, w ∈ lw_tbl := fun _ h => List.mem_append_right _ (List.mem_append_right _ (List.mem_append_right _ (List.mem_append_right _ (List.mem_append_right _ (List.mem_append_left _ h)))))
theorem tb_6 : ∀ w ∈ tables_1_6, w ∈ lw_tbl := fun _ h => List.mem_append_right _ (List.mem_append_right _ (List.mem_append_right _ (List.mem_append_right _ (List.mem_append_right _ (List.mem_append_right _ (List.mem_append_left _ h))))))
theorem tb_7 : ∀ w ∈ tables_1_7, w ∈ lw_tbl := fun _ h => List.mem_append_right _ (List.mem_append_right _ (List.mem_append_right _ (List.mem_append_right _ (List.mem_append_right _ (List.mem_append_right _ (List.mem_append_right _ (List.mem_append_left _ h)))))))
theorem tb_8 : ∀ w ∈ tables_1_8, w ∈ lw_tbl := fun _ h => List.mem_append_right _ (List.mem_append_right _ (List.mem_append_right _ (List.mem_append_right _ (List.mem_append_right _ (List.mem_append_right _ (List.mem_append_right _ (List.mem_append_right _ (List.mem_append_left _ h))))))))
theorem tb_9 : ∀ w ∈ tables_1_9, w ∈ lw_tbl := fun _ h => List.mem_append_right _ (List.mem_append_right _ (List.mem_append_right _ (List.mem_append_right _ (List.mem_append_right _ (List.mem_append_right _ (List.mem_append_right _ (List.mem_append_right _ (List.mem_append_right _ (List.mem_append_left _ h)))))))))
theorem tb_10 : ∀ w ∈ tables_1_10, w ∈ lw_tbl := fun _ h => List.mem_append_right _ (List.mem_append_right _ (List.mem_append_right _ (List.mem_append_right _ (List.mem_append_right _ (List.mem_append_right _ (List.mem_append_right _ (List.mem_append_right _ (List.mem_append_right _ (List.mem_append_right _ (List.mem_append_left _ h))))))))))
theorem tb_11 : ∀ w ∈ tables_1_11, w ∈ lw_tbl := fun _ h => List.mem_append_right _ (List.mem_append_right _ (List.mem_append_right _ (List.mem_append_right _ (List.mem_append_right _ (List.mem_append_right _ (List.mem_append_right _ (List.mem_append_right _ (List.mem_append_right _ (List.mem_append_right _ (List.mem_append_right _ (List.mem_append_left _ h)))))))))))
theorem tb_12 : ∀ w ∈ tables_1_12, w ∈ lw_tbl := fun _ h => List.mem_append_right _ (List.mem_append_right _ (List.mem_append_right _ (List.mem_append_right _ (List.mem_append_right _ (List.mem_append_right _ (List.mem_append_right _ (List.mem_append_right _ (List.mem_append_right _ (List.mem_append_right _ (List.mem_append_right _ (List.mem_append_right _ (List.mem_append_left _ h))))))))))))
theorem tb_13 : ∀ w ∈ tables_1_13, w ∈ lw_tbl := fun _ h => List.mem_append_right _ (List.mem_append_right _ (List.mem_append_right _ (List.mem_append_right _ (List.mem_append_right _ (List.mem_append_right _ (List.mem_append_right _ (List.mem_append_right _ (List.mem_append_right _ (List.mem_append_right _ (List.mem_append_right _ (List.mem_append_right _ (List.mem_append_right _ (List.mem_append_left _ h)))))))))))))
theorem tb_14 : ∀ w ∈ tables_1_14, w ∈ lw_tbl := fun _ h => List.mem_append_right _ (List.mem_append_right _ (List.mem_append_right _ (List.mem_append_right _ (List.mem_append_right _ (List.mem_append_right _ (List.mem_append_right _ (List.mem_append_right _ (List.mem_append_right _ (List.mem_append_right _ (List.mem_append_right _ (List.mem_append_right _ (List.mem_append_right _ (List.mem_append_right _ (List.mem_append_left _ h))))))))))))))
theorem tb_15 : ∀ w ∈ tables_1_15, w ∈ lw_tbl := fun _ h => List.mem_append_right _ (List.mem_append_right _ (List.mem_append_right _ (List.mem_append_right _ (List.mem_append_right _ (List.mem_append_right _ (List.mem_append_right _ (List.mem_append_right _ (List.mem_append_right _ (List.mem_append_right _ (List.mem_append_right _ (List.mem_append_right _ (List.mem_append_right _ (List.mem_append_right _ (List.mem_append_right _ (List.mem_append_left _ h)))))))))))))))
theorem tb_16 : ∀ w ∈ tables_1_16, w ∈ lw_tbl := fun _ h => List.mem_append_right _ (List.mem_append_right _ (List.mem_append_right _ (List.mem_append_right _ (List.mem_append_right _ (List.mem_append_right _ (List.mem_append_right _ (List.mem_append_right _ (List.mem_append_right _ (List.mem_append_right _ (List.mem_append_right _ (List.mem_append_right _ (List.mem_append_right _ (List.mem_append_right _ (List.mem_append_right _ (List.mem_append_right _ (List.mem_append_left _ h))))))))))))))))
theorem tb_17 : ∀ w ∈ tables_1_17, w ∈ lw_tbl := fun _ h => List.mem_append_right _ (List.mem_append_right _ (List.mem_append_right _ (List.mem_append_right _ (List.mem_append_right _ (List.mem_append_right _ (List.mem_append_right _ (List.mem_append_right _ (List.mem_append_right _ (List.mem_append_right _ (List.mem_append_right _ (List.mem_append_right _ (List.mem_append_right _ (List.mem_append_right _ (List.mem_append_right _ (List.mem_append_right _ (List.mem_append_right _ (List.mem_append_left _ h)))))))))))))))))
theorem tb_18 : ∀ w ∈ tables_1_18, w ∈ lw_tbl := fun _ h => List.mem_append_right _ (List.mem_append_right _ (List.mem_append_right _ (List.mem_append_right _ (List.mem_append_right _ (List.mem_append_right _ (List.mem_append_right _ (List.mem_append_right _ (List.mem_append_right _ (List.mem_append_right _ (List.mem_append_right _ (List.mem_append_right _ (List.mem_append_right _ (List.mem_append_right _ (List.mem_append_right _ (List.mem_append_right _ (List.mem_append_right _ (List.mem_append_right _ (List.mem_append_left _ h))))))))))))))))))
theorem tb_19 : ∀ w ∈ tables_1_19, w ∈ lw_tbl := fun _ h => List.mem_append_right _ (List.mem_append_right _ (List.mem_append_right _ (List.mem_append_right _ (List.mem_append_right _ (List.mem_append_right _ (List.mem_append_right _ (List.mem_append_right _ (List.mem_append_right _ (List.mem_append_right _ (List.mem_append_right _ (List.mem_append_right _ (List.mem_append_right _ (List.mem_append_right _ (List.mem_append_right _ (List.mem_append_right _ (List.mem_append_right _ (List.mem_append_right _ (List.mem_append_right _ h))))))))))))))))))
def RX0 : String := "ChipFlow$Board"
def TX0 : u_T := fun k => match k with
  | 0 => ("ChipFlow$Board", "sites", "I", false)
  | 1 => ("ChipFlow$Board", "rows", "I", false)
  | 2 => ("ChipFlow$Board", "height", "I", false)
  | 3 => ("ChipFlow$Board", "siteOf", "[I", true)
  | 4 => ("ChipFlow$Board", "rowOf", "[I", true)
  | 5 => ("ChipFlow$Board", "sizeOf", "[I", true)
  | 6 => ("ChipFlow$Board", "pinNet", "[I", true)
  | 7 => ("ChipFlow$Board", "pinsByNet", "[I", true)
  | 8 => ("ChipFlow$Board", "firstPin", "[I", true)
  | 9 => ("ChipFlow$Board", "netPins", "[I", true)
  | 10 => ("ChipFlow$Board", "netWire", "[I", true)
  | 11 => ("ChipFlow$Board", "routed", "Z", false)
  | 12 => ("ChipFlow$Board", "owner", "[I", true)
  | 13 => ("ChipFlow$Board", "steps", "[I", true)
  | 14 => ("ChipFlow$Board", "open", "[I", true)
  | 15 => ("ChipFlow$Board", "layout", "LChipFlow$Layout;", true)
  | 16 => ("ChipFlow$Board", "timeStamp", "I", false)
  | 17 => ("ChipFlow$Board", "touchedNets", "[I", true)
  | _ => ("ChipFlow$Board", "touchedCount", "I", false)
def tyX0 : Nat → FieldType := fun k => match k with
  | 0 => .int
  | 1 => .int
  | 2 => .int
  | 3 => .array .int
  | 4 => .array .int
  | 5 => .array .int
  | 6 => .array .int
  | 7 => .array .int
  | 8 => .array .int
  | 9 => .array .int
  | 10 => .array .int
  | 11 => .boolean
  | 12 => .array .int
  | 13 => .array .int
  | 14 => .array .int
  | 15 => .object "ChipFlow$Layout"
  | 16 => .int
  | 17 => .array .int
  | _ => .int
set_option maxRecDepth 100000 in
theorem nmX0 : ∀ a, a < 19 → ∀ b, b < 19 → a ≠ b → (TX0 a).2.1 ≠ (TX0 b).2.1 := by decide +kernel
set_option maxRecDepth 100000 in
theorem tyX0_ok : ∀ k, k < 19 → parseFieldDescriptor (TX0 k).2.2.1 = some (tyX0 k) := by decide +kernel
set_option maxRecDepth 100000 in
theorem inX0 : ∀ w ∈ u_ws RX0 TX0 19, w ∈ BG := bg_sb (tb_app tb_3 tb_4) (by decide +kernel) (by decide +kernel)
def RX1 : String := "ChipFlow$Builder"
def TX1 : u_T := fun k => match k with
  | 0 => ("ChipFlow$Builder", "reader", "LChipFlow$Reader;", true)
  | 1 => ("ChipFlow$Builder", "design", "LChipFlow$Design;", false)
  | 2 => ("ChipFlow$Builder", "frames", "[I", true)
  | 3 => ("ChipFlow$Builder", "frameCount", "I", false)
  | 4 => ("ChipFlow$Builder", "stack", "[I", true)
  | 5 => ("ChipFlow$Builder", "wide", "[I", true)
  | 6 => ("ChipFlow$Builder", "top", "I", false)
  | 7 => ("ChipFlow$Builder", "buckets", "[I", true)
  | 8 => ("ChipFlow$Builder", "full", "Z", false)
  | 9 => ("ChipFlow$Builder", "registersMade", "I", false)
  | 10 => ("ChipFlow$Builder", "instances", "[I", true)
  | 11 => ("ChipFlow$Builder", "registerBits", "[I", true)
  | 12 => ("ChipFlow$Builder", "rows", "[J", true)
  | 13 => ("ChipFlow$Builder", "words", "I", false)
  | _ => ("ChipFlow$Builder", "scratch", "[I", true)
def tyX1 : Nat → FieldType := fun k => match k with
  | 0 => .object "ChipFlow$Reader"
  | 1 => .object "ChipFlow$Design"
  | 2 => .array .int
  | 3 => .int
  | 4 => .array .int
  | 5 => .array .int
  | 6 => .int
  | 7 => .array .int
  | 8 => .boolean
  | 9 => .int
  | 10 => .array .int
  | 11 => .array .int
  | 12 => .array .long
  | 13 => .int
  | _ => .array .int
set_option maxRecDepth 100000 in
theorem nmX1 : ∀ a, a < 15 → ∀ b, b < 15 → a ≠ b → (TX1 a).2.1 ≠ (TX1 b).2.1 := by decide +kernel
set_option maxRecDepth 100000 in
theorem tyX1_ok : ∀ k, k < 15 → parseFieldDescriptor (TX1 k).2.2.1 = some (tyX1 k) := by decide +kernel
set_option maxRecDepth 100000 in
theorem inX1 : ∀ w ∈ u_ws RX1 TX1 15, w ∈ BG := bg_sb tb_1 (by decide +kernel) (by decide +kernel)
def RX2 : String := "ChipFlow$Chip"
def TX2 : u_T := fun k => match k with
  | 0 => ("ChipFlow$Chip", "used", "Z", false)
  | 1 => ("ChipFlow$Chip", "inputs", "I", false)
  | 2 => ("ChipFlow$Chip", "registers", "I", false)
  | 3 => ("ChipFlow$Chip", "outputs", "I", false)
  | 4 => ("ChipFlow$Chip", "beginning", "I", false)
  | 5 => ("ChipFlow$Chip", "current", "I", false)
  | 6 => ("ChipFlow$Chip", "table", "[I", true)
  | 7 => ("ChipFlow$Chip", "cells", "LChipFlow$Library;", true)
  | 8 => ("ChipFlow$Chip", "gates", "I", false)
  | 9 => ("ChipFlow$Chip", "gateCell", "[I", true)
  | 10 => ("ChipFlow$Chip", "gateNet", "[I", true)
  | 11 => ("ChipFlow$Chip", "outNet", "[I", true)
  | 12 => ("ChipFlow$Chip", "nextNet", "[I", true)
  | 13 => ("ChipFlow$Chip", "falseEnds", "[I", true)
  | 14 => ("ChipFlow$Chip", "falsePairs", "I", false)
  | 15 => ("ChipFlow$Chip", "setSize", "I", false)
  | 16 => ("ChipFlow$Chip", "setPattern", "[I", true)
  | 17 => ("ChipFlow$Chip", "setFails", "[I", true)
  | 18 => ("ChipFlow$Chip", "board", "LChipFlow$Board;", true)
  | _ => ("ChipFlow$Chip", "logicStamp", "I", false)
def tyX2 : Nat → FieldType := fun k => match k with
  | 0 => .boolean
  | 1 => .int
  | 2 => .int
  | 3 => .int
  | 4 => .int
  | 5 => .int
  | 6 => .array .int
  | 7 => .object "ChipFlow$Library"
  | 8 => .int
  | 9 => .array .int
  | 10 => .array .int
  | 11 => .array .int
  | 12 => .array .int
  | 13 => .array .int
  | 14 => .int
  | 15 => .int
  | 16 => .array .int
  | 17 => .array .int
  | 18 => .object "ChipFlow$Board"
  | _ => .int
set_option maxRecDepth 100000 in
theorem nmX2 : ∀ a, a < 20 → ∀ b, b < 20 → a ≠ b → (TX2 a).2.1 ≠ (TX2 b).2.1 := by decide +kernel
set_option maxRecDepth 100000 in
theorem tyX2_ok : ∀ k, k < 20 → parseFieldDescriptor (TX2 k).2.2.1 = some (tyX2 k) := by decide +kernel
set_option maxRecDepth 100000 in
theorem inX2 : ∀ w ∈ u_ws RX2 TX2 20, w ∈ BG := bg_sb tb_4 (by decide +kernel) (by decide +kernel)
def RX3 : String := "ChipFlow$Design"
def TX3 : u_T := fun k => match k with
  | 0 => ("ChipFlow$Design", "used", "Z", false)
  | 1 => ("ChipFlow$Design", "inputs", "I", false)
  | 2 => ("ChipFlow$Design", "registers", "I", false)
  | 3 => ("ChipFlow$Design", "outputs", "I", false)
  | 4 => ("ChipFlow$Design", "nodes", "I", false)
  | 5 => ("ChipFlow$Design", "beginning", "I", false)
  | 6 => ("ChipFlow$Design", "current", "I", false)
  | 7 => ("ChipFlow$Design", "depth", "I", false)
  | 8 => ("ChipFlow$Design", "sweptAnds", "I", false)
  | 9 => ("ChipFlow$Design", "reached", "I", false)
  | 10 => ("ChipFlow$Design", "low", "[I", true)
  | 11 => ("ChipFlow$Design", "high", "[I", true)
  | 12 => ("ChipFlow$Design", "standsFor", "[I", true)
  | 13 => ("ChipFlow$Design", "outRoot", "[I", true)
  | 14 => ("ChipFlow$Design", "nextRoot", "[I", true)
  | _ => ("ChipFlow$Design", "table", "[I", true)
def tyX3 : Nat → FieldType := fun k => match k with
  | 0 => .boolean
  | 1 => .int
  | 2 => .int
  | 3 => .int
  | 4 => .int
  | 5 => .int
  | 6 => .int
  | 7 => .int
  | 8 => .int
  | 9 => .int
  | 10 => .array .int
  | 11 => .array .int
  | 12 => .array .int
  | 13 => .array .int
  | 14 => .array .int
  | _ => .array .int
set_option maxRecDepth 100000 in
theorem nmX3 : ∀ a, a < 16 → ∀ b, b < 16 → a ≠ b → (TX3 a).2.1 ≠ (TX3 b).2.1 := by decide +kernel
set_option maxRecDepth 100000 in
theorem tyX3_ok : ∀ k, k < 16 → parseFieldDescriptor (TX3 k).2.2.1 = some (tyX3 k) := by decide +kernel
set_option maxRecDepth 100000 in
theorem inX3 : ∀ w ∈ u_ws RX3 TX3 16, w ∈ BG := bg_sb tb_3 (by decide +kernel) (by decide +kernel)
def RX4 : String := "ChipFlow$Layout"
def TX4 : u_T := fun k => match k with
  | 0 => ("ChipFlow$Layout", "drawn", "Z", false)
  | 1 => ("ChipFlow$Layout", "count", "I", false)
  | 2 => ("ChipFlow$Layout", "boxes", "[I", true)
  | 3 => ("ChipFlow$Layout", "violations", "I", false)
  | 4 => ("ChipFlow$Layout", "shorts", "I", false)
  | 5 => ("ChipFlow$Layout", "opens", "I", false)
  | 6 => ("ChipFlow$Layout", "pinnedParts", "I", false)
  | 7 => ("ChipFlow$Layout", "looseParts", "I", false)
  | 8 => ("ChipFlow$Layout", "thin", "I", false)
  | 9 => ("ChipFlow$Layout", "judged", "Z", false)
  | 10 => ("ChipFlow$Layout", "searched", "Z", false)
  | 11 => ("ChipFlow$Layout", "writing", "Z", false)
  | 12 => ("ChipFlow$Layout", "nextBox", "[I", true)
  | 13 => ("ChipFlow$Layout", "nearOnes", "[I", true)
  | 14 => ("ChipFlow$Layout", "parent", "[I", true)
  | 15 => ("ChipFlow$Layout", "pinPart", "[I", true)
  | 16 => ("ChipFlow$Layout", "partPins", "[I", true)
  | _ => ("ChipFlow$Layout", "shorted", "[J", true)
def tyX4 : Nat → FieldType := fun k => match k with
  | 0 => .boolean
  | 1 => .int
  | 2 => .array .int
  | 3 => .int
  | 4 => .int
  | 5 => .int
  | 6 => .int
  | 7 => .int
  | 8 => .int
  | 9 => .boolean
  | 10 => .boolean
  | 11 => .boolean
  | 12 => .array .int
  | 13 => .array .int
  | 14 => .array .int
  | 15 => .array .int
  | 16 => .array .int
  | _ => .array .long
set_option maxRecDepth 100000 in
theorem nmX4 : ∀ a, a < 18 → ∀ b, b < 18 → a ≠ b → (TX4 a).2.1 ≠ (TX4 b).2.1 := by decide +kernel
set_option maxRecDepth 100000 in
theorem tyX4_ok : ∀ k, k < 18 → parseFieldDescriptor (TX4 k).2.2.1 = some (tyX4 k) := by decide +kernel
set_option maxRecDepth 100000 in
theorem inX4 : ∀ w ∈ u_ws RX4 TX4 18, w ∈ BG := bg_sb tb_3 (by decide +kernel) (by decide +kernel)
def RX5 : String := "ChipFlow$Library"
def TX5 : u_T := fun k => match k with
  | 0 => ("ChipFlow$Library", "used", "Z", false)
  | 1 => ("ChipFlow$Library", "count", "I", false)
  | 2 => ("ChipFlow$Library", "inverter", "I", false)
  | 3 => ("ChipFlow$Library", "inputs", "[I", true)
  | 4 => ("ChipFlow$Library", "table", "[I", true)
  | 5 => ("ChipFlow$Library", "area", "[I", true)
  | _ => ("ChipFlow$Library", "delay", "[I", true)
def tyX5 : Nat → FieldType := fun k => match k with
  | 0 => .boolean
  | 1 => .int
  | 2 => .int
  | 3 => .array .int
  | 4 => .array .int
  | 5 => .array .int
  | _ => .array .int
set_option maxRecDepth 100000 in
theorem nmX5 : ∀ a, a < 7 → ∀ b, b < 7 → a ≠ b → (TX5 a).2.1 ≠ (TX5 b).2.1 := by decide +kernel
set_option maxRecDepth 100000 in
theorem tyX5_ok : ∀ k, k < 7 → parseFieldDescriptor (TX5 k).2.2.1 = some (tyX5 k) := by decide +kernel
set_option maxRecDepth 100000 in
theorem inX5 : ∀ w ∈ u_ws RX5 TX5 7, w ∈ BG := bg_sb tb_3 (by decide +kernel) (by decide +kernel)
def RX6 : String := "ChipFlow$Mapper"
def TX6 : u_T := fun k => match k with
  | 0 => ("ChipFlow$Mapper", "design", "LChipFlow$Design;", false)
  | 1 => ("ChipFlow$Mapper", "cells", "LChipFlow$Library;", false)
  | 2 => ("ChipFlow$Mapper", "needed", "[I", true)
  | 3 => ("ChipFlow$Mapper", "root", "[I", true)
  | 4 => ("ChipFlow$Mapper", "need", "[I", true)
  | 5 => ("ChipFlow$Mapper", "wayCell", "[I", true)
  | 6 => ("ChipFlow$Mapper", "wayTurns", "[I", true)
  | 7 => ("ChipFlow$Mapper", "wayNodes", "[I", true)
  | 8 => ("ChipFlow$Mapper", "cuts", "[I", true)
  | 9 => ("ChipFlow$Mapper", "cutOrder", "[I", true)
  | 10 => ("ChipFlow$Mapper", "cutTable", "[I", true)
  | 11 => ("ChipFlow$Mapper", "cutCount", "I", false)
  | 12 => ("ChipFlow$Mapper", "members", "[I", true)
  | 13 => ("ChipFlow$Mapper", "memberCount", "I", false)
  | 14 => ("ChipFlow$Mapper", "views", "[I", true)
  | 15 => ("ChipFlow$Mapper", "inner", "[I", true)
  | 16 => ("ChipFlow$Mapper", "values", "[I", true)
  | 17 => ("ChipFlow$Mapper", "made", "[I", true)
  | _ => ("ChipFlow$Mapper", "tasks", "[I", true)
def tyX6 : Nat → FieldType := fun k => match k with
  | 0 => .object "ChipFlow$Design"
  | 1 => .object "ChipFlow$Library"
  | 2 => .array .int
  | 3 => .array .int
  | 4 => .array .int
  | 5 => .array .int
  | 6 => .array .int
  | 7 => .array .int
  | 8 => .array .int
  | 9 => .array .int
  | 10 => .array .int
  | 11 => .int
  | 12 => .array .int
  | 13 => .int
  | 14 => .array .int
  | 15 => .array .int
  | 16 => .array .int
  | 17 => .array .int
  | _ => .array .int
set_option maxRecDepth 100000 in
theorem nmX6 : ∀ a, a < 19 → ∀ b, b < 19 → a ≠ b → (TX6 a).2.1 ≠ (TX6 b).2.1 := by decide +kernel
set_option maxRecDepth 100000 in
theorem tyX6_ok : ∀ k, k < 19 → parseFieldDescriptor (TX6 k).2.2.1 = some (tyX6 k) := by decide +kernel
set_option maxRecDepth 100000 in
theorem inX6 : ∀ w ∈ u_ws RX6 TX6 19, w ∈ BG := bg_sb (tb_app tb_1 tb_2) (by decide +kernel) (by decide +kernel)
def RX7 : String := "ChipFlow$Reader"
def TX7 : u_T := fun k => match k with
  | 0 => ("ChipFlow$Reader", "text", "LChipFlow$Text;", true)
  | 1 => ("ChipFlow$Reader", "code", "[I", true)
  | 2 => ("ChipFlow$Reader", "codeSize", "I", false)
  | 3 => ("ChipFlow$Reader", "modules", "I", false)
  | 4 => ("ChipFlow$Reader", "moduleName", "[I", true)
  | 5 => ("ChipFlow$Reader", "moduleCode", "[I", true)
  | 6 => ("ChipFlow$Reader", "moduleNames", "[I", true)
  | 7 => ("ChipFlow$Reader", "name", "[I", true)
  | 8 => ("ChipFlow$Reader", "sort", "[I", true)
  | 9 => ("ChipFlow$Reader", "width", "[I", true)
  | 10 => ("ChipFlow$Reader", "detail", "[I", true)
  | 11 => ("ChipFlow$Reader", "library", "LChipFlow$Library;", false)
  | 12 => ("ChipFlow$Reader", "opKind", "[I", true)
  | 13 => ("ChipFlow$Reader", "opPlace", "[I", true)
  | 14 => ("ChipFlow$Reader", "opTop", "I", false)
  | 15 => ("ChipFlow$Reader", "held", "[I", true)
  | 16 => ("ChipFlow$Reader", "heldTop", "I", false)
  | _ => ("ChipFlow$Reader", "open", "I", false)
def tyX7 : Nat → FieldType := fun k => match k with
  | 0 => .object "ChipFlow$Text"
  | 1 => .array .int
  | 2 => .int
  | 3 => .int
  | 4 => .array .int
  | 5 => .array .int
  | 6 => .array .int
  | 7 => .array .int
  | 8 => .array .int
  | 9 => .array .int
  | 10 => .array .int
  | 11 => .object "ChipFlow$Library"
  | 12 => .array .int
  | 13 => .array .int
  | 14 => .int
  | 15 => .array .int
  | 16 => .int
  | _ => .int
set_option maxRecDepth 100000 in
theorem nmX7 : ∀ a, a < 18 → ∀ b, b < 18 → a ≠ b → (TX7 a).2.1 ≠ (TX7 b).2.1 := by decide +kernel
set_option maxRecDepth 100000 in
theorem tyX7_ok : ∀ k, k < 18 → parseFieldDescriptor (TX7 k).2.2.1 = some (tyX7 k) := by decide +kernel
set_option maxRecDepth 100000 in
theorem inX7 : ∀ w ∈ u_ws RX7 TX7 18, w ∈ BG := bg_sb tb_1 (by decide +kernel) (by decide +kernel)
def RX8 : String := "ChipFlow$Router"
def TX8 : u_T := fun k => match k with
  | 0 => ("ChipFlow$Router", "board", "LChipFlow$Board;", false)
  | 1 => ("ChipFlow$Router", "width", "I", false)
  | 2 => ("ChipFlow$Router", "layerSize", "I", false)
  | 3 => ("ChipFlow$Router", "kept", "[I", true)
  | 4 => ("ChipFlow$Router", "distance", "[I", true)
  | 5 => ("ChipFlow$Router", "near", "[I", true)
  | 6 => ("ChipFlow$Router", "nearTail", "I", false)
  | 7 => ("ChipFlow$Router", "far", "[I", true)
  | 8 => ("ChipFlow$Router", "farTail", "I", false)
  | 9 => ("ChipFlow$Router", "way", "[I", true)
  | 10 => ("ChipFlow$Router", "tree", "[I", true)
  | 11 => ("ChipFlow$Router", "treeSize", "I", false)
  | 12 => ("ChipFlow$Router", "row", "[I", true)
  | _ => ("ChipFlow$Router", "rowSize", "I", false)
def tyX8 : Nat → FieldType := fun k => match k with
  | 0 => .object "ChipFlow$Board"
  | 1 => .int
  | 2 => .int
  | 3 => .array .int
  | 4 => .array .int
  | 5 => .array .int
  | 6 => .int
  | 7 => .array .int
  | 8 => .int
  | 9 => .array .int
  | 10 => .array .int
  | 11 => .int
  | 12 => .array .int
  | _ => .int
set_option maxRecDepth 100000 in
theorem nmX8 : ∀ a, a < 14 → ∀ b, b < 14 → a ≠ b → (TX8 a).2.1 ≠ (TX8 b).2.1 := by decide +kernel
set_option maxRecDepth 100000 in
theorem tyX8_ok : ∀ k, k < 14 → parseFieldDescriptor (TX8 k).2.2.1 = some (tyX8 k) := by decide +kernel
set_option maxRecDepth 100000 in
theorem inX8 : ∀ w ∈ u_ws RX8 TX8 14, w ∈ BG := bg_sb tb_2 (by decide +kernel) (by decide +kernel)
def RX9 : String := "ChipFlow$Tester"
def TX9 : u_T := fun k => match k with
  | 0 => ("ChipFlow$Tester", "chip", "LChipFlow$Chip;", false)
  | 1 => ("ChipFlow$Tester", "stamp", "I", false)
  | 2 => ("ChipFlow$Tester", "words", "I", false)
  | 3 => ("ChipFlow$Tester", "mask", "J", false)
  | 4 => ("ChipFlow$Tester", "good", "[J", true)
  | 5 => ("ChipFlow$Tester", "bad", "[J", true)
  | 6 => ("ChipFlow$Tester", "touched", "[I", true)
  | 7 => ("ChipFlow$Tester", "shown", "[J", true)
  | 8 => ("ChipFlow$Tester", "ready", "[I", true)
  | _ => ("ChipFlow$Tester", "tally", "[I", true)
def tyX9 : Nat → FieldType := fun k => match k with
  | 0 => .object "ChipFlow$Chip"
  | 1 => .int
  | 2 => .int
  | 3 => .long
  | 4 => .array .long
  | 5 => .array .long
  | 6 => .array .int
  | 7 => .array .long
  | 8 => .array .int
  | _ => .array .int
set_option maxRecDepth 100000 in
theorem nmX9 : ∀ a, a < 10 → ∀ b, b < 10 → a ≠ b → (TX9 a).2.1 ≠ (TX9 b).2.1 := by decide +kernel
set_option maxRecDepth 100000 in
theorem tyX9_ok : ∀ k, k < 10 → parseFieldDescriptor (TX9 k).2.2.1 = some (tyX9 k) := by decide +kernel
set_option maxRecDepth 100000 in
theorem inX9 : ∀ w ∈ u_ws RX9 TX9 10, w ∈ BG := bg_sb tb_2 (by decide +kernel) (by decide +kernel)
def RX10 : String := "ChipFlow$Text"
def TX10 : u_T := fun k => match k with
  | 0 => ("ChipFlow$Text", "bytes", "[B", true)
  | 1 => ("ChipFlow$Text", "length", "I", false)
  | 2 => ("ChipFlow$Text", "kind", "I", false)
  | 3 => ("ChipFlow$Text", "start", "I", false)
  | 4 => ("ChipFlow$Text", "size", "I", false)
  | 5 => ("ChipFlow$Text", "value", "I", false)
  | 6 => ("ChipFlow$Text", "faultCode", "I", false)
  | 7 => ("ChipFlow$Text", "faultPlace", "I", false)
  | _ => ("ChipFlow$Text", "next", "I", false)
def tyX10 : Nat → FieldType := fun k => match k with
  | 0 => .array .byte
  | 1 => .int
  | 2 => .int
  | 3 => .int
  | 4 => .int
  | 5 => .int
  | 6 => .int
  | 7 => .int
  | _ => .int
set_option maxRecDepth 100000 in
theorem nmX10 : ∀ a, a < 9 → ∀ b, b < 9 → a ≠ b → (TX10 a).2.1 ≠ (TX10 b).2.1 := by decide +kernel
set_option maxRecDepth 100000 in
theorem tyX10_ok : ∀ k, k < 9 → parseFieldDescriptor (TX10 k).2.2.1 = some (tyX10 k) := by decide +kernel
set_option maxRecDepth 100000 in
theorem inX10 : ∀ w ∈ u_ws RX10 TX10 9, w ∈ BG := bg_sb tb_1 (by decide +kernel) (by decide +kernel)
def RX11 : String := "ChipFlow$Times"
def TX11 : u_T := fun k => match k with
  | 0 => ("ChipFlow$Times", "time", "[I", true)
  | 1 => ("ChipFlow$Times", "arrive", "[I", true)
  | 2 => ("ChipFlow$Times", "rest", "[I", true)
  | 3 => ("ChipFlow$Times", "pathChip", "LChipFlow$Chip;", false)
  | 4 => ("ChipFlow$Times", "pathStamp", "I", false)
  | 5 => ("ChipFlow$Times", "pathCount", "I", false)
  | 6 => ("ChipFlow$Times", "order", "[I", true)
  | 7 => ("ChipFlow$Times", "bound", "[I", true)
  | 8 => ("ChipFlow$Times", "size", "[I", true)
  | 9 => ("ChipFlow$Times", "rows", "[I", true)
  | 10 => ("ChipFlow$Times", "trail", "[I", true)
  | 11 => ("ChipFlow$Times", "trailSize", "I", false)
  | 12 => ("ChipFlow$Times", "waveChip", "LChipFlow$Chip;", false)
  | 13 => ("ChipFlow$Times", "waveStamp", "I", false)
  | 14 => ("ChipFlow$Times", "waveA", "I", false)
  | 15 => ("ChipFlow$Times", "waveB", "I", false)
  | 16 => ("ChipFlow$Times", "waveTooLong", "Z", false)
  | 17 => ("ChipFlow$Times", "before", "[I", true)
  | 18 => ("ChipFlow$Times", "waveFrom", "[I", true)
  | _ => ("ChipFlow$Times", "change", "[I", true)
def tyX11 : Nat → FieldType := fun k => match k with
  | 0 => .array .int
  | 1 => .array .int
  | 2 => .array .int
  | 3 => .object "ChipFlow$Chip"
  | 4 => .int
  | 5 => .int
  | 6 => .array .int
  | 7 => .array .int
  | 8 => .array .int
  | 9 => .array .int
  | 10 => .array .int
  | 11 => .int
  | 12 => .object "ChipFlow$Chip"
  | 13 => .int
  | 14 => .int
  | 15 => .int
  | 16 => .boolean
  | 17 => .array .int
  | 18 => .array .int
  | _ => .array .int
set_option maxRecDepth 100000 in
theorem nmX11 : ∀ a, a < 20 → ∀ b, b < 20 → a ≠ b → (TX11 a).2.1 ≠ (TX11 b).2.1 := by decide +kernel
set_option maxRecDepth 100000 in
theorem tyX11_ok : ∀ k, k < 20 → parseFieldDescriptor (TX11 k).2.2.1 = some (tyX11 k) := by decide +kernel
set_option maxRecDepth 100000 in
theorem inX11 : ∀ w ∈ u_ws RX11 TX11 20, w ∈ BG := bg_sb tb_2 (by decide +kernel) (by decide +kernel)
def RX12 : String := "ChipFlow"
def TX12 : u_T := fun k => match k with
  | 0 => ("ChipFlow", "text", "LChipFlow$Text;", true)
  | 1 => ("ChipFlow", "reader", "LChipFlow$Reader;", true)
  | 2 => ("ChipFlow", "builder", "LChipFlow$Builder;", true)
  | 3 => ("ChipFlow", "mapper", "LChipFlow$Mapper;", true)
  | 4 => ("ChipFlow", "router", "LChipFlow$Router;", true)
  | 5 => ("ChipFlow", "times", "LChipFlow$Times;", true)
  | 6 => ("ChipFlow", "tester", "LChipFlow$Tester;", true)
  | 7 => ("ChipFlow", "designs", "[LChipFlow$Design;", true)
  | 8 => ("ChipFlow", "libraries", "[LChipFlow$Library;", true)
  | 9 => ("ChipFlow", "chips", "[LChipFlow$Chip;", true)
  | 10 => ("ChipFlow", "lastFault", "I", false)
  | 11 => ("ChipFlow", "pairFrom", "[I", true)
  | 12 => ("ChipFlow", "pairInput", "[I", true)
  | 13 => ("ChipFlow", "pairQueue", "[I", true)
  | 14 => ("ChipFlow", "silence", "[I", true)
  | 15 => ("ChipFlow", "witnessInputs", "[I", true)
  | _ => ("ChipFlow", "witnessSize", "I", false)
def tyX12 : Nat → FieldType := fun k => match k with
  | 0 => .object "ChipFlow$Text"
  | 1 => .object "ChipFlow$Reader"
  | 2 => .object "ChipFlow$Builder"
  | 3 => .object "ChipFlow$Mapper"
  | 4 => .object "ChipFlow$Router"
  | 5 => .object "ChipFlow$Times"
  | 6 => .object "ChipFlow$Tester"
  | 7 => .array (.object "ChipFlow$Design")
  | 8 => .array (.object "ChipFlow$Library")
  | 9 => .array (.object "ChipFlow$Chip")
  | 10 => .int
  | 11 => .array .int
  | 12 => .array .int
  | 13 => .array .int
  | 14 => .array .int
  | 15 => .array .int
  | _ => .int
set_option maxRecDepth 100000 in
theorem nmX12 : ∀ a, a < 17 → ∀ b, b < 17 → a ≠ b → (TX12 a).2.1 ≠ (TX12 b).2.1 := by decide +kernel
set_option maxRecDepth 100000 in
theorem tyX12_ok : ∀ k, k < 17 → parseFieldDescriptor (TX12 k).2.2.1 = some (tyX12 k) := by decide +kernel
set_option maxRecDepth 100000 in
theorem inX12 : ∀ w ∈ u_ws RX12 TX12 17, w ∈ BG := bg_sb tb_4 (by decide +kernel) (by decide +kernel)
def RX13 : String := "ChipFlowModel"
def TX13 : u_T := fun k => match k with
  | 0 => ("ChipFlowModel", "code", "I", false)
  | 1 => ("ChipFlowModel", "tape", "[B", true)
  | 2 => ("ChipFlowModel", "size", "I", false)
  | 3 => ("ChipFlowModel", "tokens", "I", false)
  | 4 => ("ChipFlowModel", "sorts", "[B", true)
  | 5 => ("ChipFlowModel", "places", "[I", true)
  | 6 => ("ChipFlowModel", "numbers", "[I", true)
  | 7 => ("ChipFlowModel", "firsts", "[J", true)
  | 8 => ("ChipFlowModel", "seconds", "[I", true)
  | 9 => ("ChipFlowModel", "at", "I", false)
  | 10 => ("ChipFlowModel", "fault", "I", false)
  | 11 => ("ChipFlowModel", "faultPlace", "I", false)
  | 12 => ("ChipFlowModel", "modules", "I", false)
  | 13 => ("ChipFlowModel", "moduleTokens", "[I", true)
  | 14 => ("ChipFlowModel", "bodies", "[I", true)
  | 15 => ("ChipFlowModel", "nameCounts", "[I", true)
  | 16 => ("ChipFlowModel", "nameTokens", "[I", true)
  | 17 => ("ChipFlowModel", "nameSorts", "[I", true)
  | 18 => ("ChipFlowModel", "nameWidths", "[I", true)
  | 19 => ("ChipFlowModel", "nameThings", "[I", true)
  | 20 => ("ChipFlowModel", "nameSet", "[Z", true)
  | 21 => ("ChipFlowModel", "inBits", "[I", true)
  | 22 => ("ChipFlowModel", "outBits", "[I", true)
  | 23 => ("ChipFlowModel", "regBits", "[I", true)
  | 24 => ("ChipFlowModel", "instances", "[I", true)
  | 25 => ("ChipFlowModel", "newToken", "I", false)
  | 26 => ("ChipFlowModel", "newWidth", "I", false)
  | 27 => ("ChipFlowModel", "mode", "I", false)
  | 28 => ("ChipFlowModel", "module", "I", false)
  | 29 => ("ChipFlowModel", "frame", "I", false)
  | 30 => ("ChipFlowModel", "waits", "[I", true)
  | 31 => ("ChipFlowModel", "waitTokens", "[I", true)
  | 32 => ("ChipFlowModel", "waiting", "I", false)
  | 33 => ("ChipFlowModel", "openCount", "I", false)
  | 34 => ("ChipFlowModel", "values", "I", false)
  | 35 => ("ChipFlowModel", "widths", "[I", true)
  | 36 => ("ChipFlowModel", "literals", "[I", true)
  | 37 => ("ChipFlowModel", "nodes", "I", false)
  | 38 => ("ChipFlowModel", "firstAnd", "I", false)
  | 39 => ("ChipFlowModel", "stateBits", "I", false)
  | 40 => ("ChipFlowModel", "lesser", "[I", true)
  | 41 => ("ChipFlowModel", "other", "[I", true)
  | 42 => ("ChipFlowModel", "chained", "[I", true)
  | 43 => ("ChipFlowModel", "nextChained", "[I", true)
  | 44 => ("ChipFlowModel", "frameValues", "[I", true)
  | 45 => ("ChipFlowModel", "instanceValues", "[I", true)
  | 46 => ("ChipFlowModel", "frameModules", "[I", true)
  | 47 => ("ChipFlowModel", "frameTokens", "[I", true)
  | 48 => ("ChipFlowModel", "frameNames", "[I", true)
  | 49 => ("ChipFlowModel", "frameTold", "[I", true)
  | 50 => ("ChipFlowModel", "registerBits", "[I", true)
  | 51 => ("ChipFlowModel", "nexts", "[I", true)
  | 52 => ("ChipFlowModel", "beginning", "I", false)
  | 53 => ("ChipFlowModel", "usedBits", "I", false)
  | 54 => ("ChipFlowModel", "arguments", "[I", true)
  | 55 => ("ChipFlowModel", "designThere", "[Z", true)
  | 56 => ("ChipFlowModel", "designIn", "[I", true)
  | 57 => ("ChipFlowModel", "designState", "[I", true)
  | 58 => ("ChipFlowModel", "designOut", "[I", true)
  | 59 => ("ChipFlowModel", "designBegin", "[I", true)
  | 60 => ("ChipFlowModel", "designNow", "[I", true)
  | 61 => ("ChipFlowModel", "designNodes", "[I", true)
  | 62 => ("ChipFlowModel", "designFirst", "[I", true)
  | 63 => ("ChipFlowModel", "designDepth", "[I", true)
  | 64 => ("ChipFlowModel", "designSweptAnds", "[I", true)
  | 65 => ("ChipFlowModel", "designReached", "[I", true)
  | 66 => ("ChipFlowModel", "keptLesser", "[I", true)
  | 67 => ("ChipFlowModel", "keptOther", "[I", true)
  | 68 => ("ChipFlowModel", "keptSwept", "[I", true)
  | 69 => ("ChipFlowModel", "outLiterals", "[I", true)
  | 70 => ("ChipFlowModel", "nextLiterals", "[I", true)
  | 71 => ("ChipFlowModel", "outTables", "[I", true)
  | 72 => ("ChipFlowModel", "nextTables", "[I", true)
  | 73 => ("ChipFlowModel", "functions", "[J", true)
  | 74 => ("ChipFlowModel", "sweptOf", "[I", true)
  | 75 => ("ChipFlowModel", "isNeeded", "[Z", true)
  | 76 => ("ChipFlowModel", "depths", "[I", true)
  | 77 => ("ChipFlowModel", "roots", "[I", true)
  | 78 => ("ChipFlowModel", "isReached", "[Z", true)
  | 79 => ("ChipFlowModel", "lastFault", "I", false)
  | 80 => ("ChipFlowModel", "cellInputs", "I", false)
  | 81 => ("ChipFlowModel", "inputTokens", "[I", true)
  | 82 => ("ChipFlowModel", "cellTokens", "[I", true)
  | 83 => ("ChipFlowModel", "newCells", "I", false)
  | 84 => ("ChipFlowModel", "newInputs", "[I", true)
  | 85 => ("ChipFlowModel", "newFunctions", "[I", true)
  | 86 => ("ChipFlowModel", "newAreas", "[I", true)
  | 87 => ("ChipFlowModel", "newDelays", "[I", true)
  | 88 => ("ChipFlowModel", "libraryThere", "[Z", true)
  | 89 => ("ChipFlowModel", "libraryCells", "[I", true)
  | 90 => ("ChipFlowModel", "cellInputsOf", "[I", true)
  | 91 => ("ChipFlowModel", "cellFunctions", "[I", true)
  | 92 => ("ChipFlowModel", "cellAreas", "[I", true)
  | 93 => ("ChipFlowModel", "cellDelays", "[I", true)
  | 94 => ("ChipFlowModel", "witnessRow", "[I", true)
  | 95 => ("ChipFlowModel", "witnessCount", "I", false)
  | 96 => ("ChipFlowModel", "outsA", "[I", true)
  | 97 => ("ChipFlowModel", "nextsA", "[I", true)
  | 98 => ("ChipFlowModel", "outsB", "[I", true)
  | 99 => ("ChipFlowModel", "nextsB", "[I", true)
  | 100 => ("ChipFlowModel", "queue", "[I", true)
  | 101 => ("ChipFlowModel", "parents", "[I", true)
  | 102 => ("ChipFlowModel", "byInput", "[I", true)
  | 103 => ("ChipFlowModel", "clocks", "[I", true)
  | 104 => ("ChipFlowModel", "isSeen", "[Z", true)
  | 105 => ("ChipFlowModel", "from", "I", false)
  | 106 => ("ChipFlowModel", "library", "I", false)
  | 107 => ("ChipFlowModel", "inverter", "I", false)
  | 108 => ("ChipFlowModel", "inverterArea", "I", false)
  | 109 => ("ChipFlowModel", "sideA", "[I", true)
  | 110 => ("ChipFlowModel", "sideB", "[I", true)
  | 111 => ("ChipFlowModel", "uses", "[I", true)
  | 112 => ("ChipFlowModel", "isWanted", "[Z", true)
  | 113 => ("ChipFlowModel", "isRoot", "[Z", true)
  | 114 => ("ChipFlowModel", "cutCount", "I", false)
  | 115 => ("ChipFlowModel", "cutSizes", "[I", true)
  | 116 => ("ChipFlowModel", "cutNodes", "[I", true)
  | 117 => ("ChipFlowModel", "wayCosts", "[I", true)
  | 118 => ("ChipFlowModel", "wayCells", "[I", true)
  | 119 => ("ChipFlowModel", "wayNodes", "[I", true)
  | 120 => ("ChipFlowModel", "wayTurns", "[I", true)
  | 121 => ("ChipFlowModel", "needs", "[I", true)
  | 122 => ("ChipFlowModel", "isTurnedWay", "[Z", true)
  | 123 => ("ChipFlowModel", "trialSize", "I", false)
  | 124 => ("ChipFlowModel", "trial", "[I", true)
  | 125 => ("ChipFlowModel", "marks", "[I", true)
  | 126 => ("ChipFlowModel", "tables", "[I", true)
  | 127 => ("ChipFlowModel", "round", "I", false)
  | 128 => ("ChipFlowModel", "cutFunctions", "[I", true)
  | 129 => ("ChipFlowModel", "gates", "I", false)
  | 130 => ("ChipFlowModel", "madeCells", "[I", true)
  | 131 => ("ChipFlowModel", "madeNets", "[I", true)
  | 132 => ("ChipFlowModel", "gateNets", "[I", true)
  | 133 => ("ChipFlowModel", "turnedNets", "[I", true)
  | 134 => ("ChipFlowModel", "isLacking", "Z", false)
  | 135 => ("ChipFlowModel", "jobs", "[I", true)
  | 136 => ("ChipFlowModel", "jobSorts", "[I", true)
  | 137 => ("ChipFlowModel", "jobCount", "I", false)
  | 138 => ("ChipFlowModel", "chipThere", "[Z", true)
  | 139 => ("ChipFlowModel", "chipIn", "[I", true)
  | 140 => ("ChipFlowModel", "chipState", "[I", true)
  | 141 => ("ChipFlowModel", "chipOut", "[I", true)
  | 142 => ("ChipFlowModel", "chipBegin", "[I", true)
  | 143 => ("ChipFlowModel", "chipNow", "[I", true)
  | 144 => ("ChipFlowModel", "gateCounts", "[I", true)
  | 145 => ("ChipFlowModel", "gateCells", "[I", true)
  | 146 => ("ChipFlowModel", "gateInputs", "[I", true)
  | 147 => ("ChipFlowModel", "outNets", "[I", true)
  | 148 => ("ChipFlowModel", "nextNets", "[I", true)
  | 149 => ("ChipFlowModel", "ownCells", "[I", true)
  | 150 => ("ChipFlowModel", "ownInputs", "[I", true)
  | 151 => ("ChipFlowModel", "ownFunctions", "[I", true)
  | 152 => ("ChipFlowModel", "ownAreas", "[I", true)
  | 153 => ("ChipFlowModel", "ownDelays", "[I", true)
  | 154 => ("ChipFlowModel", "netWords", "[J", true)
  | 155 => ("ChipFlowModel", "siteCounts", "[I", true)
  | 156 => ("ChipFlowModel", "placedRows", "[I", true)
  | 157 => ("ChipFlowModel", "sites", "[I", true)
  | 158 => ("ChipFlowModel", "rows", "[I", true)
  | 159 => ("ChipFlowModel", "pins", "I", false)
  | 160 => ("ChipFlowModel", "pinNets", "[I", true)
  | 161 => ("ChipFlowModel", "pinX", "[I", true)
  | 162 => ("ChipFlowModel", "pinY", "[I", true)
  | 163 => ("ChipFlowModel", "pinCounts", "[I", true)
  | 164 => ("ChipFlowModel", "leftMost", "[I", true)
  | 165 => ("ChipFlowModel", "rightMost", "[I", true)
  | 166 => ("ChipFlowModel", "topMost", "[I", true)
  | 167 => ("ChipFlowModel", "lowMost", "[I", true)
  | 168 => ("ChipFlowModel", "isRouted", "[Z", true)
  | 169 => ("ChipFlowModel", "pointNets", "[I", true)
  | 170 => ("ChipFlowModel", "stepsX", "[Z", true)
  | 171 => ("ChipFlowModel", "stepsY", "[Z", true)
  | 172 => ("ChipFlowModel", "vias", "[Z", true)
  | 173 => ("ChipFlowModel", "isOpen", "[Z", true)
  | 174 => ("ChipFlowModel", "wide", "I", false)
  | 175 => ("ChipFlowModel", "high", "I", false)
  | 176 => ("ChipFlowModel", "all", "I", false)
  | 177 => ("ChipFlowModel", "chipAt", "I", false)
  | 178 => ("ChipFlowModel", "keptFor", "[I", true)
  | 179 => ("ChipFlowModel", "distances", "[I", true)
  | 180 => ("ChipFlowModel", "line", "[I", true)
  | 181 => ("ChipFlowModel", "inLine", "[Z", true)
  | 182 => ("ChipFlowModel", "way", "[I", true)
  | 183 => ("ChipFlowModel", "netRow", "[I", true)
  | 184 => ("ChipFlowModel", "netRowCount", "I", false)
  | 185 => ("ChipFlowModel", "isDrawn", "[Z", true)
  | 186 => ("ChipFlowModel", "boxCounts", "[I", true)
  | 187 => ("ChipFlowModel", "boxes", "[I", true)
  | 188 => ("ChipFlowModel", "drawn", "I", false)
  | 189 => ("ChipFlowModel", "isCounting", "Z", false)
  | 190 => ("ChipFlowModel", "one", "I", false)
  | 191 => ("ChipFlowModel", "two", "I", false)
  | 192 => ("ChipFlowModel", "parts", "[I", true)
  | 193 => ("ChipFlowModel", "isShort", "[Z", true)
  | 194 => ("ChipFlowModel", "isApart", "[Z", true)
  | 195 => ("ChipFlowModel", "hasPin", "[Z", true)
  | 196 => ("ChipFlowModel", "times", "[I", true)
  | 197 => ("ChipFlowModel", "arrivals", "[I", true)
  | 198 => ("ChipFlowModel", "falseCount", "[I", true)
  | 199 => ("ChipFlowModel", "falseNets", "[I", true)
  | 200 => ("ChipFlowModel", "falseEnds", "[I", true)
  | 201 => ("ChipFlowModel", "tailCounts", "[I", true)
  | 202 => ("ChipFlowModel", "tailLengths", "[I", true)
  | 203 => ("ChipFlowModel", "tailNexts", "[I", true)
  | 204 => ("ChipFlowModel", "tailPlaces", "[I", true)
  | 205 => ("ChipFlowModel", "pointers", "[I", true)
  | 206 => ("ChipFlowModel", "chosen", "I", false)
  | 207 => ("ChipFlowModel", "chosenNets", "[I", true)
  | 208 => ("ChipFlowModel", "chosenEnds", "[I", true)
  | 209 => ("ChipFlowModel", "chosenTails", "[I", true)
  | 210 => ("ChipFlowModel", "heads", "[I", true)
  | 211 => ("ChipFlowModel", "rest", "[Z", true)
  | 212 => ("ChipFlowModel", "changeTimes", "[I", true)
  | 213 => ("ChipFlowModel", "changeStarts", "[I", true)
  | 214 => ("ChipFlowModel", "changeCount", "I", false)
  | 215 => ("ChipFlowModel", "comes", "[I", true)
  | 216 => ("ChipFlowModel", "stand", "[Z", true)
  | 217 => ("ChipFlowModel", "setCount", "[I", true)
  | 218 => ("ChipFlowModel", "setPatterns", "[I", true)
  | 219 => ("ChipFlowModel", "setFails", "[Z", true)
  | 220 => ("ChipFlowModel", "setShows", "[J", true)
  | 221 => ("ChipFlowModel", "stuckNet", "I", false)
  | 222 => ("ChipFlowModel", "stuckPin", "I", false)
  | 223 => ("ChipFlowModel", "rightWords", "[J", true)
  | _ => ("ChipFlowModel", "leastKept", "[I", true)
def tyX13 : Nat → FieldType := fun k => match k with
  | 0 => .int
  | 1 => .array .byte
  | 2 => .int
  | 3 => .int
  | 4 => .array .byte
  | 5 => .array .int
  | 6 => .array .int
  | 7 => .array .long
  | 8 => .array .int
  | 9 => .int
  | 10 => .int
  | 11 => .int
  | 12 => .int
  | 13 => .array .int
  | 14 => .array .int
  | 15 => .array .int
  | 16 => .array .int
  | 17 => .array .int
  | 18 => .array .int
  | 19 => .array .int
  | 20 => .array .boolean
  | 21 => .array .int
  | 22 => .array .int
  | 23 => .array .int
  | 24 => .array .int
  | 25 => .int
  | 26 => .int
  | 27 => .int
  | 28 => .int
  | 29 => .int
  | 30 => .array .int
  | 31 => .array .int
  | 32 => .int
  | 33 => .int
  | 34 => .int
  | 35 => .array .int
  | 36 => .array .int
  | 37 => .int
  | 38 => .int
  | 39 => .int
  | 40 => .array .int
  | 41 => .array .int
  | 42 => .array .int
  | 43 => .array .int
  | 44 => .array .int
  | 45 => .array .int
  | 46 => .array .int
  | 47 => .array .int
  | 48 => .array .int
  | 49 => .array .int
  | 50 => .array .int
  | 51 => .array .int
  | 52 => .int
  | 53 => .int
  | 54 => .array .int
  | 55 => .array .boolean
  | 56 => .array .int
  | 57 => .array .int
  | 58 => .array .int
  | 59 => .array .int
  | 60 => .array .int
  | 61 => .array .int
  | 62 => .array .int
  | 63 => .array .int
  | 64 => .array .int
  | 65 => .array .int
  | 66 => .array .int
  | 67 => .array .int
  | 68 => .array .int
  | 69 => .array .int
  | 70 => .array .int
  | 71 => .array .int
  | 72 => .array .int
  | 73 => .array .long
  | 74 => .array .int
  | 75 => .array .boolean
  | 76 => .array .int
  | 77 => .array .int
  | 78 => .array .boolean
  | 79 => .int
  | 80 => .int
  | 81 => .array .int
  | 82 => .array .int
  | 83 => .int
  | 84 => .array .int
  | 85 => .array .int
  | 86 => .array .int
  | 87 => .array .int
  | 88 => .array .boolean
  | 89 => .array .int
  | 90 => .array .int
  | 91 => .array .int
  | 92 => .array .int
  | 93 => .array .int
  | 94 => .array .int
  | 95 => .int
  | 96 => .array .int
  | 97 => .array .int
  | 98 => .array .int
  | 99 => .array .int
  | 100 => .array .int
  | 101 => .array .int
  | 102 => .array .int
  | 103 => .array .int
  | 104 => .array .boolean
  | 105 => .int
  | 106 => .int
  | 107 => .int
  | 108 => .int
  | 109 => .array .int
  | 110 => .array .int
  | 111 => .array .int
  | 112 => .array .boolean
  | 113 => .array .boolean
  | 114 => .int
  | 115 => .array .int
  | 116 => .array .int
  | 117 => .array .int
  | 118 => .array .int
  | 119 => .array .int
  | 120 => .array .int
  | 121 => .array .int
  | 122 => .array .boolean
  | 123 => .int
  | 124 => .array .int
  | 125 => .array .int
  | 126 => .array .int
  | 127 => .int
  | 128 => .array .int
  | 129 => .int
  | 130 => .array .int
  | 131 => .array .int
  | 132 => .array .int
  | 133 => .array .int
  | 134 => .boolean
  | 135 => .array .int
  | 136 => .array .int
  | 137 => .int
  | 138 => .array .boolean
  | 139 => .array .int
  | 140 => .array .int
  | 141 => .array .int
  | 142 => .array .int
  | 143 => .array .int
  | 144 => .array .int
  | 145 => .array .int
  | 146 => .array .int
  | 147 => .array .int
  | 148 => .array .int
  | 149 => .array .int
  | 150 => .array .int
  | 151 => .array .int
  | 152 => .array .int
  | 153 => .array .int
  | 154 => .array .long
  | 155 => .array .int
  | 156 => .array .int
  | 157 => .array .int
  | 158 => .array .int
  | 159 => .int
  | 160 => .array .int
  | 161 => .array .int
  | 162 => .array .int
  | 163 => .array .int
  | 164 => .array .int
  | 165 => .array .int
  | 166 => .array .int
  | 167 => .array .int
  | 168 => .array .boolean
  | 169 => .array .int
  | 170 => .array .boolean
  | 171 => .array .boolean
  | 172 => .array .boolean
  | 173 => .array .boolean
  | 174 => .int
  | 175 => .int
  | 176 => .int
  | 177 => .int
  | 178 => .array .int
  | 179 => .array .int
  | 180 => .array .int
  | 181 => .array .boolean
  | 182 => .array .int
  | 183 => .array .int
  | 184 => .int
  | 185 => .array .boolean
  | 186 => .array .int
  | 187 => .array .int
  | 188 => .int
  | 189 => .boolean
  | 190 => .int
  | 191 => .int
  | 192 => .array .int
  | 193 => .array .boolean
  | 194 => .array .boolean
  | 195 => .array .boolean
  | 196 => .array .int
  | 197 => .array .int
  | 198 => .array .int
  | 199 => .array .int
  | 200 => .array .int
  | 201 => .array .int
  | 202 => .array .int
  | 203 => .array .int
  | 204 => .array .int
  | 205 => .array .int
  | 206 => .int
  | 207 => .array .int
  | 208 => .array .int
  | 209 => .array .int
  | 210 => .array .int
  | 211 => .array .boolean
  | 212 => .array .int
  | 213 => .array .int
  | 214 => .int
  | 215 => .array .int
  | 216 => .array .boolean
  | 217 => .array .int
  | 218 => .array .int
  | 219 => .array .boolean
  | 220 => .array .long
  | 221 => .int
  | 222 => .int
  | 223 => .array .long
  | _ => .array .int
set_option maxRecDepth 100000 in
theorem nmX13 : ∀ a, a < 225 → ∀ b, b < 225 → a ≠ b → (TX13 a).2.1 ≠ (TX13 b).2.1 := by decide +kernel
set_option maxRecDepth 100000 in
theorem tyX13_ok : ∀ k, k < 225 → parseFieldDescriptor (TX13 k).2.2.1 = some (tyX13 k) := by decide +kernel
set_option maxRecDepth 100000 in
theorem inX13 : ∀ w ∈ u_ws RX13 TX13 225, w ∈ BG := bg_sb (tb_app tb_13 (tb_app tb_14 tb_15)) (by decide +kernel) (by decide +kernel)
abbrev CL : List vw_C := [(RX0, TX0, 19), (RX1, TX1, 15), (RX2, TX2, 20), (RX3, TX3, 16), (RX4, TX4, 18), (RX5, TX5, 7), (RX6, TX6, 19), (RX7, TX7, 18), (RX8, TX8, 14), (RX9, TX9, 10), (RX10, TX10, 9), (RX11, TX11, 20), (RX12, TX12, 17), (RX13, TX13, 225)]
