theorem tb_0 : ∀ w ∈ k2_sels lw_privs, w ∈ lw_tbl := fun _ h => List.mem_append_left _ h
theorem tb_1 : ∀ w ∈ tables_1_1, w ∈ lw_tbl := fun _ h => List.mem_append_right _ (List.mem_append_left _ h)
theorem tb_2 : ∀ w ∈ tables_1_2, w ∈ lw_tbl := fun _ h => List.mem_append_right _ (List.mem_append_right _ (List.mem_append_left _ h))
theorem tb_3 : ∀ w ∈ tables_1_3, w ∈ lw_tbl := fun _ h => List.mem_append_right _ (List.mem_append_right _ (List.mem_append_right _ (List.mem_append_left _ h)))
theorem tb_4 : ∀ w ∈ tables_1_4, w ∈ lw_tbl := fun _ h => List.mem_append_right _ (List.mem_append_right _ (List.mem_append_right _ (List.mem_append_right _ (List.mem_append_left _ h))))
theorem tb_5 : ∀ w ∈ tables_1_5, w ∈ lw_tbl := fun _ h => List.mem_append_right _ (List.mem_append_right _ (List.mem_append_right _ (List.mem_append_right _ (List.mem_append_right _ (List.mem_append_left _ h)))))
theorem tb_6 : ∀ w ∈ tables_1_6, w ∈ lw_tbl := fun _ h => List.mem_append_right _ (List.mem_append_right _ (List.mem_append_right _ (List.mem_append_right _ (List.mem_append_right _ (List.mem_append_right _ (List.mem_append_left _ h))))))
theorem tb_7 : ∀ w ∈ tables_1_7, w ∈ lw_tbl := fun _ h => List.mem_append_right _ (List.mem_append_right _ (List.mem_append_right _ (List.mem_append_right _ (List.mem_append_right _ (List.mem_append_right _ (List.mem_append_right _ (List.mem_append_left _ h)))))))
theorem tb_8 : ∀ w ∈ tables_1_8, w ∈ lw_tbl := fun _ h => List.mem_append_right _ (List.mem_append_right _ (List.mem_append_right _ (List.mem_append_right _ (List.mem_append_right _ (List.mem_append_right _ (List.mem_append_right _ (List.mem_append_right _ (List.mem_append_left _ h))))))))
theorem tb_9 : ∀ w ∈ tables_1_9, w ∈ lw_tbl := fun _ h => List.mem_append_right _ (List.mem_append_right _ (List.mem_append_right _ (List.mem_append_right _ (List.mem_append_right _ (List.mem_append_right _ (List.mem_append_right _ (List.mem_append_right _ (List.mem_append_right _ (List.mem_append_left _ h)))))))))
theorem tb_10 : ∀ w ∈ tables_1_10, w ∈ lw_tbl := fun _ h => List.mem_append_right _ (List.mem_append_right _ (List.mem_append_right _ (List.mem_append_right _ (List.mem_append_right _ (List.mem_append_right _ (List.mem_append_right _ (List.mem_append_right _ (List.mem_append_right _ (List.mem_append_right _ (List.mem_append_left _ h))))))))))
theorem tb_11 : ∀ w ∈ tables_1_11, w ∈ lw_tbl := fun _ h => List.mem_append_right _ (List.mem_append_right _ (List.mem_append_right _ (List.mem_append_right _ (List.mem_append_right _ (List.mem_append_right _ (List.mem_append_right _ (List.mem_append_right _ (List.mem_append_right _ (List.mem_append_right _ (List.mem_append_right _ (List.mem_append_left _ h)))))))))))
theorem tb_12 : ∀ w ∈ tables_1_12, w ∈ lw_tbl := fun _ h => List.mem_append_right _ (List.mem_append_right _ (List.mem_append_right _ (List.mem_append_right _ (List.mem_append_right _ (List.mem_append_right _ (List.mem_append_right _ (List.mem_append_right _ (List.mem_append_right _ (List.mem_append_right _ (List.mem_append_right _ (List.mem_append_right _ (List.mem_append_left _ h))))))))))))
theorem tb_13 : ∀ w ∈ tables_1_13, w ∈ lw_tbl := fun _ h => List.mem_append_right _ (List.mem_append_right _ (List.mem_append_right _ (List.mem_append_right _ (List.mem_append_right _ (List.mem_append_right _ (List.mem_append_right _ (List.mem_append_right _ (List.mem_append_right _ (List.mem_append_right _ (List.mem_append_right _ (List.mem_append_right _ (List.mem_append_right _ (List.mem_append_left _ h)))))))))))))
theorem tb_14 : ∀ w ∈ tables_1_14, w ∈ lw_tbl := fun _ h => List.mem_append_right _ (List.mem_append_right _ (List.mem_append_right _ (List.mem_append_right _ (List.mem_append_right _ (List.mem_append_right _ (List.mem_append_right _ (List.mem_append_right _ (List.mem_append_right _ (List.mem_append_right _ (List.mem_append_right _ (List.mem_append_right _ (List.mem_append_right _ (List.mem_append_right _ (List.mem_append_left _ h))))))))))))))
theorem tb_15 : ∀ w ∈ tables_1_15, w ∈ lw_tbl := fun _ h => List.mem_append_right _ (List.mem_append_right _ (List.mem_append_right _ (List.mem_append_right _ (List.mem_append_right _ (List.mem_append_right _ (List.mem_append_right _ (List.mem_append_right _ (List.mem_append_right _ (List.mem_append_right _ (List.mem_append_right _ (List.mem_append_right _ (List.mem_append_right _ (List.mem_append_right _ (List.mem_append_right _ (List.mem_append_left _ h)))))))))))))))
theorem tb_16 : ∀ w ∈ tables_1_16, w ∈ lw_tbl := fun _ h => List.mem_append_right _ (List.mem_append_right _ (List.mem_append_right _ (List.mem_append_right _ (List.mem_append_right _ (List.mem_append_right _ (List.mem_append_right _ (List.mem_append_right _ (List.mem_append_right _ (List.mem_append_right _ (List.mem_append_right _ (List.mem_append_right _ (List.mem_append_right _ (List.mem_append_right _ (List.mem_append_right _ (List.mem_append_right _ (List.mem_append_left _ h))))))))))))))))
theorem tb_17 : ∀ w ∈ tables_1_17, w ∈ lw_tbl := fun _ h => List.mem_append_right _ (List.mem_append_right _ (List.mem_append_right _ (List.mem_append_right _ (List.mem_append_right _ (List.mem_append_right _ (List.mem_append_right _ (List.mem_append_right _ (List.mem_append_right _ (List.mem_append_right _ (List.mem_append_right _ (List.mem_append_right _ (List.mem_append_right _ (List.mem_append_right _ (List.mem_append_right _ (List.mem_append_right _ (List.mem_append_right _ (List.mem_append_left _ h)))))))))))))))))
theorem tb_18 : ∀ w ∈ tables_1_18, w ∈ lw_tbl := fun _ h => List.mem_append_right _ (List.mem_append_right _ (List.mem_append_right _ (List.mem_append_right _ (List.mem_append_right _ (List.mem_append_right _ (List.mem_append_right _ (List.mem_append_right _ (List.mem_append_right _ (List.mem_append_right _ (List.mem_append_right _ (List.mem_append_right _ (List.mem_append_right _ (List.mem_append_right _ (List.mem_append_right _ (List.mem_append_right _ (List.mem_append_right _ (List.mem_append_right _ (List.mem_append_left _ h))))))))))))))))))
theorem tb_19 : ∀ w ∈ tables_1_19, w ∈ lw_tbl := fun _ h => List.mem_append_right _ (List.mem_append_right _ (List.mem_append_right _ (List.mem_append_right _ (List.mem_append_right _ (List.mem_append_right _ (List.mem_append_right _ (List.mem_append_right _ (List.mem_append_right _ (List.mem_append_right _ (List.mem_append_right _ (List.mem_append_right _ (List.mem_append_right _ (List.mem_append_right _ (List.mem_append_right _ (List.mem_append_right _ (List.mem_append_right _ (List.mem_append_right _ (List.mem_append_right _ h))))))))))))))))))
def RX0 : String := "ChipFlow$Board"
def TX0 : u_T := fun k => match k with
  | 0 => ("ChipFlow$Board", "sites", "I", false)
  | 1 => ("ChipFlow$Board", "rows", "I", false)
  | 2 => ("ChipFlow$Board", "height", "I", false)
  | 3 => ("ChipFlow$Board", "siteOf", "[I", true)
  | 4 => ("ChipFlow$Board", "rowOf", "[I", true)
  | 5 => ("ChipFlow$Board", "sizeOf", "[I", true)
  | 6 => ("ChipFlow$Board", "pinNet", "[I", true)
  | 7 => ("ChipFlow$Board", "pinsByNet", "[I", true)
  | 8 => ("ChipFlow$Board", "firstPin", "[I", true)
  | 9 => ("ChipFlow$Board", "netPins", "[I", true)
  | 10 => ("ChipFlow$Board", "netWire", "[I", true)
  | 11 => ("ChipFlow$Board", "routed", "Z", false)
  | 12 => ("ChipFlow$Board", "owner", "[I", true)
  | 13 => ("ChipFlow$Board", "steps", "[I", true)
  | 14 => ("ChipFlow$Board", "open", "[I", true)
  | 15 => ("ChipFlow$Board", "layout", "LChipFlow$Layout;", true)
  | 16 => ("ChipFlow$Board", "timeStamp", "I", false)
  | 17 => ("ChipFlow$Board", "touchedNets", "[I", true)
  | _ => ("ChipFlow$Board", "touchedCount", "I", false)
def tyX0 : Nat → FieldType := fun k => match k with
  | 0 => .int
  | 1 => .int
  | 2 => .int
  | 3 => .array .int
  | 4 => .array .int
  | 5 => .array .int
  | 6 => .array .int
  | 7 => .array .int
  | 8 => .array .int
  | 9 => .array .int
  | 10 => .array .int
  | 11 => .boolean
  | 12 => .array .int
  | 13 => .array .int
  | 14 => .array .int
  | 15 => .object "ChipFlow$Layout"
  | 16 => .int
  | 17 => .array .int
  | _ => .int
set_option maxRecDepth 100000 in
theorem nmX0 : ∀ a, a < 19 → ∀ b, b < 19 → a ≠ b → (TX0 a).2.1 ≠ (TX0 b).2.1 := by decide +kernel
set_option maxRecDepth 100000 in
theorem tyX0_ok : ∀ k, k < 19 → parseFieldDescriptor (TX0 k).2.2.1 = some (tyX0 k) := by decide +kernel
set_option maxRecDepth 100000 in
theorem inX0 : ∀ w ∈ u_ws RX0 TX0 19, w ∈ BG := bg_sb (tb_app tb_3 tb_4) (by decide +kernel) (by decide +kernel)
def RX1 : String := "ChipFlow$Builder"
def TX1 : u_T := fun k => match k with
  | 0 => ("ChipFlow$Builder", "reader", "LChipFlow$Reader;", true)
  | 1 => ("ChipFlow$Builder", "design", "LChipFlow$Design;", false)
  | 2 => ("ChipFlow$Builder", "frames", "[I", true)
  | 3 => ("ChipFlow$Builder", "frameCount", "I", false)
  | 4 => ("ChipFlow$Builder", "stack", "[I", true)
  | 5 => ("ChipFlow$Builder", "wide", "[I", true)
  | 6 => ("ChipFlow$Builder", "top", "I", false)
  | 7 => ("ChipFlow$Builder", "buckets", "[I", true)
  | 8 => ("ChipFlow$Builder", "full", "Z", false)
  | 9 => ("ChipFlow$Builder", "registersMade", "I", false)
  | 10 => ("ChipFlow$Builder", "instances", "[I", true)
  | 11 => ("ChipFlow$Builder", "registerBits", "[I", true)
  | 12 => ("ChipFlow$Builder", "rows", "[J", true)
  | 13 => ("ChipFlow$Builder", "words", "I", false)
  | _ => ("ChipFlow$Builder", "scratch", "[I", true)
def tyX1 : Nat → FieldType := fun k => match k with
  | 0 => .object "ChipFlow$Reader"
  | 1 => .object "ChipFlow$Design"
  | 2 => .array .int
  | 3 => .int
  | 4 => .array .int
  | 5 => .array .int
  | 6 => .int
  | 7 => .array .int
  | 8 => .boolean
  | 9 => .int
  | 10 => .array .int
  | 11 => .array .int
  | 12 => .array .long
  | 13 => .int
  | _ => .array .int
set_option maxRecDepth 100000 in
theorem nmX1 : ∀ a, a < 15 → ∀ b, b < 15 → a ≠ b → (TX1 a).2.1 ≠ (TX1 b).2.1 := by decide +kernel
set_option maxRecDepth 100000 in
theorem tyX1_ok : ∀ k, k < 15 → parseFieldDescriptor (TX1 k).2.2.1 = some (tyX1 k) := by decide +kernel
set_option maxRecDepth 100000 in
theorem inX1 : ∀ w ∈ u_ws RX1 TX1 15, w ∈ BG := bg_sb tb_1 (by decide +kernel) (by decide +kernel)
def RX2 : String := "ChipFlow$Chip"
def TX2 : u_T := fun k => match k with
  | 0 => ("ChipFlow$Chip", "used", "Z", false)
  | 1 => ("ChipFlow$Chip", "inputs", "I", false)
  | 2 => ("ChipFlow$Chip", "registers", "I", false)
  | 3 => ("ChipFlow$Chip", "outputs", "I", false)
  | 4 => ("ChipFlow$Chip", "beginning", "I", false)
  | 5 => ("ChipFlow$Chip", "current", "I", false)
  | 6 => ("ChipFlow$Chip", "table", "[I", true)
  | 7 => ("ChipFlow$Chip", "cells", "LChipFlow$Library;", true)
  | 8 => ("ChipFlow$Chip", "gates", "I", false)
  | 9 => ("ChipFlow$Chip", "gateCell", "[I", true)
  | 10 => ("ChipFlow$Chip", "gateNet", "[I", true)
  | 11 => ("ChipFlow$Chip", "outNet", "[I", true)
  | 12 => ("ChipFlow$Chip", "nextNet", "[I", true)
  | 13 => ("ChipFlow$Chip", "falseEnds", "[I", true)
  | 14 => ("ChipFlow$Chip", "falsePairs", "I", false)
  | 15 => ("ChipFlow$Chip", "setSize", "I", false)
  | 16 => ("ChipFlow$Chip", "setPattern", "[I", true)
  | 17 => ("ChipFlow$Chip", "setFails", "[I", true)
  | 18 => ("ChipFlow$Chip", "board", "LChipFlow$Board;", true)
  | _ => ("ChipFlow$Chip", "logicStamp", "I", false)
def tyX2 : Nat → FieldType := fun k => match k with
  | 0 => .boolean
  | 1 => .int
  | 2 => .int
  | 3 => .int
  | 4 => .int
  | 5 => .int
  | 6 => .array .int
  | 7 => .object "ChipFlow$Library"
  | 8 => .int
  | 9 => .array .int
  | 10 => .array .int
  | 11 => .array .int
  | 12 => .array .int
  | 13 => .array .int
  | 14 => .int
  | 15 => .int
  | 16 => .array .int
  | 17 => .array .int
  | 18 => .object "ChipFlow$Board"
  | _ => .int
set_option maxRecDepth 100000 in
theorem nmX2 : ∀ a, a < 20 → ∀ b, b < 20 → a ≠ b → (TX2 a).2.1 ≠ (TX2 b).2.1 := by decide +kernel
set_option maxRecDepth 100000 in
theorem tyX2_ok : ∀ k, k < 20 → parseFieldDescriptor (TX2 k).2.2.1 = some (tyX2 k) := by decide +kernel
set_option maxRecDepth 100000 in
theorem inX2 : ∀ w ∈ u_ws RX2 TX2 20, w ∈ BG := bg_sb tb_4 (by decide +kernel) (by decide +kernel)
def RX3 : String := "ChipFlow$Design"
def TX3 : u_T := fun k => match k with
  | 0 => ("ChipFlow$Design", "used", "Z", false)
  | 1 => ("ChipFlow$Design", "inputs", "I", false)
  | 2 => ("ChipFlow$Design", "registers", "I", false)
  | 3 => ("ChipFlow$Design", "outputs", "I", false)
  | 4 => ("ChipFlow$Design", "nodes", "I", false)
  | 5 => ("ChipFlow$Design", "beginning", "I", false)
  | 6 => ("ChipFlow$Design", "current", "I", false)
  | 7 => ("ChipFlow$Design", "depth", "I", false)
  | 8 => ("ChipFlow$Design", "sweptAnds", "I", false)
  | 9 => ("ChipFlow$Design", "reached", "I", false)
  | 10 => ("ChipFlow$Design", "low", "[I", true)
  | 11 => ("ChipFlow$Design", "high", "[I", true)
  | 12 => ("ChipFlow$Design", "standsFor", "[I", true)
  | 13 => ("ChipFlow$Design", "outRoot", "[I", true)
  | 14 => ("ChipFlow$Design", "nextRoot", "[I", true)
  | _ => ("ChipFlow$Design", "table", "[I", true)
def tyX3 : Nat → FieldType := fun k => match k with
  | 0 => .boolean
  | 1 => .int
  | 2 => .int
  | 3 => .int
  | 4 => .int
  | 5 => .int
  | 6 => .int
  | 7 => .int
  | 8 => .int
  | 9 => .int
  | 10 => .array .int
  | 11 => .array .int
  | 12 => .array .int
  | 13 => .array .int
  | 14 => .array .int
  | _ => .array .int
set_option maxRecDepth 100000 in
theorem nmX3 : ∀ a, a < 16 → ∀ b, b < 16 → a ≠ b → (TX3 a).2.1 ≠ (TX3 b).2.1 := by decide +kernel
set_option maxRecDepth 100000 in
theorem tyX3_ok : ∀ k, k < 16 → parseFieldDescriptor (TX3 k).2.2.1 = some (tyX3 k) := by decide +kernel
set_option maxRecDepth 100000 in
theorem inX3 : ∀ w ∈ u_ws RX3 TX3 16, w ∈ BG := bg_sb tb_3 (by decide +kernel) (by decide +kernel)
def RX4 : String := "ChipFlow$Layout"
def TX4 : u_T := fun k => match k with
  | 0 => ("ChipFlow$Layout", "drawn", "Z", false)
  | 1 => ("ChipFlow$Layout", "count", "I", false)
  | 2 => ("ChipFlow$Layout", "boxes", "[I", true)
  | 3 => ("ChipFlow$Layout", "violations", "I", false)
  | 4 => ("ChipFlow$Layout", "shorts", "I", false)
  | 5 => ("ChipFlow$Layout", "opens", "I", false)
  | 6 => ("ChipFlow$Layout", "pinnedParts", "I", false)
  | 7 => ("ChipFlow$Layout", "looseParts", "I", false)
  | 8 => ("ChipFlow$Layout", "thin", "I", false)
  | 9 => ("ChipFlow$Layout", "judged", "Z", false)
  | 10 => ("ChipFlow$Layout", "searched", "Z", false)
  | 11 => ("ChipFlow$Layout", "writing", "Z", false)
  | 12 => ("ChipFlow$Layout", "nextBox", "[I", true)
  | 13 => ("ChipFlow$Layout", "nearOnes", "[I", true)
  | 14 => ("ChipFlow$Layout", "parent", "[I", true)
  | 15 => ("ChipFlow$Layout", "pinPart", "[I", true)
  | 16 => ("ChipFlow$Layout", "partPins", "[I", true)
  | _ => ("ChipFlow$Layout", "shorted", "[J", true)
def tyX4 : Nat → FieldType := fun k => match k with
  | 0 => .boolean
  | 1 => .int
  | 2 => .array .int
  | 3 => .int
  | 4 => .int
  | 5 => .int
  | 6 => .int
  | 7 => .int
  | 8 => .int
  | 9 => .boolean
  | 10 => .boolean
  | 11 => .boolean
  | 12 => .array .int
  | 13 => .array .int
  | 14 => .array .int
  | 15 => .array .int
  | 16 => .array .int
  | _ => .array .long
set_option maxRecDepth 100000 in
theorem nmX4 : ∀ a, a < 18 → ∀ b, b < 18 → a ≠ b → (TX4 a).2.1 ≠ (TX4 b).2.1 := by decide +kernel
set_option maxRecDepth 100000 in
theorem tyX4_ok : ∀ k, k < 18 → parseFieldDescriptor (TX4 k).2.2.1 = some (tyX4 k) := by decide +kernel
set_option maxRecDepth 100000 in
theorem inX4 : ∀ w ∈ u_ws RX4 TX4 18, w ∈ BG := bg_sb tb_3 (by decide +kernel) (by decide +kernel)
def RX5 : String := "ChipFlow$Library"
def TX5 : u_T := fun k => match k with
  | 0 => ("ChipFlow$Library", "used", "Z", false)
  | 1 => ("ChipFlow$Library", "count", "I", false)
  | 2 => ("ChipFlow$Library", "inverter", "I", false)
  | 3 => ("ChipFlow$Library", "inputs", "[I", true)
  | 4 => ("ChipFlow$Library", "table", "[I", true)
  | 5 => ("ChipFlow$Library", "area", "[I", true)
  | _ => ("ChipFlow$Library", "delay", "[I", true)
def tyX5 : Nat → FieldType := fun k => match k with
  | 0 => .boolean
  | 1 => .int
  | 2 => .int
  | 3 => .array .int
  | 4 => .array .int
  | 5 => .array .int
  | _ => .array .int
set_option maxRecDepth 100000 in
theorem nmX5 : ∀ a, a < 7 → ∀ b, b < 7 → a ≠ b → (TX5 a).2.1 ≠ (TX5 b).2.1 := by decide +kernel
set_option maxRecDepth 100000 in
theorem tyX5_ok : ∀ k, k < 7 → parseFieldDescriptor (TX5 k).2.2.1 = some (tyX5 k) := by decide +kernel
set_option maxRecDepth 100000 in
theorem inX5 : ∀ w ∈ u_ws RX5 TX5 7, w ∈ BG := bg_sb tb_3 (by decide +kernel) (by decide +kernel)
def RX6 : String := "ChipFlow$Mapper"
def TX6 : u_T := fun k => match k with
  | 0 => ("ChipFlow$Mapper", "design", "LChipFlow$Design;", false)
  | 1 => ("ChipFlow$Mapper", "cells", "LChipFlow$Library;", false)
  | 2 => ("ChipFlow$Mapper", "needed", "[I", true)
  | 3 => ("ChipFlow$Mapper", "root", "[I", true)
  | 4 => ("ChipFlow$Mapper", "need", "[I", true)
  | 5 => ("ChipFlow$Mapper", "wayCell", "[I", true)
  | 6 => ("ChipFlow$Mapper", "wayTurns", "[I", true)
  | 7 => ("ChipFlow$Mapper", "wayNodes", "[I", true)
  | 8 => ("ChipFlow$Mapper", "cuts", "[I", true)
  | 9 => ("ChipFlow$Mapper", "cutOrder", "[I", true)
  | 10 => ("ChipFlow$Mapper", "cutTable", "[I", true)
  | 11 => ("ChipFlow$Mapper", "cutCount", "I", false)
  | 12 => ("ChipFlow$Mapper", "members", "[I", true)
  | 13 => ("ChipFlow$Mapper", "memberCount", "I", false)
  | 14 => ("ChipFlow$Mapper", "views", "[I", true)
  | 15 => ("ChipFlow$Mapper", "inner", "[I", true)
  | 16 => ("ChipFlow$Mapper", "values", "[I", true)
  | 17 => ("ChipFlow$Mapper", "made", "[I", true)
  | _ => ("ChipFlow$Mapper", "tasks", "[I", true)
def tyX6 : Nat → FieldType := fun k => match k with
  | 0 => .object "ChipFlow$Design"
  | 1 => .object "ChipFlow$Library"
  | 2 => .array .int
  | 3 => .array .int
  | 4 => .array .int
  | 5 => .array .int
  | 6 => .array .int
  | 7 => .array .int
  | 8 => .array .int
  | 9 => .array .int
  | 10 => .array .int
  | 11 => .int
  | 12 => .array .int
  | 13 => .int
  | 14 => .array .int
  | 15 => .array .int
  | 16 => .array .int
  | 17 => .array .int
  | _ => .array .int
set_option maxRecDepth 100000 in
theorem nmX6 : ∀ a, a < 19 → ∀ b, b < 19 → a ≠ b → (TX6 a).2.1 ≠ (TX6 b).2.1 := by decide +kernel
set_option maxRecDepth 100000 in
theorem tyX6_ok : ∀ k, k < 19 → parseFieldDescriptor (TX6 k).2.2.1 = some (tyX6 k) := by decide +kernel
set_option maxRecDepth 100000 in
theorem inX6 : ∀ w ∈ u_ws RX6 TX6 19, w ∈ BG := bg_sb (tb_app tb_1 tb_2) (by decide +kernel) (by decide +kernel)
def RX7 : String := "ChipFlow$Reader"
def TX7 : u_T := fun k => match k with
  | 0 => ("ChipFlow$Reader", "text", "LChipFlow$Text;", true)
  | 1 => ("ChipFlow$Reader", "code", "[I", true)
  | 2 => ("ChipFlow$Reader", "codeSize", "I", false)
  | 3 => ("ChipFlow$Reader", "modules", "I", false)
  | 4 => ("ChipFlow$Reader", "moduleName", "[I", true)
  | 5 => ("ChipFlow$Reader", "moduleCode", "[I", true)
  | 6 => ("ChipFlow$Reader", "moduleNames", "[I", true)
  | 7 => ("ChipFlow$Reader", "name", "[I", true)
  | 8 => ("ChipFlow$Reader", "sort", "[I", true)
  | 9 => ("ChipFlow$Reader", "width", "[I", true)
  | 10 => ("ChipFlow$Reader", "detail", "[I", true)
  | 11 => ("ChipFlow$Reader", "library", "LChipFlow$Library;", false)
  | 12 => ("ChipFlow$Reader", "opKind", "[I", true)
  | 13 => ("ChipFlow$Reader", "opPlace", "[I", true)
  | 14 => ("ChipFlow$Reader", "opTop", "I", false)
  | 15 => ("ChipFlow$Reader", "held", "[I", true)
  | 16 => ("ChipFlow$Reader", "heldTop", "I", false)
  | _ => ("ChipFlow$Reader", "open", "I", false)
def tyX7 : Nat → FieldType := fun k => match k with
  | 0 => .object "ChipFlow$Text"
  | 1 => .array .int
  | 2 => .int
  | 3 => .int
  | 4 => .array .int
  | 5 => .array .int
  | 6 => .array .int
  | 7 => .array .int
  | 8 => .array .int
  | 9 => .array .int
  | 10 => .array .int
  | 11 => .object "ChipFlow$Library"
  | 12 => .array .int
  | 13 => .array .int
  | 14 => .int
  | 15 => .array .int
  | 16 => .int
  | _ => .int
set_option maxRecDepth 100000 in
theorem nmX7 : ∀ a, a < 18 → ∀ b, b < 18 → a ≠ b → (TX7 a).2.1 ≠ (TX7 b).2.1 := by decide +kernel
set_option maxRecDepth 100000 in
theorem tyX7_ok : ∀ k, k < 18 → parseFieldDescriptor (TX7 k).2.2.1 = some (tyX7 k) := by decide +kernel
set_option maxRecDepth 100000 in
theorem inX7 : ∀ w ∈ u_ws RX7 TX7 18, w ∈ BG := bg_sb tb_1 (by decide +kernel) (by decide +kernel)
def RX8 : String := "ChipFlow$Router"
def TX8 : u_T := fun k => match k with
  | 0 => ("ChipFlow$Router", "board", "LChipFlow$Board;", false)
  | 1 => ("ChipFlow$Router", "width", "I", false)
  | 2 => ("ChipFlow$Router", "layerSize", "I", false)
  | 3 => ("ChipFlow$Router", "kept", "[I", true)
  | 4 => ("ChipFlow$Router", "distance", "[I", true)
  | 5 => ("ChipFlow$Router", "near", "[I", true)
  | 6 => ("ChipFlow$Router", "nearTail", "I", false)
  | 7 => ("ChipFlow$Router", "far", "[I", true)
  | 8 => ("ChipFlow$Router", "farTail", "I", false)
  | 9 => ("ChipFlow$Router", "way", "[I", true)
  | 10 => ("ChipFlow$Router", "tree", "[I", true)
  | 11 => ("ChipFlow$Router", "treeSize", "I", false)
  | 12 => ("ChipFlow$Router", "row", "[I", true)
  | _ => ("ChipFlow$Router", "rowSize", "I", false)
def tyX8 : Nat → FieldType := fun k => match k with
  | 0 => .object "ChipFlow$Board"
  | 1 => .int
  | 2 => .int
  | 3 => .array .int
  | 4 => .array .int
  | 5 => .array .int
  | 6 => .int
  | 7 => .array .int
  | 8 => .int
  | 9 => .array .int
  | 10 => .array .int
  | 11 => .int
  | 12 => .array .int
  | _ => .int
set_option maxRecDepth 100000 in
theorem nmX8 : ∀ a, a < 14 → ∀ b, b < 14 → a ≠ b → (TX8 a).2.1 ≠ (TX8 b).2.1 := by decide +kernel
set_option maxRecDepth 100000 in
theorem tyX8_ok : ∀ k, k < 14 → parseFieldDescriptor (TX8 k).2.2.1 = some (tyX8 k) := by decide +kernel
set_option maxRecDepth 100000 in
theorem inX8 : ∀ w ∈ u_ws RX8 TX8 14, w ∈ BG := bg_sb tb_2 (by decide +kernel) (by decide +kernel)
def RX9 : String := "ChipFlow$Tester"
def TX9 : u_T := fun k => match k with
  | 0 => ("ChipFlow$Tester", "chip", "LChipFlow$Chip;", false)
  | 1 => ("ChipFlow$Tester", "stamp", "I", false)
  | 2 => ("ChipFlow$Tester", "words", "I", false)
  | 3 => ("ChipFlow$Tester", "mask", "J", false)
  | 4 => ("ChipFlow$Tester", "good", "[J", true)
  | 5 => ("ChipFlow$Tester", "bad", "[J", true)
  | 6 => ("ChipFlow$Tester", "touched", "[I", true)
  | 7 => ("ChipFlow$Tester", "shown", "[J", true)
  | 8 => ("ChipFlow$Tester", "ready", "[I", true)
  | _ => ("ChipFlow$Tester", "tally", "[I", true)
def tyX9 : Nat → FieldType := fun k => match k with
  | 0 => .object "ChipFlow$Chip"
  | 1 => .int
  | 2 => .int
  | 3 => .long
  | 4 => .array .long
  | 5 => .array .long
  | 6 => .array .int
  | 7 => .array .long
  | 8 => .array .int
  | _ => .array .int
set_option maxRecDepth 100000 in
theorem nmX9 : ∀ a, a < 10 → ∀ b, b < 10 → a ≠ b → (TX9 a).2.1 ≠ (TX9 b).2.1 := by decide +kernel
set_option maxRecDepth 100000 in
theorem tyX9_ok : ∀ k, k < 10 → parseFieldDescriptor (TX9 k).2.2.1 = some (tyX9 k) := by decide +kernel
set_option maxRecDepth 100000 in
theorem inX9 : ∀ w ∈ u_ws RX9 TX9 10, w ∈ BG := bg_sb tb_2 (by decide +kernel) (by decide +kernel)
def RX10 : String := "ChipFlow$Text"
def TX10 : u_T := fun k => match k with
  | 0 => ("ChipFlow$Text", "bytes", "[B", true)
  | 1 => ("ChipFlow$Text", "length", "I", false)
  | 2 => ("ChipFlow$Text", "kind", "I", false)
  | 3 => ("ChipFlow$Text", "start", "I", false)
  | 4 => ("ChipFlow$Text", "size", "I", false)
  | 5 => ("ChipFlow$Text", "value", "I", false)
  | 6 => ("ChipFlow$Text", "faultCode", "I", false)
  | 7 => ("ChipFlow$Text", "faultPlace", "I", false)
  | _ => ("ChipFlow$Text", "next", "I", false)
def tyX10 : Nat → FieldType := fun k => match k with
  | 0 => .array .byte
  | 1 => .int
  | 2 => .int
  | 3 => .int
  | 4 => .int
  | 5 => .int
  | 6 => .int
  | 7 => .int
  | _ => .int
set_option maxRecDepth 100000 in
theorem nmX10 : ∀ a, a < 9 → ∀ b, b < 9 → a ≠ b → (TX10 a).2.1 ≠ (TX10 b).2.1 := by decide +kernel
set_option maxRecDepth 100000 in
theorem tyX10_ok : ∀ k, k < 9 → parseFieldDescriptor (TX10 k).2.2.1 = some (tyX10 k) := by decide +kernel
set_option maxRecDepth 100000 in
theorem inX10 : ∀ w ∈ u_ws RX10 TX10 9, w ∈ BG := bg_sb tb_1 (by decide +kernel) (by decide +kernel)
def RX11 : String := "ChipFlow$Times"
def TX11 : u_T := fun k => match k with
  | 0 => ("ChipFlow$Times", "time", "[I", true)
  | 1 => ("ChipFlow$Times", "arrive", "[I", true)
  | 2 => ("ChipFlow$Times", "rest", "[I", true)
  | 3 => ("ChipFlow$Times", "pathChip", "LChipFlow$Chip;", false)
  | 4 => ("ChipFlow$Times", "pathStamp", "I", false)
  | 5 => ("ChipFlow$Times", "pathCount", "I", false)
  | 6 => ("ChipFlow$Times", "order", "[I", true)
  | 7 => ("ChipFlow$Times", "bound", "[I", true)
  | 8 => ("ChipFlow$Times", "size", "[I", true)
  | 9 => ("ChipFlow$Times", "rows", "[I", true)
  | 10 => ("ChipFlow$Times", "trail", "[I", true)
  | 11 => ("ChipFlow$Times", "trailSize", "I", false)
  | 12 => ("ChipFlow$Times", "waveChip", "LChipFlow$Chip;", false)
  | 13 => ("ChipFlow$Times", "waveStamp", "I", false)
  | 14 => ("ChipFlow$Times", "waveA", "I", false)
  | 15 => ("ChipFlow$Times", "waveB", "I", false)
  | 16 => ("ChipFlow$Times", "waveTooLong", "Z", false)
  | 17 => ("ChipFlow$Times", "before", "[I", true)
  | 18 => ("ChipFlow$Times", "waveFrom", "[I", true)
  | _ => ("ChipFlow$Times", "change", "[I", true)
def tyX11 : Nat → FieldType := fun k => match k with
  | 0 => .array .int
  | 1 => .array .int
  | 2 => .array .int
  | 3 => .object "ChipFlow$Chip"
  | 4 => .int
  | 5 => .int
  | 6 => .array .int
  | 7 => .array .int
  | 8 => .array .int
  | 9 => .array .int
  | 10 => .array .int
  | 11 => .int
  | 12 => .object "ChipFlow$Chip"
  | 13 => .int
  | 14 => .int
  | 15 => .int
  | 16 => .boolean
  | 17 => .array .int
  | 18 => .array .int
  | _ => .array .int
set_option maxRecDepth 100000 in
theorem nmX11 : ∀ a, a < 20 → ∀ b, b < 20 → a ≠ b → (TX11 a).2.1 ≠ (TX11 b).2.1 := by decide +kernel
set_option maxRecDepth 100000 in
theorem tyX11_ok : ∀ k, k < 20 → parseFieldDescriptor (TX11 k).2.2.1 = some (tyX11 k) := by decide +kernel
set_option maxRecDepth 100000 in
theorem inX11 : ∀ w ∈ u_ws RX11 TX11 20, w ∈ BG := bg_sb tb_2 (by decide +kernel) (by decide +kernel)
def RX12 : String := "ChipFlow"
def TX12 : u_T := fun k => match k with
  | 0 => ("ChipFlow", "text", "LChipFlow$Text;", true)
  | 1 => ("ChipFlow", "reader", "LChipFlow$Reader;", true)
  | 2 => ("ChipFlow", "builder", "LChipFlow$Builder;", true)
  | 3 => ("ChipFlow", "mapper", "LChipFlow$Mapper;", true)
  | 4 => ("ChipFlow", "router", "LChipFlow$Router;", true)
  | 5 => ("ChipFlow", "times", "LChipFlow$Times;", true)
  | 6 => ("ChipFlow", "tester", "LChipFlow$Tester;", true)
  | 7 => ("ChipFlow", "designs", "[LChipFlow$Design;", true)
  | 8 => ("ChipFlow", "libraries", "[LChipFlow$Library;", true)
  | 9 => ("ChipFlow", "chips", "[LChipFlow$Chip;", true)
  | 10 => ("ChipFlow", "lastFault", "I", false)
  | 11 => ("ChipFlow", "pairFrom", "[I", true)
  | 12 => ("ChipFlow", "pairInput", "[I", true)
  | 13 => ("ChipFlow", "pairQueue", "[I", true)
  | 14 => ("ChipFlow", "silence", "[I", true)
  | 15 => ("ChipFlow", "witnessInputs", "[I", true)
  | _ => ("ChipFlow", "witnessSize", "I", false)
def tyX12 : Nat → FieldType := fun k => match k with
  | 0 => .object "ChipFlow$Text"
  | 1 => .object "ChipFlow$Reader"
  | 2 => .object "ChipFlow$Builder"
  | 3 => .object "ChipFlow$Mapper"
  | 4 => .object "ChipFlow$Router"
  | 5 => .object "ChipFlow$Times"
  | 6 => .object "ChipFlow$Tester"
  | 7 => .array (.object "ChipFlow$Design")
  | 8 => .array (.object "ChipFlow$Library")
  | 9 => .array (.object "ChipFlow$Chip")
  | 10 => .int
  | 11 => .array .int
  | 12 => .array .int
  | 13 => .array .int
  | 14 => .array .int
  | 15 => .array .int
  | _ => .int
set_option maxRecDepth 100000 in
theorem nmX12 : ∀ a, a < 17 → ∀ b, b < 17 → a ≠ b → (TX12 a).2.1 ≠ (TX12 b).2.1 := by decide +kernel
set_option maxRecDepth 100000 in
theorem tyX12_ok : ∀ k, k < 17 → parseFieldDescriptor (TX12 k).2.2.1 = some (tyX12 k) := by decide +kernel
set_option maxRecDepth 100000 in
theorem inX12 : ∀ w ∈ u_ws RX12 TX12 17, w ∈ BG := bg_sb tb_4 (by decide +kernel) (by decide +kernel)
def RX13 : String := "ChipFlowModel"
def TX13 : u_T := fun k => match k with
  | 0 => ("ChipFlowModel", "code", "I", false)
  | 1 => ("ChipFlowModel", "tape", "[B", true)
  | 2 => ("ChipFlowModel", "size", "I", false)
  | 3 => ("ChipFlowModel", "tokens", "I", false)
  | 4 => ("ChipFlowModel", "sorts", "[B", true)
  | 5 => ("ChipFlowModel", "places", "[I", true)
  | 6 => ("ChipFlowModel", "numbers", "[I", true)
  | 7 => ("ChipFlowModel", "firsts", "[J", true)
  | 8 => ("ChipFlowModel", "seconds", "[I", true)
  | 9 => ("ChipFlowModel", "at", "I", false)
  | 10 => ("ChipFlowModel", "fault", "I", false)
  | 11 => ("ChipFlowModel", "faultPlace", "I", false)
  | 12 => ("ChipFlowModel", "modules", "I", false)
  | 13 => ("ChipFlowModel", "moduleTokens", "[I", true)
  | 14 => ("ChipFlowModel", "bodies", "[I", true)
  | 15 => ("ChipFlowModel", "nameCounts", "[I", true)
  | 16 => ("ChipFlowModel", "nameTokens", "[I", true)
  | 17 => ("ChipFlowModel", "nameSorts", "[I", true)
  | 18 => ("ChipFlowModel", "nameWidths", "[I", true)
  | 19 => ("ChipFlowModel", "nameThings", "[I", true)
  | 20 => ("ChipFlowModel", "nameSet", "[Z", true)
  | 21 => ("ChipFlowModel", "inBits", "[I", true)
  | 22 => ("ChipFlowModel", "outBits", "[I", true)
  | 23 => ("ChipFlowModel", "regBits", "[I", true)
  | 24 => ("ChipFlowModel", "instances", "[I", true)
  | 25 => ("ChipFlowModel", "newToken", "I", false)
  | 26 => ("ChipFlowModel", "newWidth", "I", false)
  | 27 => ("ChipFlowModel", "mode", "I", false)
  | 28 => ("ChipFlowModel", "module", "I", false)
  | 29 => ("ChipFlowModel", "frame", "I", false)
  | 30 => ("ChipFlowModel", "waits", "[I", true)
  | 31 => ("ChipFlowModel", "waitTokens", "[I", true)
  | 32 => ("ChipFlowModel", "waiting", "I", false)
  | 33 => ("ChipFlowModel", "openCount", "I", false)
  | 34 => ("ChipFlowModel", "values", "I", false)
  | 35 => ("ChipFlowModel", "widths", "[I", true)
  | 36 => ("ChipFlowModel", "literals", "[I", true)
  | 37 => ("ChipFlowModel", "nodes", "I", false)
  | 38 => ("ChipFlowModel", "firstAnd", "I", false)
  | 39 => ("ChipFlowModel", "stateBits", "I", false)
  | 40 => ("ChipFlowModel", "lesser", "[I", true)
  | 41 => ("ChipFlowModel", "other", "[I", true)
  | 42 => ("ChipFlowModel", "chained", "[I", true)
  | 43 => ("ChipFlowModel", "nextChained", "[I", true)
  | 44 => ("ChipFlowModel", "frameValues", "[I", true)
  | 45 => ("ChipFlowModel", "instanceValues", "[I", true)
  | 46 => ("ChipFlowModel", "frameModules", "[I", true)
  | 47 => ("ChipFlowModel", "frameTokens", "[I", true)
  | 48 => ("ChipFlowModel", "frameNames", "[I", true)
  | 49 => ("ChipFlowModel", "frameTold", "[I", true)
  | 50 => ("ChipFlowModel", "registerBits", "[I", true)
  | 51 => ("ChipFlowModel", "nexts", "[I", true)
  | 52 => ("ChipFlowModel", "beginning", "I", false)
  | 53 => ("ChipFlowModel", "usedBits", "I", false)
  | 54 => ("ChipFlowModel", "arguments", "[I", true)
  | 55 => ("ChipFlowModel", "designThere", "[Z", true)
  | 56 => ("ChipFlowModel", "designIn", "[I", true)
  | 57 => ("ChipFlowModel", "designState", "[I", true)
  | 58 => ("ChipFlowModel", "designOut", "[I", true)
  | 59 => ("ChipFlowModel", "designBegin", "[I", true)
  | 60 => ("ChipFlowModel", "designNow", "[I", true)
  | 61 => ("ChipFlowModel", "designNodes", "[I", true)
  | 62 => ("ChipFlowModel", "designFirst", "[I", true)
  | 63 => ("ChipFlowModel", "designDepth", "[I", true)
  | 64 => ("ChipFlowModel", "designSweptAnds", "[I", true)
  | 65 => ("ChipFlowModel", "designReached", "[I", true)
  | 66 => ("ChipFlowModel", "keptLesser", "[I", true)
  | 67 => ("ChipFlowModel", "keptOther", "[I", true)
  | 68 => ("ChipFlowModel", "keptSwept", "[I", true)
  | 69 => ("ChipFlowModel", "outLiterals", "[I", true)
  | 70 => ("ChipFlowModel", "nextLiterals", "[I", true)
  | 71 => ("ChipFlowModel", "outTables", "[I", true)
  | 72 => ("ChipFlowModel", "nextTables", "[I", true)
  | 73 => ("ChipFlowModel", "functions", "[J", true)
  | 74 => ("ChipFlowModel", "sweptOf", "[I", true)
  | 75 => ("ChipFlowModel", "isNeeded", "[Z", true)
  | 76 => ("ChipFlowModel", "depths", "[I", true)
  | 77 => ("ChipFlowModel", "roots", "[I", true)
  | 78 => ("ChipFlowModel", "isReached", "[Z", true)
  | 79 => ("ChipFlowModel", "lastFault", "I", false)
  | 80 => ("ChipFlowModel", "cellInputs", "I", false)
  | 81 => ("ChipFlowModel", "inputTokens", "[I", true)
  | 82 => ("ChipFlowModel", "cellTokens", "[I", true)
  | 83 => ("ChipFlowModel", "newCells", "I", false)
  | 84 => ("ChipFlowModel", "newInputs", "[I", true)
  | 85 => ("ChipFlowModel", "newFunctions", "[I", true)
  | 86 => ("ChipFlowModel", "newAreas", "[I", true)
  | 87 => ("ChipFlowModel", "newDelays", "[I", true)
  | 88 => ("ChipFlowModel", "libraryThere", "[Z", true)
  | 89 => ("ChipFlowModel", "libraryCells", "[I", true)
  | 90 => ("ChipFlowModel", "cellInputsOf", "[I", true)
  | 91 => ("ChipFlowModel", "cellFunctions", "[I", true)
  | 92 => ("ChipFlowModel", "cellAreas", "[I", true)
  | 93 => ("ChipFlowModel", "cellDelays", "[I", true)
  | 94 => ("ChipFlowModel", "witnessRow", "[I", true)
  | 95 => ("ChipFlowModel", "witnessCount", "I", false)
  | 96 => ("ChipFlowModel", "outsA", "[I", true)
  | 97 => ("ChipFlowModel", "nextsA", "[I", true)
  | 98 => ("ChipFlowModel", "outsB", "[I", true)
  | 99 => ("ChipFlowModel", "nextsB", "[I", true)
  | 100 => ("ChipFlowModel", "queue", "[I", true)
  | 101 => ("ChipFlowModel", "parents", "[I", true)
  | 102 => ("ChipFlowModel", "byInput", "[I", true)
  | 103 => ("ChipFlowModel", "clocks", "[I", true)
  | 104 => ("ChipFlowModel", "isSeen", "[Z", true)
  | 105 => ("ChipFlowModel", "from", "I", false)
  | 106 => ("ChipFlowModel", "library", "I", false)
  | 107 => ("ChipFlowModel", "inverter", "I", false)
  | 108 => ("ChipFlowModel", "inverterArea", "I", false)
  | 109 => ("ChipFlowModel", "sideA", "[I", true)
  | 110 => ("ChipFlowModel", "sideB", "[I", true)
  | 111 => ("ChipFlowModel", "uses", "[I", true)
  | 112 => ("ChipFlowModel", "isWanted", "[Z", true)
  | 113 => ("ChipFlowModel", "isRoot", "[Z", true)
  | 114 => ("ChipFlowModel", "cutCount", "I", false)
  | 115 => ("ChipFlowModel", "cutSizes", "[I", true)
  | 116 => ("ChipFlowModel", "cutNodes", "[I", true)
  | 117 => ("ChipFlowModel", "wayCosts", "[I", true)
  | 118 => ("ChipFlowModel", "wayCells", "[I", true)
  | 119 => ("ChipFlowModel", "wayNodes", "[I", true)
  | 120 => ("ChipFlowModel", "wayTurns", "[I", true)
  | 121 => ("ChipFlowModel", "needs", "[I", true)
  | 122 => ("ChipFlowModel", "isTurnedWay", "[Z", true)
  | 123 => ("ChipFlowModel", "trialSize", "I", false)
  | 124 => ("ChipFlowModel", "trial", "[I", true)
  | 125 => ("ChipFlowModel", "marks", "[I", true)
  | 126 => ("ChipFlowModel", "tables", "[I", true)
  | 127 => ("ChipFlowModel", "round", "I", false)
  | 128 => ("ChipFlowModel", "cutFunctions", "[I", true)
  | 129 => ("ChipFlowModel", "gates", "I", false)
  | 130 => ("ChipFlowModel", "madeCells", "[I", true)
  | 131 => ("ChipFlowModel", "madeNets", "[I", true)
  | 132 => ("ChipFlowModel", "gateNets", "[I", true)
  | 133 => ("ChipFlowModel", "turnedNets", "[I", true)
  | 134 => ("ChipFlowModel", "isLacking", "Z", false)
  | 135 => ("ChipFlowModel", "jobs", "[I", true)
  | 136 => ("ChipFlowModel", "jobSorts", "[I", true)
  | 137 => ("ChipFlowModel", "jobCount", "I", false)
  | 138 => ("ChipFlowModel", "chipThere", "[Z", true)
  | 139 => ("ChipFlowModel", "chipIn", "[I", true)
  | 140 => ("ChipFlowModel", "chipState", "[I", true)
  | 141 => ("ChipFlowModel", "chipOut", "[I", true)
  | 142 => ("ChipFlowModel", "chipBegin", "[I", true)
  | 143 => ("ChipFlowModel", "chipNow", "[I", true)
  | 144 => ("ChipFlowModel", "gateCounts", "[I", true)
  | 145 => ("ChipFlowModel", "gateCells", "[I", true)
  | 146 => ("ChipFlowModel", "gateInputs", "[I", true)
  | 147 => ("ChipFlowModel", "outNets", "[I", true)
  | 148 => ("ChipFlowModel", "nextNets", "[I", true)
  | 149 => ("ChipFlowModel", "ownCells", "[I", true)
  | 150 => ("ChipFlowModel", "ownInputs", "[I", true)
  | 151 => ("ChipFlowModel", "ownFunctions", "[I", true)
  | 152 => ("ChipFlowModel", "ownAreas", "[I", true)
  | 153 => ("ChipFlowModel", "ownDelays", "[I", true)
  | 154 => ("ChipFlowModel", "netWords", "[J", true)
  | 155 => ("ChipFlowModel", "siteCounts", "[I", true)
  | 156 => ("ChipFlowModel", "placedRows", "[I", true)
  | 157 => ("ChipFlowModel", "sites", "[I", true)
  | 158 => ("ChipFlowModel", "rows", "[I", true)
  | 159 => ("ChipFlowModel", "pins", "I", false)
  | 160 => ("ChipFlowModel", "pinNets", "[I", true)
  | 161 => ("ChipFlowModel", "pinX", "[I", true)
  | 162 => ("ChipFlowModel", "pinY", "[I", true)
  | 163 => ("ChipFlowModel", "pinCounts", "[I", true)
  | 164 => ("ChipFlowModel", "leftMost", "[I", true)
  | 165 => ("ChipFlowModel", "rightMost", "[I", true)
  | 166 => ("ChipFlowModel", "topMost", "[I", true)
  | 167 => ("ChipFlowModel", "lowMost", "[I", true)
  | 168 => ("ChipFlowModel", "isRouted", "[Z", true)
  | 169 => ("ChipFlowModel", "pointNets", "[I", true)
  | 170 => ("ChipFlowModel", "stepsX", "[Z", true)
  | 171 => ("ChipFlowModel", "stepsY", "[Z", true)
  | 172 => ("ChipFlowModel", "vias", "[Z", true)
  | 173 => ("ChipFlowModel", "isOpen", "[Z", true)
  | 174 => ("ChipFlowModel", "wide", "I", false)
  | 175 => ("ChipFlowModel", "high", "I", false)
  | 176 => ("ChipFlowModel", "all", "I", false)
  | 177 => ("ChipFlowModel", "chipAt", "I", false)
  | 178 => ("ChipFlowModel", "keptFor", "[I", true)
  | 179 => ("ChipFlowModel", "distances", "[I", true)
  | 180 => ("ChipFlowModel", "line", "[I", true)
  | 181 => ("ChipFlowModel", "inLine", "[Z", true)
  | 182 => ("ChipFlowModel", "way", "[I", true)
  | 183 => ("ChipFlowModel", "netRow", "[I", true)
  | 184 => ("ChipFlowModel", "netRowCount", "I", false)
  | 185 => ("ChipFlowModel", "isDrawn", "[Z", true)
  | 186 => ("ChipFlowModel", "boxCounts", "[I", true)
  | 187 => ("ChipFlowModel", "boxes", "[I", true)
  | 188 => ("ChipFlowModel", "drawn", "I", false)
  | 189 => ("ChipFlowModel", "isCounting", "Z", false)
  | 190 => ("ChipFlowModel", "one", "I", false)
  | 191 => ("ChipFlowModel", "two", "I", false)
  | 192 => ("ChipFlowModel", "parts", "[I", true)
  | 193 => ("ChipFlowModel", "isShort", "[Z", true)
  | 194 => ("ChipFlowModel", "isApart", "[Z", true)
  | 195 => ("ChipFlowModel", "hasPin", "[Z", true)
  | 196 => ("ChipFlowModel", "times", "[I", true)
  | 197 => ("ChipFlowModel", "arrivals", "[I", true)
  | 198 => ("ChipFlowModel", "falseCount", "[I", true)
  | 199 => ("ChipFlowModel", "falseNets", "[I", true)
  | 200 => ("ChipFlowModel", "falseEnds", "[I", true)
  | 201 => ("ChipFlowModel", "tailCounts", "[I", true)
  | 202 => ("ChipFlowModel", "tailLengths", "[I", true)
  | 203 => ("ChipFlowModel", "tailNexts", "[I", true)
  | 204 => ("ChipFlowModel", "tailPlaces", "[I", true)
  | 205 => ("ChipFlowModel", "pointers", "[I", true)
  | 206 => ("ChipFlowModel", "chosen", "I", false)
  | 207 => ("ChipFlowModel", "chosenNets", "[I", true)
  | 208 => ("ChipFlowModel", "chosenEnds", "[I", true)
  | 209 => ("ChipFlowModel", "chosenTails", "[I", true)
  | 210 => ("ChipFlowModel", "heads", "[I", true)
  | 211 => ("ChipFlowModel", "rest", "[Z", true)
  | 212 => ("ChipFlowModel", "changeTimes", "[I", true)
  | 213 => ("ChipFlowModel", "changeStarts", "[I", true)
  | 214 => ("ChipFlowModel", "changeCount", "I", false)
  | 215 => ("ChipFlowModel", "comes", "[I", true)
  | 216 => ("ChipFlowModel", "stand", "[Z", true)
  | 217 => ("ChipFlowModel", "setCount", "[I", true)
  | 218 => ("ChipFlowModel", "setPatterns", "[I", true)
  | 219 => ("ChipFlowModel", "setFails", "[Z", true)
  | 220 => ("ChipFlowModel", "setShows", "[J", true)
  | 221 => ("ChipFlowModel", "stuckNet", "I", false)
  | 222 => ("ChipFlowModel", "stuckPin", "I", false)
  | 223 => ("ChipFlowModel", "rightWords", "[J", true)
  | _ => ("ChipFlowModel", "leastKept", "[I", true)
def tyX13 : Nat → FieldType := fun k => match k with
  | 0 => .int
  | 1 => .array .byte
  | 2 => .int
  | 3 => .int
  | 4 => .array .byte
  | 5 => .array .int
  | 6 => .array .int
  | 7 => .array .long
  | 8 => .array .int
  | 9 => .int
  | 10 => .int
  | 11 => .int
  | 12 => .int
  | 13 => .array .int
  | 14 => .array .int
  | 15 => .array .int
  | 16 => .array .int
  | 17 => .array .int
  | 18 => .array .int
  | 19 => .array .int
  | 20 => .array .boolean
  | 21 => .array .int
  | 22 => .array .int
  | 23 => .array .int
  | 24 => .array .int
  | 25 => .int
  | 26 => .int
  | 27 => .int
  | 28 => .int
  | 29 => .int
  | 30 => .array .int
  | 31 => .array .int
  | 32 => .int
  | 33 => .int
  | 34 => .int
  | 35 => .array .int
  | 36 => .array .int
  | 37 => .int
  | 38 => .int
  | 39 => .int
  | 40 => .array .int
  | 41 => .array .int
  | 42 => .array .int
  | 43 => .array .int
  | 44 => .array .int
  | 45 => .array .int
  | 46 => .array .int
  | 47 => .array .int
  | 48 => .array .int
  | 49 => .array .int
  | 50 => .array .int
  | 51 => .array .int
  | 52 => .int
  | 53 => .int
  | 54 => .array .int
  | 55 => .array .boolean
  | 56 => .array .int
  | 57 => .array .int
  | 58 => .array .int
  | 59 => .array .int
  | 60 => .array .int
  | 61 => .array .int
  | 62 => .array .int
  | 63 => .array .int
  | 64 => .array .int
  | 65 => .array .int
  | 66 => .array .int
  | 67 => .array .int
  | 68 => .array .int
  | 69 => .array .int
  | 70 => .array .int
  | 71 => .array .int
  | 72 => .array .int
  | 73 => .array .long
  | 74 => .array .int
  | 75 => .array .boolean
  | 76 => .array .int
  | 77 => .array .int
  | 78 => .array .boolean
  | 79 => .int
  | 80 => .int
  | 81 => .array .int
  | 82 => .array .int
  | 83 => .int
  | 84 => .array .int
  | 85 => .array .int
  | 86 => .array .int
  | 87 => .array .int
  | 88 => .array .boolean
  | 89 => .array .int
  | 90 => .array .int
  | 91 => .array .int
  | 92 => .array .int
  | 93 => .array .int
  | 94 => .array .int
  | 95 => .int
  | 96 => .array .int
  | 97 => .array .int
  | 98 => .array .int
  | 99 => .array .int
  | 100 => .array .int
  | 101 => .array .int
  | 102 => .array .int
  | 103 => .array .int
  | 104 => .array .boolean
  | 105 => .int
  | 106 => .int
  | 107 => .int
  | 108 => .int
  | 109 => .array .int
  | 110 => .array .int
  | 111 => .array .int
  | 112 => .array .boolean
  | 113 => .array .boolean
  | 114 => .int
  | 115 => .array .int
  | 116 => .array .int
  | 117 => .array .int
  | 118 => .array .int
  | 119 => .array .int
  | 120 => .array .int
  | 121 => .array .int
  | 122 => .array .boolean
  | 123 => .int
  | 124 => .array .int
  | 125 => .array .int
  | 126 => .array .int
  | 127 => .int
  | 128 => .array .int
  | 129 => .int
  | 130 => .array .int
  | 131 => .array .int
  | 132 => .array .int
  | 133 => .array .int
  | 134 => .boolean
  | 135 => .array .int
  | 136 => .array .int
  | 137 => .int
  | 138 => .array .boolean
  | 139 => .array .int
  | 140 => .array .int
  | 141 => .array .int
  | 142 => .array .int
  | 143 => .array .int
  | 144 => .array .int
  | 145 => .array .int
  | 146 => .array .int
  | 147 => .array .int
  | 148 => .array .int
  | 149 => .array .int
  | 150 => .array .int
  | 151 => .array .int
  | 152 => .array .int
  | 153 => .array .int
  | 154 => .array .long
  | 155 => .array .int
  | 156 => .array .int
  | 157 => .array .int
  | 158 => .array .int
  | 159 => .int
  | 160 => .array .int
  | 161 => .array .int
  | 162 => .array .int
  | 163 => .array .int
  | 164 => .array .int
  | 165 => .array .int
  | 166 => .array .int
  | 167 => .array .int
  | 168 => .array .boolean
  | 169 => .array .int
  | 170 => .array .boolean
  | 171 => .array .boolean
  | 172 => .array .boolean
  | 173 => .array .boolean
  | 174 => .int
  | 175 => .int
  | 176 => .int
  | 177 => .int
  | 178 => .array .int
  | 179 => .array .int
  | 180 => .array .int
  | 181 => .array .boolean
  | 182 => .array .int
  | 183 => .array .int
  | 184 => .int
  | 185 => .array .boolean
  | 186 => .array .int
  | 187 => .array .int
  | 188 => .int
  | 189 => .boolean
  | 190 => .int
  | 191 => .int
  | 192 => .array .int
  | 193 => .array .boolean
  | 194 => .array .boolean
  | 195 => .array .boolean
  | 196 => .array .int
  | 197 => .array .int
  | 198 => .array .int
  | 199 => .array .int
  | 200 => .array .int
  | 201 => .array .int
  | 202 => .array .int
  | 203 => .array .int
  | 204 => .array .int
  | 205 => .array .int
  | 206 => .int
  | 207 => .array .int
  | 208 => .array .int
  | 209 => .array .int
  | 210 => .array .int
  | 211 => .array .boolean
  | 212 => .array .int
  | 213 => .array .int
  | 214 => .int
  | 215 => .array .int
  | 216 => .array .boolean
  | 217 => .array .int
  | 218 => .array .int
  | 219 => .array .boolean
  | 220 => .array .long
  | 221 => .int
  | 222 => .int
  | 223 => .array .long
  | _ => .array .int
set_option maxRecDepth 100000 in
theorem nmX13 : ∀ a, a < 225 → ∀ b, b < 225 → a ≠ b → (TX13 a).2.1 ≠ (TX13 b).2.1 := by decide +kernel
set_option maxRecDepth 100000 in
theorem tyX13_ok : ∀ k, k < 225 → parseFieldDescriptor (TX13 k).2.2.1 = some (tyX13 k) := by decide +kernel
set_option maxRecDepth 100000 in
theorem inX13 : ∀ w ∈ u_ws RX13 TX13 225, w ∈ BG := bg_sb (tb_app tb_13 (tb_app tb_14 tb_15)) (by decide +kernel) (by decide +kernel)
abbrev CL : List vw_C := [(RX0, TX0, 19), (RX1, TX1, 15), (RX2, TX2, 20), (RX3, TX3, 16), (RX4, TX4, 18), (RX5, TX5, 7), (RX6, TX6, 19), (RX7, TX7, 18), (RX8, TX8, 14), (RX9, TX9, 10), (RX10, TX10, 9), (RX11, TX11, 20), (RX12, TX12, 17), (RX13, TX13, 225)]
abbrev cX10_init : ByteArray := prog_12_method_1_code
def yX10_init : MethodName := ⟨RX10, "<init>", "()V"⟩
abbrev cX7_init : ByteArray := prog_9_method_1_code
def yX7_init : MethodName := ⟨RX7, "<init>", "(LChipFlow$Text;)V"⟩
abbrev cX1_init : ByteArray := prog_3_method_1_code
def yX1_init : MethodName := ⟨RX1, "<init>", "(LChipFlow$Reader;)V"⟩
abbrev cX6_init : ByteArray := prog_8_method_1_code
def yX6_init : MethodName := ⟨RX6, "<init>", "()V"⟩
abbrev cX8_init : ByteArray := prog_10_method_1_code
def yX8_init : MethodName := ⟨RX8, "<init>", "()V"⟩
abbrev cX11_init : ByteArray := prog_13_method_1_code
def yX11_init : MethodName := ⟨RX11, "<init>", "()V"⟩
abbrev cX9_init : ByteArray := prog_11_method_1_code
def yX9_init : MethodName := ⟨RX9, "<init>", "()V"⟩
abbrev cX4_init : ByteArray := prog_6_method_1_code
def yX4_init : MethodName := ⟨RX4, "<init>", "()V"⟩
abbrev cX3_init : ByteArray := prog_5_method_1_code
def yX3_init : MethodName := ⟨RX3, "<init>", "()V"⟩
abbrev cX5_init : ByteArray := prog_7_method_1_code
def yX5_init : MethodName := ⟨RX5, "<init>", "()V"⟩
theorem dX10_init_0 : decode cX10_init 0 = .ok (.aload_n 0, 1) := by decide +kernel
theorem dX10_init_1 : decode cX10_init 1 = .ok (.invokespecial 1, 3) := by decide +kernel
theorem dX10_init_4 : decode cX10_init 4 = .ok (.aload_n 0, 1) := by decide +kernel
theorem dX10_init_5 : decode cX10_init 5 = .ok (.ldc 9, 2) := by decide +kernel
theorem dX10_init_7 : decode cX10_init 7 = .ok (.newarray .byte, 2) := by decide +kernel
theorem dX10_init_9 : decode cX10_init 9 = .ok (.putfield 10, 3) := by decide +kernel
theorem dX10_init_12 : decode cX10_init 12 = .ok (.return_, 1) := by decide +kernel
theorem dX7_init_0 : decode cX7_init 0 = .ok (.aload_n 0, 1) := by decide +kernel
theorem dX7_init_1 : decode cX7_init 1 = .ok (.invokespecial 3, 3) := by decide +kernel
theorem dX7_init_4 : decode cX7_init 4 = .ok (.aload_n 0, 1) := by decide +kernel
theorem dX7_init_5 : decode cX7_init 5 = .ok (.ldc 11, 2) := by decide +kernel
theorem dX7_init_7 : decode cX7_init 7 = .ok (.newarray .int, 2) := by decide +kernel
theorem dX7_init_9 : decode cX7_init 9 = .ok (.putfield 12, 3) := by decide +kernel
theorem dX7_init_12 : decode cX7_init 12 = .ok (.aload_n 0, 1) := by decide +kernel
theorem dX7_init_13 : decode cX7_init 13 = .ok (.bipush 16, 2) := by decide +kernel
theorem dX7_init_15 : decode cX7_init 15 = .ok (.newarray .int, 2) := by decide +kernel
theorem dX7_init_17 : decode cX7_init 17 = .ok (.putfield 18, 3) := by decide +kernel
theorem dX7_init_20 : decode cX7_init 20 = .ok (.aload_n 0, 1) := by decide +kernel
theorem dX7_init_21 : decode cX7_init 21 = .ok (.bipush 17, 2) := by decide +kernel
theorem dX7_init_23 : decode cX7_init 23 = .ok (.newarray .int, 2) := by decide +kernel
theorem dX7_init_25 : decode cX7_init 25 = .ok (.putfield 21, 3) := by decide +kernel
theorem dX7_init_28 : decode cX7_init 28 = .ok (.aload_n 0, 1) := by decide +kernel
theorem dX7_init_29 : decode cX7_init 29 = .ok (.bipush 17, 2) := by decide +kernel
theorem dX7_init_31 : decode cX7_init 31 = .ok (.newarray .int, 2) := by decide +kernel
theorem dX7_init_33 : decode cX7_init 33 = .ok (.putfield 24, 3) := by decide +kernel
theorem dX7_init_36 : decode cX7_init 36 = .ok (.aload_n 0, 1) := by decide +kernel
theorem dX7_init_37 : decode cX7_init 37 = .ok (.sipush 640, 3) := by decide +kernel
theorem dX7_init_40 : decode cX7_init 40 = .ok (.newarray .int, 2) := by decide +kernel
theorem dX7_init_42 : decode cX7_init 42 = .ok (.putfield 27, 3) := by decide +kernel
theorem dX7_init_45 : decode cX7_init 45 = .ok (.aload_n 0, 1) := by decide +kernel
theorem dX7_init_46 : decode cX7_init 46 = .ok (.sipush 640, 3) := by decide +kernel
theorem dX7_init_49 : decode cX7_init 49 = .ok (.newarray .int, 2) := by decide +kernel
theorem dX7_init_51 : decode cX7_init 51 = .ok (.putfield 30, 3) := by decide +kernel
theorem dX7_init_54 : decode cX7_init 54 = .ok (.aload_n 0, 1) := by decide +kernel
theorem dX7_init_55 : decode cX7_init 55 = .ok (.sipush 640, 3) := by decide +kernel
theorem dX7_init_58 : decode cX7_init 58 = .ok (.newarray .int, 2) := by decide +kernel
theorem dX7_init_60 : decode cX7_init 60 = .ok (.putfield 33, 3) := by decide +kernel
theorem dX7_init_63 : decode cX7_init 63 = .ok (.aload_n 0, 1) := by decide +kernel
theorem dX7_init_64 : decode cX7_init 64 = .ok (.sipush 640, 3) := by decide +kernel
theorem dX7_init_67 : decode cX7_init 67 = .ok (.newarray .int, 2) := by decide +kernel
theorem dX7_init_69 : decode cX7_init 69 = .ok (.putfield 36, 3) := by decide +kernel
theorem dX7_init_72 : decode cX7_init 72 = .ok (.aload_n 0, 1) := by decide +kernel
theorem dX7_init_73 : decode cX7_init 73 = .ok (.sipush 488, 3) := by decide +kernel
theorem dX7_init_76 : decode cX7_init 76 = .ok (.newarray .int, 2) := by decide +kernel
theorem dX7_init_78 : decode cX7_init 78 = .ok (.putfield 39, 3) := by decide +kernel
theorem dX7_init_81 : decode cX7_init 81 = .ok (.aload_n 0, 1) := by decide +kernel
theorem dX7_init_82 : decode cX7_init 82 = .ok (.sipush 488, 3) := by decide +kernel
theorem dX7_init_85 : decode cX7_init 85 = .ok (.newarray .int, 2) := by decide +kernel
theorem dX7_init_87 : decode cX7_init 87 = .ok (.putfield 42, 3) := by decide +kernel
theorem dX7_init_90 : decode cX7_init 90 = .ok (.aload_n 0, 1) := by decide +kernel
theorem dX7_init_91 : decode cX7_init 91 = .ok (.sipush 488, 3) := by decide +kernel
theorem dX7_init_94 : decode cX7_init 94 = .ok (.newarray .int, 2) := by decide +kernel
theorem dX7_init_96 : decode cX7_init 96 = .ok (.putfield 45, 3) := by decide +kernel
theorem dX7_init_99 : decode cX7_init 99 = .ok (.aload_n 0, 1) := by decide +kernel
theorem dX7_init_100 : decode cX7_init 100 = .ok (.aload_n 1, 1) := by decide +kernel
theorem dX7_init_101 : decode cX7_init 101 = .ok (.putfield 48, 3) := by decide +kernel
theorem dX7_init_104 : decode cX7_init 104 = .ok (.return_, 1) := by decide +kernel
theorem dX1_init_0 : decode cX1_init 0 = .ok (.aload_n 0, 1) := by decide +kernel
theorem dX1_init_1 : decode cX1_init 1 = .ok (.invokespecial 7, 3) := by decide +kernel
theorem dX1_init_4 : decode cX1_init 4 = .ok (.aload_n 0, 1) := by decide +kernel
theorem dX1_init_5 : decode cX1_init 5 = .ok (.ldc 15, 2) := by decide +kernel
theorem dX1_init_7 : decode cX1_init 7 = .ok (.newarray .int, 2) := by decide +kernel
theorem dX1_init_9 : decode cX1_init 9 = .ok (.putfield 16, 3) := by decide +kernel
theorem dX1_init_12 : decode cX1_init 12 = .ok (.aload_n 0, 1) := by decide +kernel
theorem dX1_init_13 : decode cX1_init 13 = .ok (.sipush 4096, 3) := by decide +kernel
theorem dX1_init_16 : decode cX1_init 16 = .ok (.newarray .int, 2) := by decide +kernel
theorem dX1_init_18 : decode cX1_init 18 = .ok (.putfield 20, 3) := by decide +kernel
theorem dX1_init_21 : decode cX1_init 21 = .ok (.aload_n 0, 1) := by decide +kernel
theorem dX1_init_22 : decode cX1_init 22 = .ok (.sipush 512, 3) := by decide +kernel
theorem dX1_init_25 : decode cX1_init 25 = .ok (.newarray .int, 2) := by decide +kernel
theorem dX1_init_27 : decode cX1_init 27 = .ok (.putfield 23, 3) := by decide +kernel
theorem dX1_init_30 : decode cX1_init 30 = .ok (.aload_n 0, 1) := by decide +kernel
theorem dX1_init_31 : decode cX1_init 31 = .ok (.sipush 4096, 3) := by decide +kernel
theorem dX1_init_34 : decode cX1_init 34 = .ok (.newarray .int, 2) := by decide +kernel
theorem dX1_init_36 : decode cX1_init 36 = .ok (.putfield 26, 3) := by decide +kernel
theorem dX1_init_39 : decode cX1_init 39 = .ok (.aload_n 0, 1) := by decide +kernel
theorem dX1_init_40 : decode cX1_init 40 = .ok (.bipush 16, 2) := by decide +kernel
theorem dX1_init_42 : decode cX1_init 42 = .ok (.newarray .int, 2) := by decide +kernel
theorem dX1_init_44 : decode cX1_init 44 = .ok (.putfield 29, 3) := by decide +kernel
theorem dX1_init_47 : decode cX1_init 47 = .ok (.aload_n 0, 1) := by decide +kernel
theorem dX1_init_48 : decode cX1_init 48 = .ok (.bipush 16, 2) := by decide +kernel
theorem dX1_init_50 : decode cX1_init 50 = .ok (.newarray .int, 2) := by decide +kernel
theorem dX1_init_52 : decode cX1_init 52 = .ok (.putfield 32, 3) := by decide +kernel
theorem dX1_init_55 : decode cX1_init 55 = .ok (.aload_n 0, 1) := by decide +kernel
theorem dX1_init_56 : decode cX1_init 56 = .ok (.ldc 35, 2) := by decide +kernel
theorem dX1_init_58 : decode cX1_init 58 = .ok (.newarray .long, 2) := by decide +kernel
theorem dX1_init_60 : decode cX1_init 60 = .ok (.putfield 36, 3) := by decide +kernel
theorem dX1_init_63 : decode cX1_init 63 = .ok (.aload_n 0, 1) := by decide +kernel
theorem dX1_init_64 : decode cX1_init 64 = .ok (.sipush 1013, 3) := by decide +kernel
theorem dX1_init_67 : decode cX1_init 67 = .ok (.newarray .int, 2) := by decide +kernel
theorem dX1_init_69 : decode cX1_init 69 = .ok (.putfield 40, 3) := by decide +kernel
theorem dX1_init_72 : decode cX1_init 72 = .ok (.aload_n 0, 1) := by decide +kernel
theorem dX1_init_73 : decode cX1_init 73 = .ok (.aload_n 1, 1) := by decide +kernel
theorem dX1_init_74 : decode cX1_init 74 = .ok (.putfield 43, 3) := by decide +kernel
theorem dX1_init_77 : decode cX1_init 77 = .ok (.return_, 1) := by decide +kernel
theorem dX6_init_0 : decode cX6_init 0 = .ok (.aload_n 0, 1) := by decide +kernel
theorem dX6_init_1 : decode cX6_init 1 = .ok (.invokespecial 3, 3) := by decide +kernel
theorem dX6_init_4 : decode cX6_init 4 = .ok (.aload_n 0, 1) := by decide +kernel
theorem dX6_init_5 : decode cX6_init 5 = .ok (.sipush 1013, 3) := by decide +kernel
theorem dX6_init_8 : decode cX6_init 8 = .ok (.newarray .int, 2) := by decide +kernel
theorem dX6_init_10 : decode cX6_init 10 = .ok (.putfield 11, 3) := by decide +kernel
theorem dX6_init_13 : decode cX6_init 13 = .ok (.aload_n 0, 1) := by decide +kernel
theorem dX6_init_14 : decode cX6_init 14 = .ok (.sipush 1013, 3) := by decide +kernel
theorem dX6_init_17 : decode cX6_init 17 = .ok (.newarray .int, 2) := by decide +kernel
theorem dX6_init_19 : decode cX6_init 19 = .ok (.putfield 17, 3) := by decide +kernel
theorem dX6_init_22 : decode cX6_init 22 = .ok (.aload_n 0, 1) := by decide +kernel
theorem dX6_init_23 : decode cX6_init 23 = .ok (.sipush 2026, 3) := by decide +kernel
theorem dX6_init_26 : decode cX6_init 26 = .ok (.newarray .int, 2) := by decide +kernel
theorem dX6_init_28 : decode cX6_init 28 = .ok (.putfield 20, 3) := by decide +kernel
theorem dX6_init_31 : decode cX6_init 31 = .ok (.aload_n 0, 1) := by decide +kernel
theorem dX6_init_32 : decode cX6_init 32 = .ok (.sipush 2026, 3) := by decide +kernel
theorem dX6_init_35 : decode cX6_init 35 = .ok (.newarray .int, 2) := by decide +kernel
theorem dX6_init_37 : decode cX6_init 37 = .ok (.putfield 23, 3) := by decide +kernel
theorem dX6_init_40 : decode cX6_init 40 = .ok (.aload_n 0, 1) := by decide +kernel
theorem dX6_init_41 : decode cX6_init 41 = .ok (.sipush 2026, 3) := by decide +kernel
theorem dX6_init_44 : decode cX6_init 44 = .ok (.newarray .int, 2) := by decide +kernel
theorem dX6_init_46 : decode cX6_init 46 = .ok (.putfield 26, 3) := by decide +kernel
theorem dX6_init_49 : decode cX6_init 49 = .ok (.aload_n 0, 1) := by decide +kernel
theorem dX6_init_50 : decode cX6_init 50 = .ok (.sipush 6078, 3) := by decide +kernel
theorem dX6_init_53 : decode cX6_init 53 = .ok (.newarray .int, 2) := by decide +kernel
theorem dX6_init_55 : decode cX6_init 55 = .ok (.putfield 29, 3) := by decide +kernel
theorem dX6_init_58 : decode cX6_init 58 = .ok (.aload_n 0, 1) := by decide +kernel
theorem dX6_init_59 : decode cX6_init 59 = .ok (.sipush 3072, 3) := by decide +kernel
theorem dX6_init_62 : decode cX6_init 62 = .ok (.newarray .int, 2) := by decide +kernel
theorem dX6_init_64 : decode cX6_init 64 = .ok (.putfield 32, 3) := by decide +kernel
theorem dX6_init_67 : decode cX6_init 67 = .ok (.aload_n 0, 1) := by decide +kernel
theorem dX6_init_68 : decode cX6_init 68 = .ok (.sipush 1024, 3) := by decide +kernel
theorem dX6_init_71 : decode cX6_init 71 = .ok (.newarray .int, 2) := by decide +kernel
theorem dX6_init_73 : decode cX6_init 73 = .ok (.putfield 35, 3) := by decide +kernel
theorem dX6_init_76 : decode cX6_init 76 = .ok (.aload_n 0, 1) := by decide +kernel
theorem dX6_init_77 : decode cX6_init 77 = .ok (.sipush 1024, 3) := by decide +kernel
theorem dX6_init_80 : decode cX6_init 80 = .ok (.newarray .int, 2) := by decide +kernel
theorem dX6_init_82 : decode cX6_init 82 = .ok (.putfield 38, 3) := by decide +kernel
theorem dX6_init_85 : decode cX6_init 85 = .ok (.aload_n 0, 1) := by decide +kernel
theorem dX6_init_86 : decode cX6_init 86 = .ok (.iconst 4, 1) := by decide +kernel
theorem dX6_init_87 : decode cX6_init 87 = .ok (.newarray .int, 2) := by decide +kernel
theorem dX6_init_89 : decode cX6_init 89 = .ok (.putfield 41, 3) := by decide +kernel
theorem dX6_init_92 : decode cX6_init 92 = .ok (.aload_n 0, 1) := by decide +kernel
theorem dX6_init_93 : decode cX6_init 93 = .ok (.sipush 576, 3) := by decide +kernel
theorem dX6_init_96 : decode cX6_init 96 = .ok (.newarray .int, 2) := by decide +kernel
theorem dX6_init_98 : decode cX6_init 98 = .ok (.putfield 46, 3) := by decide +kernel
theorem dX6_init_101 : decode cX6_init 101 = .ok (.aload_n 0, 1) := by decide +kernel
theorem dX6_init_102 : decode cX6_init 102 = .ok (.sipush 1013, 3) := by decide +kernel
theorem dX6_init_105 : decode cX6_init 105 = .ok (.newarray .int, 2) := by decide +kernel
theorem dX6_init_107 : decode cX6_init 107 = .ok (.putfield 49, 3) := by decide +kernel
theorem dX6_init_110 : decode cX6_init 110 = .ok (.aload_n 0, 1) := by decide +kernel
theorem dX6_init_111 : decode cX6_init 111 = .ok (.sipush 1013, 3) := by decide +kernel
theorem dX6_init_114 : decode cX6_init 114 = .ok (.newarray .int, 2) := by decide +kernel
theorem dX6_init_116 : decode cX6_init 116 = .ok (.putfield 52, 3) := by decide +kernel
theorem dX6_init_119 : decode cX6_init 119 = .ok (.aload_n 0, 1) := by decide +kernel
theorem dX6_init_120 : decode cX6_init 120 = .ok (.sipush 3039, 3) := by decide +kernel
theorem dX6_init_123 : decode cX6_init 123 = .ok (.newarray .int, 2) := by decide +kernel
theorem dX6_init_125 : decode cX6_init 125 = .ok (.putfield 55, 3) := by decide +kernel
theorem dX6_init_128 : decode cX6_init 128 = .ok (.aload_n 0, 1) := by decide +kernel
theorem dX6_init_129 : decode cX6_init 129 = .ok (.sipush 3039, 3) := by decide +kernel
theorem dX6_init_132 : decode cX6_init 132 = .ok (.newarray .int, 2) := by decide +kernel
theorem dX6_init_134 : decode cX6_init 134 = .ok (.putfield 58, 3) := by decide +kernel
theorem dX6_init_137 : decode cX6_init 137 = .ok (.return_, 1) := by decide +kernel
theorem dX8_init_0 : decode cX8_init 0 = .ok (.aload_n 0, 1) := by decide +kernel
theorem dX8_init_1 : decode cX8_init 1 = .ok (.invokespecial 3, 3) := by decide +kernel
theorem dX8_init_4 : decode cX8_init 4 = .ok (.aload_n 0, 1) := by decide +kernel
theorem dX8_init_5 : decode cX8_init 5 = .ok (.sipush 4712, 3) := by decide +kernel
theorem dX8_init_8 : decode cX8_init 8 = .ok (.newarray .int, 2) := by decide +kernel
theorem dX8_init_10 : decode cX8_init 10 = .ok (.putfield 11, 3) := by decide +kernel
theorem dX8_init_13 : decode cX8_init 13 = .ok (.aload_n 0, 1) := by decide +kernel
theorem dX8_init_14 : decode cX8_init 14 = .ok (.sipush 4712, 3) := by decide +kernel
theorem dX8_init_17 : decode cX8_init 17 = .ok (.newarray .int, 2) := by decide +kernel
theorem dX8_init_19 : decode cX8_init 19 = .ok (.putfield 17, 3) := by decide +kernel
theorem dX8_init_22 : decode cX8_init 22 = .ok (.aload_n 0, 1) := by decide +kernel
theorem dX8_init_23 : decode cX8_init 23 = .ok (.sipush 4712, 3) := by decide +kernel
theorem dX8_init_26 : decode cX8_init 26 = .ok (.newarray .int, 2) := by decide +kernel
theorem dX8_init_28 : decode cX8_init 28 = .ok (.putfield 20, 3) := by decide +kernel
theorem dX8_init_31 : decode cX8_init 31 = .ok (.aload_n 0, 1) := by decide +kernel
theorem dX8_init_32 : decode cX8_init 32 = .ok (.sipush 4712, 3) := by decide +kernel
theorem dX8_init_35 : decode cX8_init 35 = .ok (.newarray .int, 2) := by decide +kernel
theorem dX8_init_37 : decode cX8_init 37 = .ok (.putfield 23, 3) := by decide +kernel
theorem dX8_init_40 : decode cX8_init 40 = .ok (.aload_n 0, 1) := by decide +kernel
theorem dX8_init_41 : decode cX8_init 41 = .ok (.sipush 4712, 3) := by decide +kernel
theorem dX8_init_44 : decode cX8_init 44 = .ok (.newarray .int, 2) := by decide +kernel
theorem dX8_init_46 : decode cX8_init 46 = .ok (.putfield 26, 3) := by decide +kernel
theorem dX8_init_49 : decode cX8_init 49 = .ok (.aload_n 0, 1) := by decide +kernel
theorem dX8_init_50 : decode cX8_init 50 = .ok (.sipush 4712, 3) := by decide +kernel
theorem dX8_init_53 : decode cX8_init 53 = .ok (.newarray .int, 2) := by decide +kernel
theorem dX8_init_55 : decode cX8_init 55 = .ok (.putfield 29, 3) := by decide +kernel
theorem dX8_init_58 : decode cX8_init 58 = .ok (.aload_n 0, 1) := by decide +kernel
theorem dX8_init_59 : decode cX8_init 59 = .ok (.sipush 162, 3) := by decide +kernel
theorem dX8_init_62 : decode cX8_init 62 = .ok (.newarray .int, 2) := by decide +kernel
theorem dX8_init_64 : decode cX8_init 64 = .ok (.putfield 34, 3) := by decide +kernel
theorem dX8_init_67 : decode cX8_init 67 = .ok (.return_, 1) := by decide +kernel
theorem dX11_init_0 : decode cX11_init 0 = .ok (.aload_n 0, 1) := by decide +kernel
theorem dX11_init_1 : decode cX11_init 1 = .ok (.invokespecial 5, 3) := by decide +kernel
theorem dX11_init_4 : decode cX11_init 4 = .ok (.aload_n 0, 1) := by decide +kernel
theorem dX11_init_5 : decode cX11_init 5 = .ok (.sipush 162, 3) := by decide +kernel
theorem dX11_init_8 : decode cX11_init 8 = .ok (.newarray .int, 2) := by decide +kernel
theorem dX11_init_10 : decode cX11_init 10 = .ok (.putfield 11, 3) := by decide +kernel
theorem dX11_init_13 : decode cX11_init 13 = .ok (.aload_n 0, 1) := by decide +kernel
theorem dX11_init_14 : decode cX11_init 14 = .ok (.sipush 162, 3) := by decide +kernel
theorem dX11_init_17 : decode cX11_init 17 = .ok (.newarray .int, 2) := by decide +kernel
theorem dX11_init_19 : decode cX11_init 19 = .ok (.putfield 17, 3) := by decide +kernel
theorem dX11_init_22 : decode cX11_init 22 = .ok (.aload_n 0, 1) := by decide +kernel
theorem dX11_init_23 : decode cX11_init 23 = .ok (.sipush 1944, 3) := by decide +kernel
theorem dX11_init_26 : decode cX11_init 26 = .ok (.newarray .int, 2) := by decide +kernel
theorem dX11_init_28 : decode cX11_init 28 = .ok (.putfield 22, 3) := by decide +kernel
theorem dX11_init_31 : decode cX11_init 31 = .ok (.aload_n 0, 1) := by decide +kernel
theorem dX11_init_32 : decode cX11_init 32 = .ok (.bipush 41, 2) := by decide +kernel
theorem dX11_init_34 : decode cX11_init 34 = .ok (.newarray .int, 2) := by decide +kernel
theorem dX11_init_36 : decode cX11_init 36 = .ok (.putfield 25, 3) := by decide +kernel
theorem dX11_init_39 : decode cX11_init 39 = .ok (.aload_n 0, 1) := by decide +kernel
theorem dX11_init_40 : decode cX11_init 40 = .ok (.bipush 41, 2) := by decide +kernel
theorem dX11_init_42 : decode cX11_init 42 = .ok (.newarray .int, 2) := by decide +kernel
theorem dX11_init_44 : decode cX11_init 44 = .ok (.putfield 28, 3) := by decide +kernel
theorem dX11_init_47 : decode cX11_init 47 = .ok (.aload_n 0, 1) := by decide +kernel
theorem dX11_init_48 : decode cX11_init 48 = .ok (.bipush 41, 2) := by decide +kernel
theorem dX11_init_50 : decode cX11_init 50 = .ok (.newarray .int, 2) := by decide +kernel
theorem dX11_init_52 : decode cX11_init 52 = .ok (.putfield 31, 3) := by decide +kernel
theorem dX11_init_55 : decode cX11_init 55 = .ok (.aload_n 0, 1) := by decide +kernel
theorem dX11_init_56 : decode cX11_init 56 = .ok (.sipush 6232, 3) := by decide +kernel
theorem dX11_init_59 : decode cX11_init 59 = .ok (.newarray .int, 2) := by decide +kernel
theorem dX11_init_61 : decode cX11_init 61 = .ok (.putfield 34, 3) := by decide +kernel
theorem dX11_init_64 : decode cX11_init 64 = .ok (.aload_n 0, 1) := by decide +kernel
theorem dX11_init_65 : decode cX11_init 65 = .ok (.sipush 152, 3) := by decide +kernel
theorem dX11_init_68 : decode cX11_init 68 = .ok (.newarray .int, 2) := by decide +kernel
theorem dX11_init_70 : decode cX11_init 70 = .ok (.putfield 37, 3) := by decide +kernel
theorem dX11_init_73 : decode cX11_init 73 = .ok (.aload_n 0, 1) := by decide +kernel
theorem dX11_init_74 : decode cX11_init 74 = .ok (.sipush 162, 3) := by decide +kernel
theorem dX11_init_77 : decode cX11_init 77 = .ok (.newarray .int, 2) := by decide +kernel
theorem dX11_init_79 : decode cX11_init 79 = .ok (.putfield 40, 3) := by decide +kernel
theorem dX11_init_82 : decode cX11_init 82 = .ok (.aload_n 0, 1) := by decide +kernel
theorem dX11_init_83 : decode cX11_init 83 = .ok (.sipush 163, 3) := by decide +kernel
theorem dX11_init_86 : decode cX11_init 86 = .ok (.newarray .int, 2) := by decide +kernel
theorem dX11_init_88 : decode cX11_init 88 = .ok (.putfield 43, 3) := by decide +kernel
theorem dX11_init_91 : decode cX11_init 91 = .ok (.aload_n 0, 1) := by decide +kernel
theorem dX11_init_92 : decode cX11_init 92 = .ok (.sipush 20000, 3) := by decide +kernel
theorem dX11_init_95 : decode cX11_init 95 = .ok (.newarray .int, 2) := by decide +kernel
theorem dX11_init_97 : decode cX11_init 97 = .ok (.putfield 46, 3) := by decide +kernel
theorem dX11_init_100 : decode cX11_init 100 = .ok (.return_, 1) := by decide +kernel
theorem dX9_init_0 : decode cX9_init 0 = .ok (.aload_n 0, 1) := by decide +kernel
theorem dX9_init_1 : decode cX9_init 1 = .ok (.invokespecial 5, 3) := by decide +kernel
theorem dX9_init_4 : decode cX9_init 4 = .ok (.aload_n 0, 1) := by decide +kernel
theorem dX9_init_5 : decode cX9_init 5 = .ok (.sipush 10368, 3) := by decide +kernel
theorem dX9_init_8 : decode cX9_init 8 = .ok (.newarray .long, 2) := by decide +kernel
theorem dX9_init_10 : decode cX9_init 10 = .ok (.putfield 15, 3) := by decide +kernel
theorem dX9_init_13 : decode cX9_init 13 = .ok (.aload_n 0, 1) := by decide +kernel
theorem dX9_init_14 : decode cX9_init 14 = .ok (.sipush 10368, 3) := by decide +kernel
theorem dX9_init_17 : decode cX9_init 17 = .ok (.newarray .long, 2) := by decide +kernel
theorem dX9_init_19 : decode cX9_init 19 = .ok (.putfield 19, 3) := by decide +kernel
theorem dX9_init_22 : decode cX9_init 22 = .ok (.aload_n 0, 1) := by decide +kernel
theorem dX9_init_23 : decode cX9_init 23 = .ok (.sipush 162, 3) := by decide +kernel
theorem dX9_init_26 : decode cX9_init 26 = .ok (.newarray .int, 2) := by decide +kernel
theorem dX9_init_28 : decode cX9_init 28 = .ok (.putfield 22, 3) := by decide +kernel
theorem dX9_init_31 : decode cX9_init 31 = .ok (.aload_n 0, 1) := by decide +kernel
theorem dX9_init_32 : decode cX9_init 32 = .ok (.ldc 26, 2) := by decide +kernel
theorem dX9_init_34 : decode cX9_init 34 = .ok (.newarray .long, 2) := by decide +kernel
theorem dX9_init_36 : decode cX9_init 36 = .ok (.putfield 27, 3) := by decide +kernel
theorem dX9_init_39 : decode cX9_init 39 = .ok (.aload_n 0, 1) := by decide +kernel
theorem dX9_init_40 : decode cX9_init 40 = .ok (.sipush 1224, 3) := by decide +kernel
theorem dX9_init_43 : decode cX9_init 43 = .ok (.newarray .int, 2) := by decide +kernel
theorem dX9_init_45 : decode cX9_init 45 = .ok (.putfield 30, 3) := by decide +kernel
theorem dX9_init_48 : decode cX9_init 48 = .ok (.aload_n 0, 1) := by decide +kernel
theorem dX9_init_49 : decode cX9_init 49 = .ok (.sipush 1224, 3) := by decide +kernel
theorem dX9_init_52 : decode cX9_init 52 = .ok (.newarray .int, 2) := by decide +kernel
theorem dX9_init_54 : decode cX9_init 54 = .ok (.putfield 33, 3) := by decide +kernel
theorem dX9_init_57 : decode cX9_init 57 = .ok (.return_, 1) := by decide +kernel
theorem dX4_init_0 : decode cX4_init 0 = .ok (.aload_n 0, 1) := by decide +kernel
theorem dX4_init_1 : decode cX4_init 1 = .ok (.invokespecial 3, 3) := by decide +kernel
theorem dX4_init_4 : decode cX4_init 4 = .ok (.aload_n 0, 1) := by decide +kernel
theorem dX4_init_5 : decode cX4_init 5 = .ok (.sipush 10000, 3) := by decide +kernel
theorem dX4_init_8 : decode cX4_init 8 = .ok (.newarray .int, 2) := by decide +kernel
theorem dX4_init_10 : decode cX4_init 10 = .ok (.putfield 11, 3) := by decide +kernel
theorem dX4_init_13 : decode cX4_init 13 = .ok (.aload_n 0, 1) := by decide +kernel
theorem dX4_init_14 : decode cX4_init 14 = .ok (.sipush 162, 3) := by decide +kernel
theorem dX4_init_17 : decode cX4_init 17 = .ok (.newarray .int, 2) := by decide +kernel
theorem dX4_init_19 : decode cX4_init 19 = .ok (.putfield 17, 3) := by decide +kernel
theorem dX4_init_22 : decode cX4_init 22 = .ok (.aload_n 0, 1) := by decide +kernel
theorem dX4_init_23 : decode cX4_init 23 = .ok (.sipush 2000, 3) := by decide +kernel
theorem dX4_init_26 : decode cX4_init 26 = .ok (.newarray .int, 2) := by decide +kernel
theorem dX4_init_28 : decode cX4_init 28 = .ok (.putfield 20, 3) := by decide +kernel
theorem dX4_init_31 : decode cX4_init 31 = .ok (.aload_n 0, 1) := by decide +kernel
theorem dX4_init_32 : decode cX4_init 32 = .ok (.sipush 2000, 3) := by decide +kernel
theorem dX4_init_35 : decode cX4_init 35 = .ok (.newarray .int, 2) := by decide +kernel
theorem dX4_init_37 : decode cX4_init 37 = .ok (.putfield 23, 3) := by decide +kernel
theorem dX4_init_40 : decode cX4_init 40 = .ok (.aload_n 0, 1) := by decide +kernel
theorem dX4_init_41 : decode cX4_init 41 = .ok (.sipush 652, 3) := by decide +kernel
theorem dX4_init_44 : decode cX4_init 44 = .ok (.newarray .int, 2) := by decide +kernel
theorem dX4_init_46 : decode cX4_init 46 = .ok (.putfield 28, 3) := by decide +kernel
theorem dX4_init_49 : decode cX4_init 49 = .ok (.aload_n 0, 1) := by decide +kernel
theorem dX4_init_50 : decode cX4_init 50 = .ok (.sipush 2000, 3) := by decide +kernel
theorem dX4_init_53 : decode cX4_init 53 = .ok (.newarray .int, 2) := by decide +kernel
theorem dX4_init_55 : decode cX4_init 55 = .ok (.putfield 31, 3) := by decide +kernel
theorem dX4_init_58 : decode cX4_init 58 = .ok (.aload_n 0, 1) := by decide +kernel
theorem dX4_init_59 : decode cX4_init 59 = .ok (.sipush 486, 3) := by decide +kernel
theorem dX4_init_62 : decode cX4_init 62 = .ok (.newarray .long, 2) := by decide +kernel
theorem dX4_init_64 : decode cX4_init 64 = .ok (.putfield 34, 3) := by decide +kernel
theorem dX4_init_67 : decode cX4_init 67 = .ok (.return_, 1) := by decide +kernel
theorem dX3_init_0 : decode cX3_init 0 = .ok (.aload_n 0, 1) := by decide +kernel
theorem dX3_init_1 : decode cX3_init 1 = .ok (.invokespecial 3, 3) := by decide +kernel
theorem dX3_init_4 : decode cX3_init 4 = .ok (.aload_n 0, 1) := by decide +kernel
theorem dX3_init_5 : decode cX3_init 5 = .ok (.sipush 1013, 3) := by decide +kernel
theorem dX3_init_8 : decode cX3_init 8 = .ok (.newarray .int, 2) := by decide +kernel
theorem dX3_init_10 : decode cX3_init 10 = .ok (.putfield 9, 3) := by decide +kernel
theorem dX3_init_13 : decode cX3_init 13 = .ok (.aload_n 0, 1) := by decide +kernel
theorem dX3_init_14 : decode cX3_init 14 = .ok (.sipush 1013, 3) := by decide +kernel
theorem dX3_init_17 : decode cX3_init 17 = .ok (.newarray .int, 2) := by decide +kernel
theorem dX3_init_19 : decode cX3_init 19 = .ok (.putfield 13, 3) := by decide +kernel
theorem dX3_init_22 : decode cX3_init 22 = .ok (.aload_n 0, 1) := by decide +kernel
theorem dX3_init_23 : decode cX3_init 23 = .ok (.sipush 1013, 3) := by decide +kernel
theorem dX3_init_26 : decode cX3_init 26 = .ok (.newarray .int, 2) := by decide +kernel
theorem dX3_init_28 : decode cX3_init 28 = .ok (.putfield 16, 3) := by decide +kernel
theorem dX3_init_31 : decode cX3_init 31 = .ok (.aload_n 0, 1) := by decide +kernel
theorem dX3_init_32 : decode cX3_init 32 = .ok (.bipush 16, 2) := by decide +kernel
theorem dX3_init_34 : decode cX3_init 34 = .ok (.newarray .int, 2) := by decide +kernel
theorem dX3_init_36 : decode cX3_init 36 = .ok (.putfield 19, 3) := by decide +kernel
theorem dX3_init_39 : decode cX3_init 39 = .ok (.aload_n 0, 1) := by decide +kernel
theorem dX3_init_40 : decode cX3_init 40 = .ok (.bipush 6, 2) := by decide +kernel
theorem dX3_init_42 : decode cX3_init 42 = .ok (.newarray .int, 2) := by decide +kernel
theorem dX3_init_44 : decode cX3_init 44 = .ok (.putfield 22, 3) := by decide +kernel
theorem dX3_init_47 : decode cX3_init 47 = .ok (.aload_n 0, 1) := by decide +kernel
theorem dX3_init_48 : decode cX3_init 48 = .ok (.sipush 4096, 3) := by decide +kernel
theorem dX3_init_51 : decode cX3_init 51 = .ok (.newarray .int, 2) := by decide +kernel
theorem dX3_init_53 : decode cX3_init 53 = .ok (.putfield 25, 3) := by decide +kernel
theorem dX3_init_56 : decode cX3_init 56 = .ok (.return_, 1) := by decide +kernel
theorem dX5_init_0 : decode cX5_init 0 = .ok (.aload_n 0, 1) := by decide +kernel
theorem dX5_init_1 : decode cX5_init 1 = .ok (.invokespecial 3, 3) := by decide +kernel
theorem dX5_init_4 : decode cX5_init 4 = .ok (.aload_n 0, 1) := by decide +kernel
theorem dX5_init_5 : decode cX5_init 5 = .ok (.bipush 12, 2) := by decide +kernel
theorem dX5_init_7 : decode cX5_init 7 = .ok (.newarray .int, 2) := by decide +kernel
theorem dX5_init_9 : decode cX5_init 9 = .ok (.putfield 11, 3) := by decide +kernel
theorem dX5_init_12 : decode cX5_init 12 = .ok (.aload_n 0, 1) := by decide +kernel
theorem dX5_init_13 : decode cX5_init 13 = .ok (.bipush 12, 2) := by decide +kernel
theorem dX5_init_15 : decode cX5_init 15 = .ok (.newarray .int, 2) := by decide +kernel
theorem dX5_init_17 : decode cX5_init 17 = .ok (.putfield 15, 3) := by decide +kernel
theorem dX5_init_20 : decode cX5_init 20 = .ok (.aload_n 0, 1) := by decide +kernel
theorem dX5_init_21 : decode cX5_init 21 = .ok (.bipush 12, 2) := by decide +kernel
theorem dX5_init_23 : decode cX5_init 23 = .ok (.newarray .int, 2) := by decide +kernel
theorem dX5_init_25 : decode cX5_init 25 = .ok (.putfield 18, 3) := by decide +kernel
theorem dX5_init_28 : decode cX5_init 28 = .ok (.aload_n 0, 1) := by decide +kernel
theorem dX5_init_29 : decode cX5_init 29 = .ok (.bipush 12, 2) := by decide +kernel
theorem dX5_init_31 : decode cX5_init 31 = .ok (.newarray .int, 2) := by decide +kernel
theorem dX5_init_33 : decode cX5_init 33 = .ok (.putfield 21, 3) := by decide +kernel
theorem dX5_init_36 : decode cX5_init 36 = .ok (.return_, 1) := by decide +kernel
theorem wd_obj : (Cond.code objectInit ⟨#[0xb1]⟩ 1 none) ∈ BG := bg_tb tb_1 43 (by decide +kernel) (by decide +kernel)
theorem wd_368 : (Cond.instanceMethod objectInit) ∈ BG := bg_tb tb_1 42 (by decide +kernel) (by decide +kernel)
theorem wd_375 : (Cond.methodLink RX10 1 objectInit) ∈ BG := bg_tb tb_1 49 (by decide +kernel) (by decide +kernel)
theorem wd_376 : (Cond.constant RX10 9 (65536)) ∈ BG := bg_tb tb_1 50 (by decide +kernel) (by decide +kernel)
theorem wd_377 : (Cond.fieldLink RX10 10 "ChipFlow$Text" "bytes" "[B") ∈ BG := bg_tb tb_1 51 (by decide +kernel) (by decide +kernel)
theorem wd_411 : (Cond.arrayClass .byte) ∈ BG := bg_tb tb_1 85 (by decide +kernel) (by decide +kernel)
theorem wd_417 : (Cond.methodLink RX7 3 objectInit) ∈ BG := bg_tb tb_1 91 (by decide +kernel) (by decide +kernel)
theorem wd_418 : (Cond.constant RX7 11 (65536)) ∈ BG := bg_tb tb_1 92 (by decide +kernel) (by decide +kernel)
theorem wd_419 : (Cond.fieldLink RX7 48 "ChipFlow$Reader" "text" "LChipFlow$Text;") ∈ BG := bg_tb tb_1 93 (by decide +kernel) (by decide +kernel)
theorem wd_421 : (Cond.fieldLink RX7 12 "ChipFlow$Reader" "code" "[I") ∈ BG := bg_tb tb_1 95 (by decide +kernel) (by decide +kernel)
theorem wd_426 : (Cond.fieldLink RX7 18 "ChipFlow$Reader" "moduleName" "[I") ∈ BG := bg_tb tb_1 100 (by decide +kernel) (by decide +kernel)
theorem wd_428 : (Cond.fieldLink RX7 21 "ChipFlow$Reader" "moduleCode" "[I") ∈ BG := bg_tb tb_1 102 (by decide +kernel) (by decide +kernel)
theorem wd_430 : (Cond.fieldLink RX7 24 "ChipFlow$Reader" "moduleNames" "[I") ∈ BG := bg_tb tb_1 104 (by decide +kernel) (by decide +kernel)
theorem wd_432 : (Cond.fieldLink RX7 27 "ChipFlow$Reader" "name" "[I") ∈ BG := bg_tb tb_1 106 (by decide +kernel) (by decide +kernel)
theorem wd_433 : (Cond.fieldLink RX7 30 "ChipFlow$Reader" "sort" "[I") ∈ BG := bg_tb tb_1 107 (by decide +kernel) (by decide +kernel)
theorem wd_435 : (Cond.fieldLink RX7 33 "ChipFlow$Reader" "width" "[I") ∈ BG := bg_tb tb_1 109 (by decide +kernel) (by decide +kernel)
theorem wd_437 : (Cond.fieldLink RX7 36 "ChipFlow$Reader" "detail" "[I") ∈ BG := bg_tb tb_1 111 (by decide +kernel) (by decide +kernel)
theorem wd_440 : (Cond.fieldLink RX7 39 "ChipFlow$Reader" "opKind" "[I") ∈ BG := bg_tb tb_1 114 (by decide +kernel) (by decide +kernel)
theorem wd_441 : (Cond.fieldLink RX7 42 "ChipFlow$Reader" "opPlace" "[I") ∈ BG := bg_tb tb_1 115 (by decide +kernel) (by decide +kernel)
theorem wd_443 : (Cond.fieldLink RX7 45 "ChipFlow$Reader" "held" "[I") ∈ BG := bg_tb tb_1 117 (by decide +kernel) (by decide +kernel)
theorem wd_483 : (Cond.arrayClass .int) ∈ BG := bg_tb tb_1 157 (by decide +kernel) (by decide +kernel)
theorem wd_489 : (Cond.methodLink RX1 7 objectInit) ∈ BG := bg_tb tb_1 163 (by decide +kernel) (by decide +kernel)
theorem wd_490 : (Cond.constant RX1 15 (64320)) ∈ BG := bg_tb tb_1 164 (by decide +kernel) (by decide +kernel)
theorem wd_491 : (Cond.constant RX1 35 (64832)) ∈ BG := bg_tb tb_1 165 (by decide +kernel) (by decide +kernel)
theorem wd_492 : (Cond.fieldLink RX1 43 "ChipFlow$Builder" "reader" "LChipFlow$Reader;") ∈ BG := bg_tb tb_1 166 (by decide +kernel) (by decide +kernel)
theorem wd_494 : (Cond.fieldLink RX1 16 "ChipFlow$Builder" "frames" "[I") ∈ BG := bg_tb tb_1 168 (by decide +kernel) (by decide +kernel)
theorem wd_496 : (Cond.fieldLink RX1 20 "ChipFlow$Builder" "stack" "[I") ∈ BG := bg_tb tb_1 170 (by decide +kernel) (by decide +kernel)
theorem wd_497 : (Cond.fieldLink RX1 23 "ChipFlow$Builder" "wide" "[I") ∈ BG := bg_tb tb_1 171 (by decide +kernel) (by decide +kernel)
theorem wd_499 : (Cond.fieldLink RX1 26 "ChipFlow$Builder" "buckets" "[I") ∈ BG := bg_tb tb_1 173 (by decide +kernel) (by decide +kernel)
theorem wd_502 : (Cond.fieldLink RX1 29 "ChipFlow$Builder" "instances" "[I") ∈ BG := bg_tb tb_1 176 (by decide +kernel) (by decide +kernel)
theorem wd_503 : (Cond.fieldLink RX1 32 "ChipFlow$Builder" "registerBits" "[I") ∈ BG := bg_tb tb_1 177 (by decide +kernel) (by decide +kernel)
theorem wd_504 : (Cond.fieldLink RX1 36 "ChipFlow$Builder" "rows" "[J") ∈ BG := bg_tb tb_1 178 (by decide +kernel) (by decide +kernel)
theorem wd_506 : (Cond.fieldLink RX1 40 "ChipFlow$Builder" "scratch" "[I") ∈ BG := bg_tb tb_1 180 (by decide +kernel) (by decide +kernel)
theorem wd_538 : (Cond.arrayClass .long) ∈ BG := bg_tb tb_1 212 (by decide +kernel) (by decide +kernel)
theorem wd_544 : (Cond.methodLink RX6 3 objectInit) ∈ BG := bg_tb tb_1 218 (by decide +kernel) (by decide +kernel)
theorem wd_547 : (Cond.fieldLink RX6 11 "ChipFlow$Mapper" "needed" "[I") ∈ BG := bg_tb tb_1 221 (by decide +kernel) (by decide +kernel)
theorem wd_548 : (Cond.fieldLink RX6 17 "ChipFlow$Mapper" "root" "[I") ∈ BG := bg_tb tb_1 222 (by decide +kernel) (by decide +kernel)
theorem wd_549 : (Cond.fieldLink RX6 20 "ChipFlow$Mapper" "need" "[I") ∈ BG := bg_tb tb_1 223 (by decide +kernel) (by decide +kernel)
theorem wd_550 : (Cond.fieldLink RX6 23 "ChipFlow$Mapper" "wayCell" "[I") ∈ BG := bg_tb tb_1 224 (by decide +kernel) (by decide +kernel)
theorem wd_551 : (Cond.fieldLink RX6 26 "ChipFlow$Mapper" "wayTurns" "[I") ∈ BG := bg_tb tb_1 225 (by decide +kernel) (by decide +kernel)
theorem wd_552 : (Cond.fieldLink RX6 29 "ChipFlow$Mapper" "wayNodes" "[I") ∈ BG := bg_tb tb_1 226 (by decide +kernel) (by decide +kernel)
theorem wd_553 : (Cond.fieldLink RX6 32 "ChipFlow$Mapper" "cuts" "[I") ∈ BG := bg_tb tb_1 227 (by decide +kernel) (by decide +kernel)
theorem wd_554 : (Cond.fieldLink RX6 35 "ChipFlow$Mapper" "cutOrder" "[I") ∈ BG := bg_tb tb_1 228 (by decide +kernel) (by decide +kernel)
theorem wd_555 : (Cond.fieldLink RX6 38 "ChipFlow$Mapper" "cutTable" "[I") ∈ BG := bg_tb tb_1 229 (by decide +kernel) (by decide +kernel)
theorem wd_557 : (Cond.fieldLink RX6 41 "ChipFlow$Mapper" "members" "[I") ∈ BG := bg_tb tb_1 231 (by decide +kernel) (by decide +kernel)
theorem wd_559 : (Cond.fieldLink RX6 46 "ChipFlow$Mapper" "views" "[I") ∈ BG := bg_tb tb_1 233 (by decide +kernel) (by decide +kernel)
theorem wd_560 : (Cond.fieldLink RX6 49 "ChipFlow$Mapper" "inner" "[I") ∈ BG := bg_tb tb_1 234 (by decide +kernel) (by decide +kernel)
theorem wd_561 : (Cond.fieldLink RX6 52 "ChipFlow$Mapper" "values" "[I") ∈ BG := bg_tb tb_1 235 (by decide +kernel) (by decide +kernel)
theorem wd_562 : (Cond.fieldLink RX6 55 "ChipFlow$Mapper" "made" "[I") ∈ BG := bg_tb tb_1 236 (by decide +kernel) (by decide +kernel)
theorem wd_563 : (Cond.fieldLink RX6 58 "ChipFlow$Mapper" "tasks" "[I") ∈ BG := bg_tb tb_1 237 (by decide +kernel) (by decide +kernel)
theorem wd_608 : (Cond.methodLink RX8 3 objectInit) ∈ BG := bg_tb tb_2 42 (by decide +kernel) (by decide +kernel)
theorem wd_612 : (Cond.fieldLink RX8 11 "ChipFlow$Router" "kept" "[I") ∈ BG := bg_tb tb_2 46 (by decide +kernel) (by decide +kernel)
theorem wd_613 : (Cond.fieldLink RX8 17 "ChipFlow$Router" "distance" "[I") ∈ BG := bg_tb tb_2 47 (by decide +kernel) (by decide +kernel)
theorem wd_614 : (Cond.fieldLink RX8 20 "ChipFlow$Router" "near" "[I") ∈ BG := bg_tb tb_2 48 (by decide +kernel) (by decide +kernel)
theorem wd_616 : (Cond.fieldLink RX8 23 "ChipFlow$Router" "far" "[I") ∈ BG := bg_tb tb_2 50 (by decide +kernel) (by decide +kernel)
theorem wd_618 : (Cond.fieldLink RX8 26 "ChipFlow$Router" "way" "[I") ∈ BG := bg_tb tb_2 52 (by decide +kernel) (by decide +kernel)
theorem wd_619 : (Cond.fieldLink RX8 29 "ChipFlow$Router" "tree" "[I") ∈ BG := bg_tb tb_2 53 (by decide +kernel) (by decide +kernel)
theorem wd_621 : (Cond.fieldLink RX8 34 "ChipFlow$Router" "row" "[I") ∈ BG := bg_tb tb_2 55 (by decide +kernel) (by decide +kernel)
theorem wd_657 : (Cond.methodLink RX11 5 objectInit) ∈ BG := bg_tb tb_2 91 (by decide +kernel) (by decide +kernel)
theorem wd_658 : (Cond.fieldLink RX11 11 "ChipFlow$Times" "time" "[I") ∈ BG := bg_tb tb_2 92 (by decide +kernel) (by decide +kernel)
theorem wd_659 : (Cond.fieldLink RX11 17 "ChipFlow$Times" "arrive" "[I") ∈ BG := bg_tb tb_2 93 (by decide +kernel) (by decide +kernel)
theorem wd_660 : (Cond.fieldLink RX11 22 "ChipFlow$Times" "rest" "[I") ∈ BG := bg_tb tb_2 94 (by decide +kernel) (by decide +kernel)
theorem wd_664 : (Cond.fieldLink RX11 25 "ChipFlow$Times" "order" "[I") ∈ BG := bg_tb tb_2 98 (by decide +kernel) (by decide +kernel)
theorem wd_665 : (Cond.fieldLink RX11 28 "ChipFlow$Times" "bound" "[I") ∈ BG := bg_tb tb_2 99 (by decide +kernel) (by decide +kernel)
theorem wd_666 : (Cond.fieldLink RX11 31 "ChipFlow$Times" "size" "[I") ∈ BG := bg_tb tb_2 100 (by decide +kernel) (by decide +kernel)
theorem wd_667 : (Cond.fieldLink RX11 34 "ChipFlow$Times" "rows" "[I") ∈ BG := bg_tb tb_2 101 (by decide +kernel) (by decide +kernel)
theorem wd_668 : (Cond.fieldLink RX11 37 "ChipFlow$Times" "trail" "[I") ∈ BG := bg_tb tb_2 102 (by decide +kernel) (by decide +kernel)
theorem wd_676 : (Cond.fieldLink RX11 40 "ChipFlow$Times" "before" "[I") ∈ BG := bg_tb tb_2 110 (by decide +kernel) (by decide +kernel)
theorem wd_677 : (Cond.fieldLink RX11 43 "ChipFlow$Times" "waveFrom" "[I") ∈ BG := bg_tb tb_2 111 (by decide +kernel) (by decide +kernel)
theorem wd_678 : (Cond.fieldLink RX11 46 "ChipFlow$Times" "change" "[I") ∈ BG := bg_tb tb_2 112 (by decide +kernel) (by decide +kernel)
theorem wd_725 : (Cond.methodLink RX9 5 objectInit) ∈ BG := bg_tb tb_2 159 (by decide +kernel) (by decide +kernel)
theorem wd_726 : (Cond.constant RX9 26 (78336)) ∈ BG := bg_tb tb_2 160 (by decide +kernel) (by decide +kernel)
theorem wd_731 : (Cond.fieldLink RX9 15 "ChipFlow$Tester" "good" "[J") ∈ BG := bg_tb tb_2 165 (by decide +kernel) (by decide +kernel)
theorem wd_732 : (Cond.fieldLink RX9 19 "ChipFlow$Tester" "bad" "[J") ∈ BG := bg_tb tb_2 166 (by decide +kernel) (by decide +kernel)
theorem wd_733 : (Cond.fieldLink RX9 22 "ChipFlow$Tester" "touched" "[I") ∈ BG := bg_tb tb_2 167 (by decide +kernel) (by decide +kernel)
theorem wd_734 : (Cond.fieldLink RX9 27 "ChipFlow$Tester" "shown" "[J") ∈ BG := bg_tb tb_2 168 (by decide +kernel) (by decide +kernel)
theorem wd_735 : (Cond.fieldLink RX9 30 "ChipFlow$Tester" "ready" "[I") ∈ BG := bg_tb tb_2 169 (by decide +kernel) (by decide +kernel)
theorem wd_736 : (Cond.fieldLink RX9 33 "ChipFlow$Tester" "tally" "[I") ∈ BG := bg_tb tb_2 170 (by decide +kernel) (by decide +kernel)
theorem wd_764 : (Cond.methodLink RX3 3 objectInit) ∈ BG := bg_tb tb_2 198 (by decide +kernel) (by decide +kernel)
theorem wd_795 : (Cond.fieldLink RX3 9 "ChipFlow$Design" "low" "[I") ∈ BG := bg_tb tb_2 229 (by decide +kernel) (by decide +kernel)
theorem wd_799 : (Cond.fieldLink RX3 13 "ChipFlow$Design" "high" "[I") ∈ BG := bg_tb tb_2 233 (by decide +kernel) (by decide +kernel)
theorem wd_803 : (Cond.fieldLink RX3 16 "ChipFlow$Design" "standsFor" "[I") ∈ BG := bg_tb tb_2 237 (by decide +kernel) (by decide +kernel)
theorem wd_806 : (Cond.fieldLink RX3 19 "ChipFlow$Design" "outRoot" "[I") ∈ BG := bg_tb tb_3 0 (by decide +kernel) (by decide +kernel)
theorem wd_809 : (Cond.fieldLink RX3 22 "ChipFlow$Design" "nextRoot" "[I") ∈ BG := bg_tb tb_3 3 (by decide +kernel) (by decide +kernel)
theorem wd_812 : (Cond.fieldLink RX3 25 "ChipFlow$Design" "table" "[I") ∈ BG := bg_tb tb_3 6 (by decide +kernel) (by decide +kernel)
theorem wd_854 : (Cond.methodLink RX5 3 objectInit) ∈ BG := bg_tb tb_3 48 (by decide +kernel) (by decide +kernel)
theorem wd_864 : (Cond.fieldLink RX5 11 "ChipFlow$Library" "inputs" "[I") ∈ BG := bg_tb tb_3 58 (by decide +kernel) (by decide +kernel)
theorem wd_868 : (Cond.fieldLink RX5 15 "ChipFlow$Library" "table" "[I") ∈ BG := bg_tb tb_3 62 (by decide +kernel) (by decide +kernel)
theorem wd_873 : (Cond.fieldLink RX5 18 "ChipFlow$Library" "area" "[I") ∈ BG := bg_tb tb_3 67 (by decide +kernel) (by decide +kernel)
theorem wd_877 : (Cond.fieldLink RX5 21 "ChipFlow$Library" "delay" "[I") ∈ BG := bg_tb tb_3 71 (by decide +kernel) (by decide +kernel)
theorem wd_915 : (Cond.methodLink RX4 3 objectInit) ∈ BG := bg_tb tb_3 109 (by decide +kernel) (by decide +kernel)
theorem wd_921 : (Cond.fieldLink RX4 11 "ChipFlow$Layout" "boxes" "[I") ∈ BG := bg_tb tb_3 115 (by decide +kernel) (by decide +kernel)
theorem wd_937 : (Cond.fieldLink RX4 17 "ChipFlow$Layout" "nextBox" "[I") ∈ BG := bg_tb tb_3 131 (by decide +kernel) (by decide +kernel)
theorem wd_938 : (Cond.fieldLink RX4 20 "ChipFlow$Layout" "nearOnes" "[I") ∈ BG := bg_tb tb_3 132 (by decide +kernel) (by decide +kernel)
theorem wd_939 : (Cond.fieldLink RX4 23 "ChipFlow$Layout" "parent" "[I") ∈ BG := bg_tb tb_3 133 (by decide +kernel) (by decide +kernel)
theorem wd_940 : (Cond.fieldLink RX4 28 "ChipFlow$Layout" "pinPart" "[I") ∈ BG := bg_tb tb_3 134 (by decide +kernel) (by decide +kernel)
theorem wd_941 : (Cond.fieldLink RX4 31 "ChipFlow$Layout" "partPins" "[I") ∈ BG := bg_tb tb_3 135 (by decide +kernel) (by decide +kernel)
theorem wd_942 : (Cond.fieldLink RX4 34 "ChipFlow$Layout" "shorted" "[J") ∈ BG := bg_tb tb_3 136 (by decide +kernel) (by decide +kernel)
