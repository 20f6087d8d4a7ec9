/-! names and tables of the shadow machine: written by wip/gen/tables.py out of the printed names -/
def RX0 : String := "FoldDye$Bundle"
def TX0 : u_T := fun k => match k with
  | 0 => ("FoldDye$Bundle", "row", "[I", true)
  | 1 => ("FoldDye$Bundle", "column", "[I", true)
  | 2 => ("FoldDye$Bundle", "height", "[I", true)
  | 3 => ("FoldDye$Bundle", "sizes", "[I", true)
  | 4 => ("FoldDye$Bundle", "cells", "I", false)
  | 5 => ("FoldDye$Bundle", "rows", "I", false)
  | _ => ("FoldDye$Bundle", "columns", "I", false)
def tyX0 : Nat → FieldType := fun k => match k with
  | 0 => .array .int
  | 1 => .array .int
  | 2 => .array .int
  | 3 => .array .int
  | 4 => .int
  | 5 => .int
  | _ => .int
theorem nmX0 : ∀ a, a < 7 → ∀ b, b < 7 → a ≠ b → (TX0 a).2.1 ≠ (TX0 b).2.1 := by decide +kernel
theorem tyX0_ok : ∀ k, k < 7 → parseFieldDescriptor (TX0 k).2.2.1 = some (tyX0 k) := by decide +kernel
def RX1 : String := "FoldDye$Cloth"
def TX1 : u_T := fun k => match k with
  | 0 => ("FoldDye$Cloth", "rows", "I", true)
  | 1 => ("FoldDye$Cloth", "columns", "I", true)
  | 2 => ("FoldDye$Cloth", "cells", "I", true)
  | 3 => ("FoldDye$Cloth", "depths", "[I", true)
  | 4 => ("FoldDye$Cloth", "shut", "[Z", true)
  | 5 => ("FoldDye$Cloth", "bundle", "LFoldDye$Bundle;", true)
  | 6 => ("FoldDye$Cloth", "folds", "I", false)
  | 7 => ("FoldDye$Cloth", "boards", "I", false)
  | 8 => ("FoldDye$Cloth", "torn", "I", false)
  | _ => ("FoldDye$Cloth", "soaked", "Z", false)
def tyX1 : Nat → FieldType := fun k => match k with
  | 0 => .int
  | 1 => .int
  | 2 => .int
  | 3 => .array .int
  | 4 => .array .boolean
  | 5 => .object "FoldDye$Bundle"
  | 6 => .int
  | 7 => .int
  | 8 => .int
  | _ => .boolean
theorem nmX1 : ∀ a, a < 10 → ∀ b, b < 10 → a ≠ b → (TX1 a).2.1 ≠ (TX1 b).2.1 := by decide +kernel
theorem tyX1_ok : ∀ k, k < 10 → parseFieldDescriptor (TX1 k).2.2.1 = some (tyX1 k) := by decide +kernel
def RX2 : String := "FoldDye$Search"
def TX2 : u_T := fun k => match k with
  | 0 => ("FoldDye$Search", "tried", "LFoldDye$Way;", true)
  | 1 => ("FoldDye$Search", "flat", "LFoldDye$Bundle;", true)
  | 2 => ("FoldDye$Search", "once", "LFoldDye$Bundle;", true)
  | 3 => ("FoldDye$Search", "twice", "LFoldDye$Bundle;", true)
  | 4 => ("FoldDye$Search", "cellsAt", "[I", true)
  | 5 => ("FoldDye$Search", "cellsOfColumn", "[I", true)
  | 6 => ("FoldDye$Search", "allCells", "I", false)
  | 7 => ("FoldDye$Search", "darkCells", "I", false)
  | _ => ("FoldDye$Search", "least", "I", false)
def tyX2 : Nat → FieldType := fun k => match k with
  | 0 => .object "FoldDye$Way"
  | 1 => .object "FoldDye$Bundle"
  | 2 => .object "FoldDye$Bundle"
  | 3 => .object "FoldDye$Bundle"
  | 4 => .array .int
  | 5 => .array .int
  | 6 => .int
  | 7 => .int
  | _ => .int
theorem nmX2 : ∀ a, a < 9 → ∀ b, b < 9 → a ≠ b → (TX2 a).2.1 ≠ (TX2 b).2.1 := by decide +kernel
theorem tyX2_ok : ∀ k, k < 9 → parseFieldDescriptor (TX2 k).2.2.1 = some (tyX2 k) := by decide +kernel
def RX3 : String := "FoldDye$Seep"
def TX3 : u_T := fun k => match k with
  | 0 => ("FoldDye$Seep", "starts", "[I", true)
  | 1 => ("FoldDye$Seep", "minutes", "[I", true)
  | 2 => ("FoldDye$Seep", "layer", "I", false)
  | _ => ("FoldDye$Seep", "side", "I", false)
def tyX3 : Nat → FieldType := fun k => match k with
  | 0 => .array .int
  | 1 => .array .int
  | 2 => .int
  | _ => .int
theorem nmX3 : ∀ a, a < 4 → ∀ b, b < 4 → a ≠ b → (TX3 a).2.1 ≠ (TX3 b).2.1 := by decide +kernel
theorem tyX3_ok : ∀ k, k < 4 → parseFieldDescriptor (TX3 k).2.2.1 = some (tyX3 k) := by decide +kernel
def RX4 : String := "FoldDye$Way"
def TX4 : u_T := fun k => match k with
  | 0 => ("FoldDye$Way", "facts", "[I", true)
  | _ => ("FoldDye$Way", "folds", "I", false)
def tyX4 : Nat → FieldType := fun k => match k with
  | 0 => .array .int
  | _ => .int
theorem nmX4 : ∀ a, a < 2 → ∀ b, b < 2 → a ≠ b → (TX4 a).2.1 ≠ (TX4 b).2.1 := by decide +kernel
theorem tyX4_ok : ∀ k, k < 2 → parseFieldDescriptor (TX4 k).2.2.1 = some (tyX4 k) := by decide +kernel
def RX5 : String := "FoldDye$Wish"
def TX5 : u_T := fun k => match k with
  | 0 => ("FoldDye$Wish", "rows", "I", false)
  | 1 => ("FoldDye$Wish", "columns", "I", false)
  | _ => ("FoldDye$Wish", "darkCells", "I", false)
def tyX5 : Nat → FieldType := fun k => match k with
  | 0 => .int
  | 1 => .int
  | _ => .int
theorem nmX5 : ∀ a, a < 3 → ∀ b, b < 3 → a ≠ b → (TX5 a).2.1 ≠ (TX5 b).2.1 := by decide +kernel
theorem tyX5_ok : ∀ k, k < 3 → parseFieldDescriptor (TX5 k).2.2.1 = some (tyX5 k) := by decide +kernel
def RX6 : String := "FoldDye"
def TX6 : u_T := fun k => match k with
  | 0 => ("FoldDye", "rules", "[I", true)
  | 1 => ("FoldDye", "cloths", "[LFoldDye$Cloth;", true)
  | 2 => ("FoldDye", "woven", "I", false)
  | 3 => ("FoldDye", "seep", "LFoldDye$Seep;", true)
  | 4 => ("FoldDye", "wanted", "LFoldDye$Wish;", true)
  | 5 => ("FoldDye", "search", "LFoldDye$Search;", true)
  | _ => ("FoldDye", "latest", "LFoldDye$Way;", true)
def tyX6 : Nat → FieldType := fun k => match k with
  | 0 => .array .int
  | 1 => .array (.object "FoldDye$Cloth")
  | 2 => .int
  | 3 => .object "FoldDye$Seep"
  | 4 => .object "FoldDye$Wish"
  | 5 => .object "FoldDye$Search"
  | _ => .object "FoldDye$Way"
theorem nmX6 : ∀ a, a < 7 → ∀ b, b < 7 → a ≠ b → (TX6 a).2.1 ≠ (TX6 b).2.1 := by decide +kernel
theorem tyX6_ok : ∀ k, k < 7 → parseFieldDescriptor (TX6 k).2.2.1 = some (tyX6 k) := by decide +kernel
def RX7 : String := "FoldDyeModel"
def TX7 : u_T := fun k => match k with
  | 0 => ("FoldDyeModel", "clothRows", "[I", true)
  | 1 => ("FoldDyeModel", "clothColumns", "[I", true)
  | 2 => ("FoldDyeModel", "cloths", "I", false)
  | 3 => ("FoldDyeModel", "depth", "[I", true)
  | 4 => ("FoldDyeModel", "row", "[I", true)
  | 5 => ("FoldDyeModel", "column", "[I", true)
  | 6 => ("FoldDyeModel", "high", "[I", true)
  | 7 => ("FoldDyeModel", "bundleRows", "[I", true)
  | 8 => ("FoldDyeModel", "bundleColumns", "[I", true)
  | 9 => ("FoldDyeModel", "folds", "[I", true)
  | 10 => ("FoldDyeModel", "isSoaked", "[Z", true)
  | 11 => ("FoldDyeModel", "torn", "[I", true)
  | 12 => ("FoldDyeModel", "boards", "[I", true)
  | 13 => ("FoldDyeModel", "boardFirstRow", "[I", true)
  | 14 => ("FoldDyeModel", "boardLastRow", "[I", true)
  | 15 => ("FoldDyeModel", "boardFirstColumn", "[I", true)
  | 16 => ("FoldDyeModel", "boardLastColumn", "[I", true)
  | 17 => ("FoldDyeModel", "layer", "I", false)
  | 18 => ("FoldDyeModel", "side", "I", false)
  | 19 => ("FoldDyeModel", "fade", "I", false)
  | 20 => ("FoldDyeModel", "lies", "[I", true)
  | 21 => ("FoldDyeModel", "stack", "[I", true)
  | 22 => ("FoldDyeModel", "reach", "[I", true)
  | 23 => ("FoldDyeModel", "newRow", "[I", true)
  | 24 => ("FoldDyeModel", "newColumn", "[I", true)
  | 25 => ("FoldDyeModel", "newHigh", "[I", true)
  | 26 => ("FoldDyeModel", "wishRows", "I", false)
  | 27 => ("FoldDyeModel", "wishColumns", "I", false)
  | 28 => ("FoldDyeModel", "isDark", "[Z", true)
  | 29 => ("FoldDyeModel", "tryKind", "[I", true)
  | 30 => ("FoldDyeModel", "tryLine", "[I", true)
  | 31 => ("FoldDyeModel", "tryHow", "[I", true)
  | 32 => ("FoldDyeModel", "toldFold", "[I", true)
  | 33 => ("FoldDyeModel", "toldFolds", "I", false)
  | 34 => ("FoldDyeModel", "toldBoard", "[I", true)
  | 35 => ("FoldDyeModel", "hasBoard", "Z", false)
  | 36 => ("FoldDyeModel", "hasWay", "Z", false)
  | 37 => ("FoldDyeModel", "bathMinutes", "I", false)
  | 38 => ("FoldDyeModel", "bathStrength", "I", false)
  | _ => ("FoldDyeModel", "least", "I", false)
def tyX7 : Nat → FieldType := fun k => match k with
  | 0 => .array .int
  | 1 => .array .int
  | 2 => .int
  | 3 => .array .int
  | 4 => .array .int
  | 5 => .array .int
  | 6 => .array .int
  | 7 => .array .int
  | 8 => .array .int
  | 9 => .array .int
  | 10 => .array .boolean
  | 11 => .array .int
  | 12 => .array .int
  | 13 => .array .int
  | 14 => .array .int
  | 15 => .array .int
  | 16 => .array .int
  | 17 => .int
  | 18 => .int
  | 19 => .int
  | 20 => .array .int
  | 21 => .array .int
  | 22 => .array .int
  | 23 => .array .int
  | 24 => .array .int
  | 25 => .array .int
  | 26 => .int
  | 27 => .int
  | 28 => .array .boolean
  | 29 => .array .int
  | 30 => .array .int
  | 31 => .array .int
  | 32 => .array .int
  | 33 => .int
  | 34 => .array .int
  | 35 => .boolean
  | 36 => .boolean
  | 37 => .int
  | 38 => .int
  | _ => .int
theorem nmX7 : ∀ a, a < 40 → ∀ b, b < 40 → a ≠ b → (TX7 a).2.1 ≠ (TX7 b).2.1 := by decide +kernel
theorem tyX7_ok : ∀ k, k < 40 → parseFieldDescriptor (TX7 k).2.2.1 = some (tyX7 k) := by decide +kernel
/-- the words that a call keeps -/
def fx_tb : List Cond := lw_tbl.filter goodWord
theorem fx_sub {ws : List Cond} (ps : List Nat) (h : ws = ps.filterMap (fun i => lw_tbl[i]?)) (hg : ws.all goodWord = true) : ∀ w ∈ ws, w ∈ fx_tb := by
  intro w hw
  have h1 := List.all_eq_true.mp hg w hw
  rw [h] at hw
  obtain ⟨i, -, hi⟩ := List.mem_filterMap.mp hw
  exact List.mem_filter.mpr ⟨List.mem_of_getElem? hi, h1⟩
theorem fx_tb_in : ∀ w ∈ fx_tb, w ∈ lw_tbl := fun w h => (List.mem_filter.mp h).1
theorem fx_tb_good : ∀ w ∈ fx_tb, goodWord w = true := fun w h => (List.mem_filter.mp h).2
theorem inX0 : ∀ w ∈ u_ws RX0 TX0 7, w ∈ fx_tb := fx_sub [162, 164, 166, 168, 170, 172, 174] (by decide +kernel) (by decide +kernel)
theorem inX1 : ∀ w ∈ u_ws RX1 TX1 10, w ∈ fx_tb := fx_sub [272, 274, 276, 278, 280, 282, 284, 286, 288, 290] (by decide +kernel) (by decide +kernel)
theorem inX2 : ∀ w ∈ u_ws RX2 TX2 9, w ∈ fx_tb := fx_sub [187, 189, 191, 193, 195, 197, 199, 201, 203] (by decide +kernel) (by decide +kernel)
theorem inX3 : ∀ w ∈ u_ws RX3 TX3 4, w ∈ fx_tb := fx_sub [81, 83, 85, 87] (by decide +kernel) (by decide +kernel)
theorem inX4 : ∀ w ∈ u_ws RX4 TX4 2, w ∈ fx_tb := fx_sub [132, 134] (by decide +kernel) (by decide +kernel)
theorem inX5 : ∀ w ∈ u_ws RX5 TX5 3, w ∈ fx_tb := fx_sub [106, 108, 110] (by decide +kernel) (by decide +kernel)
theorem inX6 : ∀ w ∈ u_ws RX6 TX6 7, w ∈ fx_tb := fx_sub [215, 217, 219, 221, 223, 225, 227] (by decide +kernel) (by decide +kernel)
theorem inX7 : ∀ w ∈ u_ws RX7 TX7 40, w ∈ fx_tb := fx_sub [657, 659, 661, 663, 665, 667, 669, 671, 673, 675, 677, 679, 681, 683, 685, 687, 689, 691, 693, 695, 697, 699, 701, 703, 705, 707, 709, 711, 713, 715, 717, 719, 721, 723, 725, 727, 729, 731, 733, 735] (by decide +kernel) (by decide +kernel)
abbrev fx_cl : List vw_C := [(RX0, TX0, 7), (RX1, TX1, 10), (RX2, TX2, 9), (RX3, TX3, 4), (RX4, TX4, 2), (RX5, TX5, 3), (RX6, TX6, 7), (RX7, TX7, 40)]
def fx_cs (n : Nat) : String := ["FoldDye$Bundle", "FoldDye$Cloth", "FoldDye$Search", "FoldDye$Seep", "FoldDye$Way", "FoldDye$Wish", "FoldDye", "FoldDyeModel", "java/lang/Integer", "java/lang/Math", "java/util/Arrays"].getD n ""
/-- a method: its class, name, code, locals, answer, level -/
def fx_mt : List (Nat × MethodName × ByteArray × Nat × Option FieldType × Nat) := [
  (0, ⟨"FoldDye$Bundle", "spread", "(II)V"⟩, prog_2_method_2_code, 5, none, 3),
  (0, ⟨"FoldDye$Bundle", "become", "(LFoldDye$Bundle;)V"⟩, prog_2_method_3_code, 2, none, 1),
  (0, ⟨"FoldDye$Bundle", "isAt", "(IIII)Z"⟩, prog_2_method_4_code, 5, (some .boolean), 1),
  (0, ⟨"FoldDye$Bundle", "sizeAt", "(II)I"⟩, prog_2_method_5_code, 3, (some .int), 1),
  (0, ⟨"FoldDye$Bundle", "hasBareSide", "(II)Z"⟩, prog_2_method_6_code, 4, (some .boolean), 2),
  (0, ⟨"FoldDye$Bundle", "thickness", "()I"⟩, prog_2_method_7_code, 3, (some .int), 1),
  (0, ⟨"FoldDye$Bundle", "placesWithCells", "()I"⟩, prog_2_method_8_code, 3, (some .int), 1),
  (0, ⟨"FoldDye$Bundle", "hasLine", "(II)Z"⟩, prog_2_method_9_code, 3, (some .boolean), 1),
  (0, ⟨"FoldDye$Bundle", "canSlant", "()Z"⟩, prog_2_method_10_code, 1, (some .boolean), 1),
  (0, ⟨"FoldDye$Bundle", "thicknessAfter", "(II)I"⟩, prog_2_method_11_code, 6, (some .int), 3),
  (0, ⟨"FoldDye$Bundle", "crease", "(III)V"⟩, prog_2_method_12_code, 9, none, 3),
  (0, ⟨"FoldDye$Bundle", "matesOf", "(IIII)I"⟩, prog_2_method_13_code, 6, (some .int), 2),
  (0, ⟨"FoldDye$Bundle", "comes", "(IIII)Z"⟩, prog_2_method_14_code, 4, (some .boolean), 1),
  (0, ⟨"FoldDye$Bundle", "rowAcross", "(IIII)I"⟩, prog_2_method_15_code, 4, (some .int), 1),
  (0, ⟨"FoldDye$Bundle", "columnAcross", "(IIII)I"⟩, prog_2_method_16_code, 4, (some .int), 1),
  (0, ⟨"FoldDye$Bundle", "trim", "()V"⟩, prog_2_method_17_code, 6, none, 1),
  (0, ⟨"FoldDye$Bundle", "countSizes", "()V"⟩, prog_2_method_18_code, 2, none, 2),
  (1, ⟨"FoldDye$Cloth", "takeBoardsOff", "()V"⟩, prog_3_method_2_code, 2, none, 1),
  (1, ⟨"FoldDye$Cloth", "cellAt", "(III)I"⟩, prog_3_method_3_code, 6, (some .int), 2),
  (1, ⟨"FoldDye$Cloth", "shareOf", "(I)I"⟩, prog_3_method_4_code, 2, (some .int), 2),
  (1, ⟨"FoldDye$Cloth", "depthInAll", "()I"⟩, prog_3_method_5_code, 3, (some .int), 1),
  (1, ⟨"FoldDye$Cloth", "isSameTurned", "(I)Z"⟩, prog_3_method_6_code, 4, (some .boolean), 2),
  (1, ⟨"FoldDye$Cloth", "turnedIndex", "(III)I"⟩, prog_3_method_7_code, 4, (some .int), 1),
  (1, ⟨"FoldDye$Cloth", "repeats", "(II)Z"⟩, prog_3_method_8_code, 7, (some .boolean), 1),
  (2, ⟨"FoldDye$Search", "leastDiffering", "(LFoldDye$Wish;)I"⟩, prog_4_method_2_code, 2, (some .int), 6),
  (2, ⟨"FoldDye$Search", "tryFolds", "(I)V"⟩, prog_4_method_3_code, 4, none, 5),
  (2, ⟨"FoldDye$Search", "foldInto", "(LFoldDye$Bundle;LFoldDye$Bundle;II)Z"⟩, prog_4_method_4_code, 7, (some .boolean), 4),
  (2, ⟨"FoldDye$Search", "tryBoards", "(LFoldDye$Bundle;)V"⟩, prog_4_method_5_code, 5, none, 4),
  (2, ⟨"FoldDye$Search", "gatherCells", "(LFoldDye$Bundle;)V"⟩, prog_4_method_6_code, 3, none, 2),
  (2, ⟨"FoldDye$Search", "tryColumns", "(III)V"⟩, prog_4_method_7_code, 7, none, 3),
  (2, ⟨"FoldDye$Search", "differingUnder", "(I)I"⟩, prog_4_method_8_code, 2, (some .int), 2),
  (3, ⟨"FoldDye$Seep", "into", "(LFoldDye$Cloth;II)V"⟩, prog_5_method_2_code, 6, none, 5),
  (3, ⟨"FoldDye$Seep", "minutesAt", "(LFoldDye$Bundle;III)I"⟩, prog_5_method_3_code, 5, (some .int), 2),
  (3, ⟨"FoldDye$Seep", "begin", "(LFoldDye$Bundle;[Z)V"⟩, prog_5_method_4_code, 11, none, 3),
  (3, ⟨"FoldDye$Seep", "goOn", "(LFoldDye$Bundle;[Z)Z"⟩, prog_5_method_5_code, 8, (some .boolean), 4),
  (3, ⟨"FoldDye$Seep", "shorten", "(LFoldDye$Bundle;III)Z"⟩, prog_5_method_6_code, 9, (some .boolean), 3),
  (4, ⟨"FoldDye$Way", "clear", "()V"⟩, prog_6_method_2_code, 1, none, 2),
  (4, ⟨"FoldDye$Way", "become", "(LFoldDye$Way;)V"⟩, prog_6_method_3_code, 2, none, 1),
  (4, ⟨"FoldDye$Way", "setFold", "(IIII)V"⟩, prog_6_method_4_code, 5, none, 1),
  (4, ⟨"FoldDye$Way", "setBoard", "(IIII)V"⟩, prog_6_method_5_code, 5, none, 1),
  (6, ⟨"FoldDye", "rule", "(II)I"⟩, prog_1_method_3_code, 4, (some .int), 1),
  (6, ⟨"FoldDye", "fold", "(IIII)I"⟩, prog_1_method_4_code, 7, (some .int), 4),
  (6, ⟨"FoldDye", "open", "(I)I"⟩, prog_1_method_5_code, 4, (some .int), 4),
  (6, ⟨"FoldDye", "about", "(II)I"⟩, prog_1_method_6_code, 4, (some .int), 2),
  (6, ⟨"FoldDye", "stack", "(III)I"⟩, prog_1_method_7_code, 7, (some .int), 3),
  (6, ⟨"FoldDye", "place", "(II)I"⟩, prog_1_method_8_code, 5, (some .int), 3),
  (6, ⟨"FoldDye", "high", "(II)I"⟩, prog_1_method_9_code, 5, (some .int), 3),
  (6, ⟨"FoldDye", "board", "(III)I"⟩, prog_1_method_10_code, 7, (some .int), 2),
  (6, ⟨"FoldDye", "off", "(I)I"⟩, prog_1_method_11_code, 4, (some .int), 2),
  (6, ⟨"FoldDye", "reach", "(II)I"⟩, prog_1_method_12_code, 5, (some .int), 6),
  (6, ⟨"FoldDye", "bath", "(III)I"⟩, prog_1_method_13_code, 4, (some .int), 7),
  (6, ⟨"FoldDye", "discharge", "(III)I"⟩, prog_1_method_14_code, 4, (some .int), 7),
  (6, ⟨"FoldDye", "dry", "(I)I"⟩, prog_1_method_15_code, 4, (some .int), 2),
  (6, ⟨"FoldDye", "depth", "(II)I"⟩, prog_1_method_16_code, 5, (some .int), 3),
  (6, ⟨"FoldDye", "mirrored", "(II)I"⟩, prog_1_method_17_code, 4, (some .int), 3),
  (6, ⟨"FoldDye", "period", "(II)I"⟩, prog_1_method_18_code, 6, (some .int), 2),
  (6, ⟨"FoldDye", "steps", "(II)I"⟩, prog_1_method_19_code, 7, (some .int), 2),
  (6, ⟨"FoldDye", "alike", "(III)I"⟩, prog_1_method_20_code, 7, (some .int), 6),
  (6, ⟨"FoldDye", "wish", "(II)I"⟩, prog_1_method_21_code, 3, (some .int), 1),
  (6, ⟨"FoldDye", "dark", "(II)I"⟩, prog_1_method_22_code, 5, (some .int), 2),
  (6, ⟨"FoldDye", "way", "(II)I"⟩, prog_1_method_23_code, 3, (some .int), 7),
  (6, ⟨"FoldDye", "nearly", "(II)I"⟩, prog_1_method_24_code, 3, (some .int), 7),
  (6, ⟨"FoldDye", "told", "(II)I"⟩, prog_1_method_25_code, 3, (some .int), 1),
  (6, ⟨"FoldDye", "count", "(I)I"⟩, prog_1_method_26_code, 5, (some .int), 3),
  (6, ⟨"FoldDye", "clothOf", "(I)LFoldDye$Cloth;"⟩, prog_1_method_27_code, 2, (some (.object "FoldDye$Cloth")), 1),
  (6, ⟨"FoldDye", "indexIn", "(LFoldDye$Cloth;I)I"⟩, prog_1_method_28_code, 2, (some .int), 2),
  (6, ⟨"FoldDye", "indexOf", "(III)I"⟩, prog_1_method_29_code, 5, (some .int), 1),
  (6, ⟨"FoldDye", "isSpan", "(II)Z"⟩, prog_1_method_30_code, 2, (some .boolean), 1),
  (6, ⟨"FoldDye", "isBath", "(II)Z"⟩, prog_1_method_31_code, 2, (some .boolean), 1),
  (6, ⟨"FoldDye", "dip", "(IIIZ)I"⟩, prog_1_method_32_code, 11, (some .int), 6),
  (6, ⟨"FoldDye", "dyeAfter", "(III)I"⟩, prog_1_method_33_code, 4, (some .int), 1),
  (6, ⟨"FoldDye", "reachOf", "(LFoldDye$Cloth;I)I"⟩, prog_1_method_34_code, 5, (some .int), 3),
  (7, ⟨"FoldDyeModel", "within", "(III)Z"⟩, prog_9_method_2_code, 3, (some .boolean), 1),
  (7, ⟨"FoldDyeModel", "isCloth", "(I)Z"⟩, prog_9_method_3_code, 2, (some .boolean), 1),
  (7, ⟨"FoldDyeModel", "isCell", "(II)Z"⟩, prog_9_method_4_code, 3, (some .boolean), 1),
  (7, ⟨"FoldDyeModel", "cellEnd", "(I)I"⟩, prog_9_method_5_code, 2, (some .int), 1),
  (7, ⟨"FoldDyeModel", "unfold", "(I)V"⟩, prog_9_method_6_code, 3, none, 1),
  (7, ⟨"FoldDyeModel", "cloth", "(II)I"⟩, prog_9_method_7_code, 3, (some .int), 2),
  (7, ⟨"FoldDyeModel", "rule", "(II)I"⟩, prog_9_method_8_code, 4, (some .int), 2),
  (7, ⟨"FoldDyeModel", "findStacks", "(I)V"⟩, prog_9_method_9_code, 4, none, 2),
  (7, ⟨"FoldDyeModel", "moves", "(IIII)Z"⟩, prog_9_method_10_code, 5, (some .boolean), 1),
  (7, ⟨"FoldDyeModel", "target", "(IIIII)V"⟩, prog_9_method_11_code, 7, none, 2),
  (7, ⟨"FoldDyeModel", "countNew", "(IIIIIZ)I"⟩, prog_9_method_12_code, 9, (some .int), 2),
  (7, ⟨"FoldDyeModel", "tryFold", "(IIII)I"⟩, prog_9_method_13_code, 10, (some .int), 3),
  (7, ⟨"FoldDyeModel", "keepFold", "(I)V"⟩, prog_9_method_14_code, 7, none, 2),
  (7, ⟨"FoldDyeModel", "isFold", "(IIII)I"⟩, prog_9_method_15_code, 5, (some .int), 2),
  (7, ⟨"FoldDyeModel", "fold", "(IIII)I"⟩, prog_9_method_16_code, 7, (some .int), 4),
  (7, ⟨"FoldDyeModel", "open", "(I)I"⟩, prog_9_method_17_code, 3, (some .int), 2),
  (7, ⟨"FoldDyeModel", "about", "(II)I"⟩, prog_9_method_18_code, 6, (some .int), 3),
  (7, ⟨"FoldDyeModel", "stack", "(III)I"⟩, prog_9_method_19_code, 5, (some .int), 3),
  (7, ⟨"FoldDyeModel", "place", "(II)I"⟩, prog_9_method_20_code, 3, (some .int), 2),
  (7, ⟨"FoldDyeModel", "high", "(II)I"⟩, prog_9_method_21_code, 3, (some .int), 2),
  (7, ⟨"FoldDyeModel", "addBoard", "(IIIII)V"⟩, prog_9_method_22_code, 7, none, 1),
  (7, ⟨"FoldDyeModel", "board", "(III)I"⟩, prog_9_method_23_code, 4, (some .int), 2),
  (7, ⟨"FoldDyeModel", "off", "(I)I"⟩, prog_9_method_24_code, 3, (some .int), 2),
  (7, ⟨"FoldDyeModel", "isShut", "(III)Z"⟩, prog_9_method_25_code, 6, (some .boolean), 2),
  (7, ⟨"FoldDyeModel", "stackAt", "(III)I"⟩, prog_9_method_26_code, 4, (some .int), 1),
  (7, ⟨"FoldDyeModel", "hasBareSide", "(III)Z"⟩, prog_9_method_27_code, 4, (some .boolean), 2),
  (7, ⟨"FoldDyeModel", "comes", "(IIIIII)Z"⟩, prog_9_method_28_code, 8, (some .boolean), 3),
  (7, ⟨"FoldDyeModel", "findReach", "(I)V"⟩, prog_9_method_29_code, 7, none, 4),
  (7, ⟨"FoldDyeModel", "reach", "(II)I"⟩, prog_9_method_30_code, 3, (some .int), 5),
  (7, ⟨"FoldDyeModel", "dyed", "(III)I"⟩, prog_9_method_31_code, 5, (some .int), 1),
  (7, ⟨"FoldDyeModel", "dip", "(IIII)I"⟩, prog_9_method_32_code, 9, (some .int), 5),
  (7, ⟨"FoldDyeModel", "bath", "(III)I"⟩, prog_9_method_33_code, 4, (some .int), 6),
  (7, ⟨"FoldDyeModel", "discharge", "(III)I"⟩, prog_9_method_34_code, 4, (some .int), 6),
  (7, ⟨"FoldDyeModel", "dry", "(I)I"⟩, prog_9_method_35_code, 3, (some .int), 2),
  (7, ⟨"FoldDyeModel", "depth", "(II)I"⟩, prog_9_method_36_code, 3, (some .int), 2),
  (7, ⟨"FoldDyeModel", "at", "(III)I"⟩, prog_9_method_37_code, 4, (some .int), 1),
  (7, ⟨"FoldDyeModel", "mirrored", "(II)I"⟩, prog_9_method_38_code, 9, (some .int), 2),
  (7, ⟨"FoldDyeModel", "goesOn", "(III)Z"⟩, prog_9_method_39_code, 8, (some .boolean), 2),
  (7, ⟨"FoldDyeModel", "period", "(II)I"⟩, prog_9_method_40_code, 4, (some .int), 3),
  (7, ⟨"FoldDyeModel", "steps", "(II)I"⟩, prog_9_method_41_code, 7, (some .int), 2),
  (7, ⟨"FoldDyeModel", "alike", "(III)I"⟩, prog_9_method_42_code, 4, (some .int), 5),
  (7, ⟨"FoldDyeModel", "wish", "(II)I"⟩, prog_9_method_43_code, 4, (some .int), 2),
  (7, ⟨"FoldDyeModel", "isWished", "(I)Z"⟩, prog_9_method_44_code, 2, (some .boolean), 1),
  (7, ⟨"FoldDyeModel", "dark", "(II)I"⟩, prog_9_method_45_code, 4, (some .int), 2),
  (7, ⟨"FoldDyeModel", "differs", "()I"⟩, prog_9_method_46_code, 3, (some .int), 5),
  (7, ⟨"FoldDyeModel", "foldTried", "(I)Z"⟩, prog_9_method_47_code, 4, (some .boolean), 4),
  (7, ⟨"FoldDyeModel", "keepWay", "(IZ)V"⟩, prog_9_method_48_code, 4, none, 1),
  (7, ⟨"FoldDyeModel", "meets", "()Z"⟩, prog_9_method_49_code, 2, (some .boolean), 6),
  (7, ⟨"FoldDyeModel", "tryFolds", "(IZ)Z"⟩, prog_9_method_50_code, 7, (some .boolean), 7),
  (7, ⟨"FoldDyeModel", "goFolds", "(IIZ)Z"⟩, prog_9_method_51_code, 7, (some .boolean), 10),
  (7, ⟨"FoldDyeModel", "goFolds", "(IIZ)Z"⟩, prog_9_method_51_code, 7, (some .boolean), 9),
  (7, ⟨"FoldDyeModel", "goFolds", "(IIZ)Z"⟩, prog_9_method_51_code, 7, (some .boolean), 8),
  (7, ⟨"FoldDyeModel", "findWay", "(Z)I"⟩, prog_9_method_52_code, 4, (some .int), 11),
  (7, ⟨"FoldDyeModel", "isBath", "(II)Z"⟩, prog_9_method_53_code, 3, (some .boolean), 2),
  (7, ⟨"FoldDyeModel", "way", "(II)I"⟩, prog_9_method_54_code, 3, (some .int), 12),
  (7, ⟨"FoldDyeModel", "nearly", "(II)I"⟩, prog_9_method_55_code, 3, (some .int), 12),
  (7, ⟨"FoldDyeModel", "told", "(II)I"⟩, prog_9_method_56_code, 3, (some .int), 2),
  (7, ⟨"FoldDyeModel", "count", "(I)I"⟩, prog_9_method_57_code, 7, (some .int), 1),
  (8, ⟨"java/lang/Integer", "bitCount", "(I)I"⟩, prog_10_method_49_code, 1, (some .int), 1),
  (10, ⟨"java/util/Arrays", "fill", "([II)V"⟩, prog_13_method_103_code, 4, none, 1)]
def fx_md : Nat × MethodName × ByteArray × Nat × Option FieldType × Nat := (0, ⟨"", "", ""⟩, ⟨#[]⟩, 0, none, 0)
def fx_own (y : Nat) : Nat := (fx_mt.getD y fx_md).1
def fx_nm (y : Nat) : MethodName := (fx_mt.getD y fx_md).2.1
def fx_by (y : Nat) : ByteArray := (fx_mt.getD y fx_md).2.2.1
def fx_mL (y : Nat) : Nat := (fx_mt.getD y fx_md).2.2.2.1
def fx_rt (y : Nat) : Option FieldType := (fx_mt.getD y fx_md).2.2.2.2.1
def fx_lv (y : Nat) : Nat := (fx_mt.getD y fx_md).2.2.2.2.2
abbrev fx_nM : Nat := 132
/-- calls: (method, pool entry), (callee, its parameters, 0 of an object or 1 static) -/
def fx_cT : List ((Nat × Nat) × (Nat × Nat × Nat)) := [((0, 34), (16, 0, 0)), ((4, 49), (3, 2, 0)), ((9, 49), (3, 2, 0)), ((9, 58), (11, 4, 0)), ((10, 34), (16, 0, 0)), ((10, 49), (3, 2, 0)), ((10, 58), (11, 4, 0)), ((10, 62), (12, 4, 1)), ((10, 66), (13, 4, 1)), ((10, 69), (14, 4, 1)), ((10, 72), (15, 0, 0)), ((11, 49), (3, 2, 0)), ((11, 66), (13, 4, 1)), ((11, 69), (14, 4, 1)), ((16, 80), (131, 2, 1)), ((18, 54), (2, 4, 0)), ((19, 58), (20, 0, 0)), ((21, 62), (22, 3, 0)), ((24, 58), (0, 2, 0)), ((24, 65), (36, 0, 0)), ((24, 68), (30, 1, 0)), ((24, 72), (27, 1, 0)), ((24, 76), (25, 1, 0)), ((25, 72), (27, 1, 0)), ((25, 80), (26, 4, 0)), ((26, 84), (7, 2, 0)), ((26, 88), (8, 0, 0)), ((26, 92), (1, 1, 0)), ((26, 95), (10, 3, 0)), ((26, 99), (38, 4, 0)), ((27, 103), (28, 1, 0)), ((27, 107), (131, 2, 1)), ((27, 114), (29, 3, 0)), ((28, 107), (131, 2, 1)), ((29, 68), (30, 1, 0)), ((29, 129), (39, 4, 0)), ((30, 132), (130, 1, 1)), ((31, 35), (33, 2, 0)), ((31, 39), (34, 2, 0)), ((32, 43), (3, 2, 0)), ((33, 43), (3, 2, 0)), ((33, 56), (4, 2, 0)), ((34, 43), (3, 2, 0)), ((34, 60), (35, 4, 0)), ((35, 64), (32, 4, 0)), ((36, 19), (131, 2, 1)), ((41, 57), (64, 1, 0)), ((41, 65), (7, 2, 0)), ((41, 71), (8, 0, 0)), ((41, 81), (9, 2, 0)), ((41, 92), (10, 3, 0)), ((42, 57), (64, 1, 0)), ((42, 96), (17, 0, 0)), ((42, 105), (0, 2, 0)), ((43, 57), (64, 1, 0)), ((43, 110), (5, 0, 0)), ((43, 114), (6, 0, 0)), ((44, 57), (64, 1, 0)), ((44, 117), (18, 3, 0)), ((45, 57), (64, 1, 0)), ((45, 121), (65, 2, 1)), ((46, 57), (64, 1, 0)), ((46, 121), (65, 2, 1)), ((47, 57), (64, 1, 0)), ((47, 134), (67, 2, 1)), ((48, 57), (64, 1, 0)), ((48, 96), (17, 0, 0)), ((49, 57), (64, 1, 0)), ((49, 121), (65, 2, 1)), ((49, 141), (31, 3, 0)), ((49, 145), (71, 2, 0)), ((50, 148), (69, 4, 0)), ((51, 148), (69, 4, 0)), ((52, 57), (64, 1, 0)), ((53, 57), (64, 1, 0)), ((53, 121), (65, 2, 1)), ((54, 57), (64, 1, 0)), ((54, 155), (21, 1, 0)), ((55, 57), (64, 1, 0)), ((55, 159), (23, 2, 0)), ((56, 57), (64, 1, 0)), ((57, 57), (64, 1, 0)), ((57, 121), (65, 2, 1)), ((57, 141), (31, 3, 0)), ((57, 145), (71, 2, 0)), ((59, 176), (66, 3, 1)), ((60, 179), (68, 2, 1)), ((60, 182), (24, 1, 0)), ((60, 189), (37, 1, 0)), ((61, 179), (68, 2, 1)), ((61, 182), (24, 1, 0)), ((63, 57), (64, 1, 0)), ((63, 197), (130, 1, 1)), ((63, 202), (19, 1, 0)), ((65, 176), (66, 3, 1)), ((69, 57), (64, 1, 0)), ((69, 141), (31, 3, 0)), ((69, 145), (71, 2, 0)), ((69, 179), (68, 2, 1)), ((69, 205), (70, 3, 0)), ((71, 214), (32, 4, 0)), ((77, 108), (72, 3, 1)), ((77, 112), (76, 1, 0)), ((78, 108), (72, 3, 1)), ((79, 116), (75, 1, 0)), ((79, 120), (74, 2, 0)), ((81, 124), (80, 4, 0)), ((82, 120), (74, 2, 0)), ((82, 124), (80, 4, 0)), ((83, 116), (75, 1, 0)), ((83, 120), (74, 2, 0)), ((83, 124), (80, 4, 0)), ((83, 128), (81, 5, 0)), ((83, 132), (82, 6, 0)), ((84, 116), (75, 1, 0)), ((84, 120), (74, 2, 0)), ((85, 108), (72, 3, 1)), ((86, 138), (73, 1, 0)), ((86, 142), (85, 4, 0)), ((86, 146), (83, 4, 0)), ((86, 149), (84, 1, 0)), ((87, 112), (76, 1, 0)), ((87, 138), (73, 1, 0)), ((88, 138), (73, 1, 0)), ((88, 152), (79, 1, 0)), ((89, 138), (73, 1, 0)), ((89, 152), (79, 1, 0)), ((90, 120), (74, 2, 0)), ((90, 138), (73, 1, 0)), ((91, 120), (74, 2, 0)), ((91, 138), (73, 1, 0)), ((93, 138), (73, 1, 0)), ((93, 155), (92, 5, 0)), ((94, 138), (73, 1, 0)), ((95, 108), (72, 3, 1)), ((97, 158), (96, 3, 0)), ((98, 158), (96, 3, 0)), ((98, 162), (95, 3, 0)), ((99, 116), (75, 1, 0)), ((99, 120), (74, 2, 0)), ((99, 152), (79, 1, 0)), ((99, 158), (96, 3, 0)), ((99, 162), (95, 3, 0)), ((99, 165), (97, 3, 0)), ((99, 168), (98, 6, 0)), ((100, 120), (74, 2, 0)), ((100, 138), (73, 1, 0)), ((100, 172), (99, 1, 0)), ((102, 108), (72, 3, 1)), ((102, 116), (75, 1, 0)), ((102, 120), (74, 2, 0)), ((102, 138), (73, 1, 0)), ((102, 172), (99, 1, 0)), ((102, 175), (101, 3, 0)), ((103, 178), (102, 4, 0)), ((104, 178), (102, 4, 0)), ((105, 138), (73, 1, 0)), ((106, 120), (74, 2, 0)), ((106, 138), (73, 1, 0)), ((108, 108), (72, 3, 1)), ((108, 138), (73, 1, 0)), ((108, 181), (107, 3, 0)), ((109, 181), (107, 3, 0)), ((110, 108), (72, 3, 1)), ((110, 138), (73, 1, 0)), ((110, 184), (109, 3, 0)), ((111, 138), (73, 1, 0)), ((111, 181), (107, 3, 0)), ((112, 120), (74, 2, 0)), ((112, 138), (73, 1, 0)), ((112, 172), (99, 1, 0)), ((113, 108), (72, 3, 1)), ((115, 108), (72, 3, 1)), ((115, 193), (114, 1, 0)), ((116, 172), (99, 1, 0)), ((116, 175), (101, 3, 0)), ((116, 193), (114, 1, 0)), ((117, 112), (76, 1, 0)), ((117, 142), (85, 4, 0)), ((117, 146), (83, 4, 0)), ((117, 149), (84, 1, 0)), ((119, 212), (116, 0, 0)), ((120, 155), (92, 5, 0)), ((120, 219), (117, 1, 0)), ((120, 222), (119, 0, 0)), ((121, 226), (120, 2, 0)), ((121, 230), (122, 3, 0)), ((122, 226), (120, 2, 0)), ((122, 230), (123, 3, 0)), ((123, 226), (120, 2, 0)), ((124, 230), (121, 3, 0)), ((124, 234), (118, 2, 0)), ((125, 108), (72, 3, 1)), ((126, 238), (125, 2, 0)), ((126, 241), (124, 1, 0)), ((127, 238), (125, 2, 0)), ((127, 241), (124, 1, 0)), ((128, 108), (72, 3, 1))]
def fx_ca (y i : Nat) : Option (Nat × Nat × Nat) := (fx_cT.find? (fun e => e.1.1 == y && e.1.2 == i)).map (fun e => e.2)
/-- arraycopy: (method, pool entry) -/
def fx_aT : List (Nat × Nat) := [(1, 37), (37, 25)]
/-- max, min, abs: (method, pool entry), which -/
def fx_pT : List ((Nat × Nat) × Nat) := [((5, 53), 0), ((9, 53), 0), ((15, 53), 0), ((15, 77), 1), ((29, 123), 1), ((35, 68), 1), ((56, 165), 2), ((69, 208), 1), ((69, 211), 0), ((70, 211), 0)]
def fx_pd (y i : Nat) : Option Nat := (fx_pT.find? (fun e => e.1.1 == y && e.1.2 == i)).map (fun e => e.2)
/-- fields: (class, pool entry), (class of the object, place of the field) -/
def fx_fT : List ((Nat × Nat) × (Nat × Nat)) := [((0, 9), (0, 4)), ((0, 15), (0, 5)), ((0, 18), (0, 6)), ((0, 21), (0, 0)), ((0, 25), (0, 1)), ((0, 28), (0, 2)), ((0, 31), (0, 3)), ((1, 9), (1, 6)), ((1, 15), (1, 7)), ((1, 18), (1, 8)), ((1, 21), (1, 9)), ((1, 25), (1, 0)), ((1, 28), (1, 1)), ((1, 31), (1, 2)), ((1, 34), (1, 3)), ((1, 38), (1, 4)), ((1, 47), (1, 5)), ((2, 14), (2, 0)), ((2, 23), (2, 1)), ((2, 27), (2, 2)), ((2, 30), (2, 3)), ((2, 33), (2, 4)), ((2, 37), (2, 5)), ((2, 40), (2, 6)), ((2, 44), (2, 7)), ((2, 47), (2, 8)), ((2, 50), (5, 0)), ((2, 55), (5, 1)), ((2, 61), (0, 4)), ((2, 64), (5, 2)), ((2, 106), (0, 5)), ((2, 113), (0, 6)), ((2, 117), (0, 0)), ((2, 120), (0, 1)), ((3, 9), (3, 0)), ((3, 15), (3, 1)), ((3, 18), (3, 2)), ((3, 22), (3, 3)), ((3, 25), (1, 5)), ((3, 31), (1, 4)), ((3, 50), (0, 5)), ((3, 53), (0, 6)), ((4, 11), (4, 0)), ((4, 15), (4, 1)), ((5, 7), (5, 0)), ((5, 13), (5, 1)), ((5, 16), (5, 2)), ((6, 9), (6, 0)), ((6, 15), (6, 1)), ((6, 19), (6, 2)), ((6, 26), (6, 3)), ((6, 33), (6, 4)), ((6, 40), (6, 5)), ((6, 47), (6, 6)), ((6, 61), (1, 5)), ((6, 75), (1, 6)), ((6, 78), (1, 7)), ((6, 85), (1, 9)), ((6, 89), (1, 8)), ((6, 99), (1, 0)), ((6, 102), (1, 1)), ((6, 108), (0, 5)), ((6, 109), (0, 6)), ((6, 125), (0, 0)), ((6, 128), (0, 1)), ((6, 131), (0, 2)), ((6, 137), (1, 4)), ((6, 152), (1, 3)), ((6, 162), (1, 2)), ((6, 171), (5, 0)), ((6, 172), (5, 1)), ((6, 173), (5, 2)), ((6, 186), (2, 0)), ((6, 193), (4, 1)), ((6, 194), (4, 0)), ((7, 9), (7, 0)), ((7, 13), (7, 1)), ((7, 16), (7, 3)), ((7, 19), (7, 4)), ((7, 22), (7, 5)), ((7, 25), (7, 6)), ((7, 28), (7, 7)), ((7, 31), (7, 8)), ((7, 34), (7, 9)), ((7, 37), (7, 10)), ((7, 41), (7, 11)), ((7, 44), (7, 12)), ((7, 47), (7, 13)), ((7, 50), (7, 14)), ((7, 53), (7, 15)), ((7, 56), (7, 16)), ((7, 59), (7, 17)), ((7, 63), (7, 18)), ((7, 66), (7, 19)), ((7, 69), (7, 20)), ((7, 72), (7, 21)), ((7, 75), (7, 22)), ((7, 78), (7, 23)), ((7, 81), (7, 24)), ((7, 84), (7, 25)), ((7, 87), (7, 28)), ((7, 90), (7, 29)), ((7, 93), (7, 30)), ((7, 96), (7, 31)), ((7, 99), (7, 32)), ((7, 102), (7, 34)), ((7, 105), (7, 2)), ((7, 187), (7, 26)), ((7, 190), (7, 27)), ((7, 196), (7, 37)), ((7, 199), (7, 38)), ((7, 202), (7, 33)), ((7, 205), (7, 35)), ((7, 209), (7, 36)), ((7, 216), (7, 39))]
def fx_fd (o i : Nat) : Option (Nat × Nat) := (fx_fT.find? (fun e => e.1.1 == o && e.1.2 == i)).map (fun e => e.2)
def fx_sT : List ((Nat × Nat) × (Nat × String)) := [((6, 54), (90, "GREATEST_RULE"))]
def fx_sd (o i : Nat) : Option (Nat × String) := (fx_sT.find? (fun e => e.1.1 == o && e.1.2 == i)).map (fun e => e.2)
/-- static fields of the outermost: (class, pool entry), (kind, name) -/
def fx_nT : List ((Nat × Nat) × (Nat × String)) := [((0, 43), (91, "SIDE_ROWS")), ((0, 46), (92, "SIDE_COLUMNS")), ((3, 73), (91, "SIDE_ROWS")), ((3, 76), (92, "SIDE_COLUMNS"))]
def fx_nd (o i : Nat) : Option (Nat × String) := (fx_nT.find? (fun e => e.1.1 == o && e.1.2 == i)).map (fun e => e.2)
theorem fx_w14 : ∀ e ∈ fx_nT, Cond.fieldLinkNest (fx_cs e.1.1) e.1.2 "FoldDye" e.2.2 "[I" "FoldDye" ∈ lw_tbl := by
  have h : fx_nT.map (fun e => Cond.fieldLinkNest (fx_cs e.1.1) e.1.2 "FoldDye" e.2.2 "[I" "FoldDye") = [428, 430, 446, 447].filterMap (fun i => lw_tbl[i]?) := by decide +kernel
  intro e he
  have h1 : Cond.fieldLinkNest (fx_cs e.1.1) e.1.2 "FoldDye" e.2.2 "[I" "FoldDye" ∈ fx_nT.map (fun e => Cond.fieldLinkNest (fx_cs e.1.1) e.1.2 "FoldDye" e.2.2 "[I" "FoldDye") := List.mem_map.mpr ⟨e, he, rfl⟩
  rw [h] at h1
  obtain ⟨i, -, hi⟩ := List.mem_filterMap.mp h1
  exact List.mem_of_getElem? hi
def fx_kT : List ((Nat × Nat) × Int) := [((0, 75), 1000000), ((0, 76), -1000000), ((3, 49), 1000000), ((6, 218), 1000000), ((7, 136), 1000000), ((7, 137), -1000000), ((8, 265), 1431655765), ((8, 266), 858993459), ((8, 267), 252645135)]
def fx_kd (o i : Nat) : Option Int := (fx_kT.find? (fun e => e.1.1 == o && e.1.2 == i)).map (fun e => e.2)
set_option maxRecDepth 100000 in
theorem fx_w1_0 : ∀ w ∈ ([0, 1, 2, 3, 4, 5, 6, 7, 8, 9, 10, 11, 12, 13, 14] : List Nat).map (fun z => Cond.code (fx_nm z) (fx_by z) (fx_mL z) (fx_rt z)), w ∈ fx_tb := fx_sub [244, 576, 385, 323, 427, 369, 373, 311, 315, 319, 340, 327, 343, 330, 333] rfl rfl
set_option maxRecDepth 100000 in
theorem fx_w1_1 : ∀ w ∈ ([15, 16, 17, 18, 19, 20, 21, 22, 23, 24, 25, 26, 27, 28, 29] : List Nat).map (fun z => Cond.code (fx_nm z) (fx_by z) (fx_mL z) (fx_rt z)), w ∈ fx_tb := fx_sub [347, 248, 360, 381, 606, 610, 490, 494, 502, 529, 566, 570, 548, 552, 557] rfl rfl
set_option maxRecDepth 100000 in
theorem fx_w1_2 : ∀ w ∈ ([30, 31, 32, 33, 34, 35, 36, 37, 38, 39, 40, 41, 42, 43, 44] : List Nat).map (fun z => Cond.code (fx_nm z) (fx_by z) (fx_mL z) (fx_rt z)), w ∈ fx_tb := fx_sub [538, 418, 444, 422, 436, 440, 534, 588, 584, 562, 297, 303, 356, 365, 377] rfl rfl
set_option maxRecDepth 100000 in
theorem fx_w1_3 : ∀ w ∈ ([45, 46, 47, 48, 49, 50, 51, 52, 53, 54, 55, 56, 57, 58, 59] : List Nat).map (fun z => Cond.code (fx_nm z) (fx_by z) (fx_mL z) (fx_rt z)), w ∈ fx_tb := fx_sub [389, 399, 403, 410, 414, 457, 474, 478, 482, 486, 498, 506, 513, 517, 521] rfl rfl
set_option maxRecDepth 100000 in
theorem fx_w1_4 : ∀ w ∈ ([60, 61, 62, 63, 64, 65, 66, 67, 68, 69, 70, 71, 72, 73, 74] : List Nat).map (fun z => Cond.code (fx_nm z) (fx_by z) (fx_mL z) (fx_rt z)), w ∈ fx_tb := fx_sub [525, 593, 597, 601, 307, 392, 395, 406, 464, 461, 468, 451, 744, 760, 776] rfl rfl
set_option maxRecDepth 100000 in
theorem fx_w1_5 : ∀ w ∈ ([75, 76, 77, 78, 79, 80, 81, 82, 83, 84, 85, 86, 87, 88, 89] : List Nat).map (fun z => Cond.code (fx_nm z) (fx_by z) (fx_mL z) (fx_rt z)), w ∈ fx_tb := fx_sub [772, 748, 741, 752, 806, 784, 780, 788, 768, 792, 764, 756, 798, 802, 810] rfl rfl
set_option maxRecDepth 100000 in
theorem fx_w1_6 : ∀ w ∈ ([90, 91, 92, 93, 94, 95, 96, 97, 98, 99, 100, 101, 102, 103, 104] : List Nat).map (fun z => Cond.code (fx_nm z) (fx_by z) (fx_mL z) (fx_rt z)), w ∈ fx_tb := fx_sub [814, 818, 826, 822, 830, 846, 842, 850, 854, 838, 834, 866, 862, 858, 870] rfl rfl
set_option maxRecDepth 100000 in
theorem fx_w1_7 : ∀ w ∈ ([105, 106, 107, 108, 109, 110, 111, 112, 113, 114, 115, 116, 117, 118, 119] : List Nat).map (fun z => Cond.code (fx_nm z) (fx_by z) (fx_mL z) (fx_rt z)), w ∈ fx_tb := fx_sub [874, 878, 886, 882, 894, 890, 898, 902, 906, 914, 910, 946, 938, 950, 942] rfl rfl
set_option maxRecDepth 100000 in
theorem fx_w1_8 : ∀ w ∈ ([120, 121, 122, 123, 124, 125, 126, 127, 128, 129, 130, 131] : List Nat).map (fun z => Cond.code (fx_nm z) (fx_by z) (fx_mL z) (fx_rt z)), w ∈ fx_tb := fx_sub [934, 930, 930, 930, 926, 922, 918, 954, 958, 962, 541, 127] rfl rfl
theorem fx_w1 {z : Nat} (hz : z < fx_nM) : Cond.code (fx_nm z) (fx_by z) (fx_mL z) (fx_rt z) ∈ fx_tb := by
  have key : ∀ (l : List Nat), z ∈ l → (∀ w ∈ l.map (fun z => Cond.code (fx_nm z) (fx_by z) (fx_mL z) (fx_rt z)), w ∈ fx_tb) → Cond.code (fx_nm z) (fx_by z) (fx_mL z) (fx_rt z) ∈ fx_tb := fun l hl h => h _ (List.mem_map.mpr ⟨z, hl, rfl⟩)
  have hc : z ∈ ([0, 1, 2, 3, 4, 5, 6, 7, 8, 9, 10, 11, 12, 13, 14] : List Nat) ∨ z ∈ ([15, 16, 17, 18, 19, 20, 21, 22, 23, 24, 25, 26, 27, 28, 29] : List Nat) ∨ z ∈ ([30, 31, 32, 33, 34, 35, 36, 37, 38, 39, 40, 41, 42, 43, 44] : List Nat) ∨ z ∈ ([45, 46, 47, 48, 49, 50, 51, 52, 53, 54, 55, 56, 57, 58, 59] : List Nat) ∨ z ∈ ([60, 61, 62, 63, 64, 65, 66, 67, 68, 69, 70, 71, 72, 73, 74] : List Nat) ∨ z ∈ ([75, 76, 77, 78, 79, 80, 81, 82, 83, 84, 85, 86, 87, 88, 89] : List Nat) ∨ z ∈ ([90, 91, 92, 93, 94, 95, 96, 97, 98, 99, 100, 101, 102, 103, 104] : List Nat) ∨ z ∈ ([105, 106, 107, 108, 109, 110, 111, 112, 113, 114, 115, 116, 117, 118, 119] : List Nat) ∨ z ∈ ([120, 121, 122, 123, 124, 125, 126, 127, 128, 129, 130, 131] : List Nat) := by
    simp only [List.mem_cons, List.not_mem_nil, or_false]
    have : z < 132 := hz
    omega
  rcases hc with h | h | h | h | h | h | h | h | h
  · exact key _ h fx_w1_0
  · exact key _ h fx_w1_1
  · exact key _ h fx_w1_2
  · exact key _ h fx_w1_3
  · exact key _ h fx_w1_4
  · exact key _ h fx_w1_5
  · exact key _ h fx_w1_6
  · exact key _ h fx_w1_7
  · exact key _ h fx_w1_8
theorem fx_w2 : ∀ w ∈ (List.range fx_nM).map (fun z => Cond.initialized (fx_nm z).cls), w ∈ fx_tb := fx_sub [55, 55, 55, 55, 55, 55, 55, 55, 55, 55, 55, 55, 55, 55, 55, 55, 55, 57, 57, 57, 57, 57, 57, 57, 52, 52, 52, 52, 52, 52, 52, 50, 50, 50, 50, 50, 53, 53, 53, 53, 49, 49, 49, 49, 49, 49, 49, 49, 49, 49, 49, 49, 49, 49, 49, 49, 49, 49, 49, 49, 49, 49, 49, 49, 49, 49, 49, 49, 49, 49, 49, 49, 56, 56, 56, 56, 56, 56, 56, 56, 56, 56, 56, 56, 56, 56, 56, 56, 56, 56, 56, 56, 56, 56, 56, 56, 56, 56, 56, 56, 56, 56, 56, 56, 56, 56, 56, 56, 56, 56, 56, 56, 56, 56, 56, 56, 56, 56, 56, 56, 56, 56, 56, 56, 56, 56, 56, 56, 56, 56, 59, 54] (by decide +kernel) (by decide +kernel)
def fx_iM : List Nat := [0, 1, 2, 3, 4, 5, 6, 7, 8, 9, 10, 11, 15, 16, 17, 18, 19, 20, 21, 22, 23, 24, 25, 26, 27, 28, 29, 30, 31, 32, 33, 34, 35, 36, 37, 38, 39, 40, 41, 42, 43, 44, 45, 46, 47, 48, 49, 50, 51, 52, 53, 54, 55, 56, 57, 58, 59, 60, 61, 62, 63, 64, 69, 70, 71, 73, 74, 75, 76, 77, 78, 79, 80, 81, 82, 83, 84, 85, 86, 87, 88, 89, 90, 91, 92, 93, 94, 95, 96, 97, 98, 99, 100, 101, 102, 103, 104, 105, 106, 107, 108, 109, 110, 111, 112, 113, 114, 115, 116, 117, 118, 119, 120, 121, 122, 123, 124, 125, 126, 127, 128, 129]
def fx_tM : List Nat := [12, 13, 14, 65, 66, 67, 68, 72, 130, 131]
theorem fx_w3 : ∀ w ∈ fx_iM.map (fun z => Cond.instanceMethod (fx_nm z)), w ∈ fx_tb := fx_sub [242, 574, 383, 321, 425, 367, 371, 309, 313, 317, 338, 326, 346, 247, 358, 379, 604, 609, 488, 493, 500, 527, 565, 569, 547, 551, 556, 537, 416, 442, 421, 435, 439, 532, 586, 582, 560, 295, 301, 354, 363, 375, 387, 397, 401, 408, 412, 455, 472, 476, 480, 484, 496, 504, 511, 515, 519, 523, 591, 595, 599, 306, 460, 467, 450, 759, 775, 771, 747, 739, 750, 805, 783, 779, 787, 767, 791, 763, 754, 796, 800, 808, 812, 816, 825, 820, 828, 845, 841, 849, 853, 837, 832, 865, 861, 856, 868, 872, 876, 885, 880, 893, 888, 896, 900, 904, 913, 908, 945, 937, 949, 941, 933, 929, 929, 929, 925, 921, 916, 952, 956, 960] (by decide +kernel) (by decide +kernel)
theorem fx_w4 : ∀ w ∈ fx_iM.map (fun z => Cond.selects (fx_nm z).cls (fx_nm z) (fx_nm z)), w ∈ fx_tb := fx_sub [243, 575, 384, 322, 426, 368, 372, 310, 314, 318, 339, 2, 3, 0, 359, 380, 605, 17, 489, 10, 501, 528, 15, 16, 12, 13, 14, 11, 417, 443, 4, 5, 6, 533, 587, 583, 561, 296, 302, 355, 364, 376, 388, 398, 402, 409, 413, 456, 473, 477, 481, 485, 497, 505, 512, 516, 520, 524, 592, 596, 600, 1, 8, 9, 7, 19, 23, 22, 18, 740, 751, 28, 25, 24, 26, 21, 27, 20, 755, 797, 801, 809, 813, 817, 29, 821, 829, 32, 31, 33, 34, 30, 833, 36, 35, 857, 869, 873, 877, 37, 881, 38, 889, 897, 901, 905, 39, 909, 46, 44, 47, 45, 43, 42, 42, 42, 41, 40, 917, 953, 957, 961] (by decide +kernel) (by decide +kernel)
theorem fx_w5 : ∀ w ∈ fx_tM.map (fun z => Cond.static (fx_nm z)), w ∈ fx_tb := fx_sub [342, 329, 332, 391, 394, 405, 463, 743, 540, 126] (by decide +kernel) (by decide +kernel)
theorem fx_w6 : ∀ w ∈ fx_cT.map (fun e => Cond.methodLink (fx_cs (fx_own e.1.1)) e.1.2 (fx_nm e.2.1)), w ∈ fx_tb := fx_sub [245, 320, 320, 324, 245, 320, 324, 341, 328, 331, 344, 320, 328, 331, 249, 382, 607, 491, 530, 531, 535, 545, 563, 545, 567, 571, 572, 573, 580, 581, 549, 553, 554, 553, 535, 559, 539, 419, 433, 423, 423, 424, 423, 437, 441, 125, 304, 308, 312, 316, 337, 304, 357, 361, 304, 366, 370, 304, 378, 304, 390, 304, 390, 304, 404, 304, 357, 304, 390, 415, 448, 458, 458, 304, 304, 390, 304, 487, 304, 499, 304, 304, 390, 415, 448, 393, 462, 526, 585, 462, 526, 304, 602, 603, 393, 304, 415, 448, 462, 465, 452, 742, 745, 742, 769, 773, 781, 773, 781, 769, 773, 781, 777, 785, 769, 773, 742, 757, 761, 765, 789, 745, 757, 757, 803, 757, 803, 773, 757, 773, 757, 757, 823, 757, 742, 839, 839, 843, 769, 773, 803, 839, 843, 847, 851, 773, 757, 835, 742, 769, 773, 757, 835, 863, 859, 859, 757, 773, 757, 742, 757, 883, 883, 742, 757, 891, 757, 883, 773, 757, 835, 742, 742, 911, 835, 863, 911, 745, 761, 765, 789, 943, 823, 935, 939, 931, 927, 931, 927, 931, 927, 947, 742, 919, 923, 919, 923, 742] (by decide +kernel) (by decide +kernel)
theorem fx_w7 : ∀ w ∈ fx_fT.map (fun e => Cond.fieldLink (fx_cs e.1.1) e.1.2 (((fx_cl.getD e.2.1 (RX0, TX0, 7)).2.1 e.2.2).1) (((fx_cl.getD e.2.1 (RX0, TX0, 7)).2.1 e.2.2).2.1) (((fx_cl.getD e.2.1 (RX0, TX0, 7)).2.1 e.2.2).2.2.1)), w ∈ fx_tb := fx_sub [152, 154, 158, 143, 146, 149, 151, 264, 266, 268, 270, 250, 252, 254, 256, 258, 261, 177, 179, 180, 181, 182, 183, 184, 185, 186, 98, 101, 153, 104, 156, 160, 144, 147, 77, 78, 79, 80, 262, 259, 155, 159, 128, 130, 97, 100, 103, 208, 209, 210, 211, 212, 213, 214, 263, 265, 267, 271, 269, 251, 253, 157, 161, 145, 148, 150, 260, 257, 255, 99, 102, 105, 178, 131, 129, 617, 618, 620, 621, 622, 623, 624, 625, 626, 627, 628, 629, 630, 631, 632, 633, 634, 635, 636, 637, 638, 639, 640, 641, 642, 645, 646, 647, 648, 649, 651, 619, 643, 644, 654, 655, 650, 652, 653, 656] (by decide +kernel) (by decide +kernel)
theorem fx_w8 : ∀ w ∈ fx_sT.map (fun e => Cond.fieldLink (fx_cs e.1.1) e.1.2 "FoldDye" e.2.2 "[I"), w ∈ fx_tb := fx_sub [298] (by decide +kernel) (by decide +kernel)
theorem fx_w9 : ∀ w ∈ fx_kT.map (fun e => Cond.constant (fx_cs e.1.1) e.1.2 (Int32.ofInt e.2)), w ∈ fx_tb := fx_sub [348, 349, 432, 453, 793, 794, 542, 543, 544] (by decide +kernel) (by decide +kernel)
theorem fx_w10 : ∀ w ∈ fx_aT.map (fun e => Cond.methodLink (fx_cs (fx_own e.1)) e.2 arraycopyName), w ∈ fx_tb := fx_sub [577, 589] (by decide +kernel) (by decide +kernel)
def fx_mn (k : Nat) : MethodName := if k = 0 then Lib.Math.max.name else if k = 1 then Lib.Math.min.name else Lib.Math.abs.name
theorem fx_w16 : ∀ w ∈ fx_pT.map (fun e => Cond.methodLink (fx_cs (fx_own e.1.1)) e.1.2 (fx_mn e.2)), w ∈ fx_tb := fx_sub [334, 334, 334, 350, 558, 445, 507, 470, 469, 469] (by decide +kernel) (by decide +kernel)
theorem fx_w17 : ∀ w ∈ [Cond.static Lib.Math.max.name, Cond.static Lib.Math.min.name, Cond.static Lib.Math.abs.name, Cond.initialized "java/lang/Math"], w ∈ fx_tb := fx_sub [335, 351, 508, 58] (by decide +kernel) (by decide +kernel)
theorem fx_w18 : ∀ w ∈ [Cond.code Lib.Math.max.name Lib.Math.max.code 2 (some .int), Cond.code Lib.Math.min.name Lib.Math.min.code 2 (some .int), Cond.code Lib.Math.abs.name Lib.Math.abs.code 1 (some .int)], w ∈ fx_tb := fx_sub [336, 352, 509] (by decide +kernel) (by decide +kernel)
theorem fx_w19 : ∀ e ∈ fx_pT, e.2 < 3 := by decide +kernel
theorem fx_w11 : ∀ w ∈ [Cond.native arraycopyName, Cond.static arraycopyName, Cond.initialized "java/lang/System", Cond.initialized "FoldDye"], w ∈ fx_tb := fx_sub [579, 578, 60, 49] (by decide +kernel) (by decide +kernel)
theorem fx_w15 : Cond.laysStatic "FoldDye" "GREATEST_RULE" "[I" ∈ lw_tbl ∧ Cond.laysStatic "FoldDye" "SIDE_ROWS" "[I" ∈ lw_tbl ∧ Cond.laysStatic "FoldDye" "SIDE_COLUMNS" "[I" ∈ lw_tbl := ⟨List.mem_of_getElem? (i := 299) (by decide +kernel), List.mem_of_getElem? (i := 429) (by decide +kernel), List.mem_of_getElem? (i := 431) (by decide +kernel)⟩
theorem fx_w12 : ∀ e ∈ fx_cT, fx_lv e.2.1 < fx_lv e.1.1 ∧ fx_mL e.2.1 ≤ 20 ∧ Jvm.plainName (fx_nm e.2.1).cls = true ∧ (parseMethodDescriptor (fx_nm e.2.1).desc).map (fun d => d.parameters.length) = some e.2.2.1 ∧ (fx_nm e.2.1).cls ≠ "java/lang/invoke/MethodHandle" ∧ (fx_nm e.2.1).cls ≠ "java/lang/invoke/VarHandle" ∧ e.2.1 < fx_nM ∧ e.2.1 ∈ (if e.2.2.2 = 0 then fx_iM else fx_tM) ∧ e.2.2.2 < 2 := by decide +kernel
theorem fx_w13 : ∀ y, y < fx_nM → (fx_nm y).cls = fx_cs (fx_own y) ∧ Jvm.plainName (fx_nm y).cls = true ∧ fx_mL y ≤ 20 := by decide +kernel
