def RX0 : String := "BumpsChart$Cells"
def TX0 : u_T := fun k => match k with
  | _ => ("BumpsChart$Cells", "cells", "[I", true)
def tyX0 : Nat → FieldType := fun k => match k with
  | _ => .array .int
abbrev wsX00 : List Cond := u_ws RX0 TX0 1
theorem nmX0 : ∀ a, a < 1 → ∀ b, b < 1 → a ≠ b → (TX0 a).2.1 ≠ (TX0 b).2.1 := by decide +kernel
theorem tyX0_ok : ∀ k, k < 1 → parseFieldDescriptor (TX0 k).2.2.1 = some (tyX0 k) := by decide +kernel
abbrev cX0_init : ByteArray := prog_2_method_1_code
def yX0_init : MethodName := ⟨RX0, "<init>", "(I)V"⟩
abbrev cX0_get : ByteArray := prog_2_method_2_code
def yX0_get : MethodName := ⟨RX0, "get", "(I)I"⟩
abbrev cX0_put : ByteArray := prog_2_method_3_code
def yX0_put : MethodName := ⟨RX0, "put", "(II)V"⟩
abbrev cX0_copyFrom : ByteArray := prog_2_method_4_code
def yX0_copyFrom : MethodName := ⟨RX0, "copyFrom", "(LBumpsChart$Cells;)V"⟩
def RX1 : String := "BumpsChart$Chart"
def TX1 : u_T := fun k => match k with
  | 0 => ("BumpsChart$Chart", "speeds", "LBumpsChart$Cells;", true)
  | 1 => ("BumpsChart$Chart", "places", "LBumpsChart$Cells;", true)
  | 2 => ("BumpsChart$Chart", "order", "LBumpsChart$Cells;", true)
  | 3 => ("BumpsChart$Chart", "race", "LBumpsChart$Race;", true)
  | 4 => ("BumpsChart$Chart", "log", "LBumpsChart$Log;", true)
  | 5 => ("BumpsChart$Chart", "crews", "I", false)
  | 6 => ("BumpsChart$Chart", "size", "I", false)
  | 7 => ("BumpsChart$Chart", "days", "I", false)
  | 8 => ("BumpsChart$Chart", "daysOver", "I", false)
  | 9 => ("BumpsChart$Chart", "division", "I", false)
  | 10 => ("BumpsChart$Chart", "gap", "I", false)
  | 11 => ("BumpsChart$Chart", "raceLength", "I", false)
  | _ => ("BumpsChart$Chart", "placesAfter", "LBumpsChart$Cells;", true)
def tyX1 : Nat → FieldType := fun k => match k with
  | 0 => .object "BumpsChart$Cells"
  | 1 => .object "BumpsChart$Cells"
  | 2 => .object "BumpsChart$Cells"
  | 3 => .object "BumpsChart$Race"
  | 4 => .object "BumpsChart$Log"
  | 5 => .int
  | 6 => .int
  | 7 => .int
  | 8 => .int
  | 9 => .int
  | 10 => .int
  | 11 => .int
  | _ => .object "BumpsChart$Cells"
abbrev wsX10 : List Cond := u_ws RX1 TX1 13
theorem nmX1 : ∀ a, a < 13 → ∀ b, b < 13 → a ≠ b → (TX1 a).2.1 ≠ (TX1 b).2.1 := by decide +kernel
theorem tyX1_ok : ∀ k, k < 13 → parseFieldDescriptor (TX1 k).2.2.1 = some (tyX1 k) := by decide +kernel
abbrev cX1_init : ByteArray := prog_3_method_1_code
def yX1_init : MethodName := ⟨RX1, "<init>", "()V"⟩
abbrev cX1_startAnew : ByteArray := prog_3_method_2_code
def yX1_startAnew : MethodName := ⟨RX1, "startAnew", "(III)V"⟩
abbrev cX1_hasCrew : ByteArray := prog_3_method_3_code
def yX1_hasCrew : MethodName := ⟨RX1, "hasCrew", "(I)Z"⟩
abbrev cX1_hasDay : ByteArray := prog_3_method_4_code
def yX1_hasDay : MethodName := ⟨RX1, "hasDay", "(I)Z"⟩
abbrev cX1_hasRace : ByteArray := prog_3_method_5_code
def yX1_hasRace : MethodName := ⟨RX1, "hasRace", "()Z"⟩
abbrev cX1_divisions : ByteArray := prog_3_method_6_code
def yX1_divisions : MethodName := ⟨RX1, "divisions", "()I"⟩
abbrev cX1_divisionOf : ByteArray := prog_3_method_7_code
def yX1_divisionOf : MethodName := ⟨RX1, "divisionOf", "(I)I"⟩
abbrev cX1_putAt : ByteArray := prog_3_method_8_code
def yX1_putAt : MethodName := ⟨RX1, "putAt", "(II)V"⟩
abbrev cX1_starters : ByteArray := prog_3_method_9_code
def yX1_starters : MethodName := ⟨RX1, "starters", "()I"⟩
abbrev cX1_starterAt : ByteArray := prog_3_method_10_code
def yX1_starterAt : MethodName := ⟨RX1, "starterAt", "(I)I"⟩
abbrev cX1_startNumber : ByteArray := prog_3_method_11_code
def yX1_startNumber : MethodName := ⟨RX1, "startNumber", "(I)I"⟩
abbrev cX1_isStarter : ByteArray := prog_3_method_12_code
def yX1_isStarter : MethodName := ⟨RX1, "isStarter", "(I)Z"⟩
abbrev cX1_reasonAgainst : ByteArray := prog_3_method_13_code
def yX1_reasonAgainst : MethodName := ⟨RX1, "reasonAgainst", "(LBumpsChart$Race;II)I"⟩
abbrev cX1_span : ByteArray := prog_3_method_14_code
def yX1_span : MethodName := ⟨RX1, "span", "(I)I"⟩
abbrev cX1_withThoseThatNeed : ByteArray := prog_3_method_15_code
def yX1_withThoseThatNeed : MethodName := ⟨RX1, "withThoseThatNeed", "(I)I"⟩
abbrev cX1_neededBy : ByteArray := prog_3_method_16_code
def yX1_neededBy : MethodName := ⟨RX1, "neededBy", "(I)I"⟩
abbrev cX1_liesWithin : ByteArray := prog_3_method_17_code
def yX1_liesWithin : MethodName := ⟨RX1, "liesWithin", "(II)Z"⟩
abbrev cX1_endRace : ByteArray := prog_3_method_18_code
def yX1_endRace : MethodName := ⟨RX1, "endRace", "()I"⟩
abbrev cX1_exchange : ByteArray := prog_3_method_19_code
def yX1_exchange : MethodName := ⟨RX1, "exchange", "(II)V"⟩
abbrev cX1_endDay : ByteArray := prog_3_method_20_code
def yX1_endDay : MethodName := ⟨RX1, "endDay", "()V"⟩
abbrev cX1_notePlaces : ByteArray := prog_3_method_22_code
def yX1_notePlaces : MethodName := ⟨RX1, "notePlaces", "()V"⟩
abbrev cX1_placeAfter : ByteArray := prog_3_method_23_code
def yX1_placeAfter : MethodName := ⟨RX1, "placeAfter", "(II)I"⟩
abbrev cX1_daysRisen : ByteArray := prog_3_method_24_code
def yX1_daysRisen : MethodName := ⟨RX1, "daysRisen", "(I)I"⟩
abbrev cX1_daysFallen : ByteArray := prog_3_method_25_code
def yX1_daysFallen : MethodName := ⟨RX1, "daysFallen", "(I)I"⟩
abbrev cX1_award : ByteArray := prog_3_method_26_code
def yX1_award : MethodName := ⟨RX1, "award", "(I)I"⟩
abbrev cX1_bestRiser : ByteArray := prog_3_method_27_code
def yX1_bestRiser : MethodName := ⟨RX1, "bestRiser", "()I"⟩
abbrev cX1_copyFrom : ByteArray := prog_3_method_28_code
def yX1_copyFrom : MethodName := ⟨RX1, "copyFrom", "(LBumpsChart$Chart;)V"⟩
def RX2 : String := "BumpsChart$Forecast"
def TX2 : u_T := fun k => match k with
  | 0 => ("BumpsChart$Forecast", "ups", "LBumpsChart$Cells;", true)
  | 1 => ("BumpsChart$Forecast", "downs", "LBumpsChart$Cells;", true)
  | 2 => ("BumpsChart$Forecast", "found", "I", false)
  | 3 => ("BumpsChart$Forecast", "times", "[D", true)
  | 4 => ("BumpsChart$Forecast", "speeds", "LBumpsChart$Cells;", true)
  | 5 => ("BumpsChart$Forecast", "outs", "LBumpsChart$Cells;", true)
  | _ => ("BumpsChart$Forecast", "starters", "I", false)
def tyX2 : Nat → FieldType := fun k => match k with
  | 0 => .object "BumpsChart$Cells"
  | 1 => .object "BumpsChart$Cells"
  | 2 => .int
  | 3 => .array .double
  | 4 => .object "BumpsChart$Cells"
  | 5 => .object "BumpsChart$Cells"
  | _ => .int
abbrev wsX20 : List Cond := u_ws RX2 TX2 7
theorem nmX2 : ∀ a, a < 7 → ∀ b, b < 7 → a ≠ b → (TX2 a).2.1 ≠ (TX2 b).2.1 := by decide +kernel
theorem tyX2_ok : ∀ k, k < 7 → parseFieldDescriptor (TX2 k).2.2.1 = some (tyX2 k) := by decide +kernel
abbrev cX2_init : ByteArray := prog_4_method_1_code
def yX2_init : MethodName := ⟨RX2, "<init>", "()V"⟩
abbrev cX2_foretell : ByteArray := prog_4_method_2_code
def yX2_foretell : MethodName := ⟨RX2, "foretell", "(LBumpsChart$Chart;)V"⟩
abbrev cX2_foretellWith : ByteArray := prog_4_method_3_code
def yX2_foretellWith : MethodName := ⟨RX2, "foretellWith", "(LBumpsChart$Chart;II)V"⟩
abbrev cX2_findNext : ByteArray := prog_4_method_4_code
def yX2_findNext : MethodName := ⟨RX2, "findNext", "(ID)Z"⟩
abbrev cX2_add : ByteArray := prog_4_method_5_code
def yX2_add : MethodName := ⟨RX2, "add", "(IID)V"⟩
abbrev cX2_timeOf : ByteArray := prog_4_method_6_code
def yX2_timeOf : MethodName := ⟨RX2, "timeOf", "(I)D"⟩
def RX3 : String := "BumpsChart$History"
def TX3 : u_T := fun k => match k with
  | 0 => ("BumpsChart$History", "past", "[LBumpsChart$Chart;", true)
  | _ => ("BumpsChart$History", "kept", "I", false)
def tyX3 : Nat → FieldType := fun k => match k with
  | 0 => .array (.object "BumpsChart$Chart")
  | _ => .int
abbrev wsX30 : List Cond := u_ws RX3 TX3 2
theorem nmX3 : ∀ a, a < 2 → ∀ b, b < 2 → a ≠ b → (TX3 a).2.1 ≠ (TX3 b).2.1 := by decide +kernel
theorem tyX3_ok : ∀ k, k < 2 → parseFieldDescriptor (TX3 k).2.2.1 = some (tyX3 k) := by decide +kernel
abbrev cX3_init : ByteArray := prog_5_method_1_code
def yX3_init : MethodName := ⟨RX3, "<init>", "()V"⟩
abbrev cX3_keep : ByteArray := prog_5_method_2_code
def yX3_keep : MethodName := ⟨RX3, "keep", "(LBumpsChart$Chart;)V"⟩
abbrev cX3_moveOldestToEnd : ByteArray := prog_5_method_3_code
def yX3_moveOldestToEnd : MethodName := ⟨RX3, "moveOldestToEnd", "()V"⟩
abbrev cX3_latest : ByteArray := prog_5_method_4_code
def yX3_latest : MethodName := ⟨RX3, "latest", "()LBumpsChart$Chart;"⟩
abbrev cX3_dropLatest : ByteArray := prog_5_method_5_code
def yX3_dropLatest : MethodName := ⟨RX3, "dropLatest", "()V"⟩
def RX4 : String := "BumpsChart$Log"
def TX4 : u_T := fun k => match k with
  | 0 => ("BumpsChart$Log", "ofDay", "LBumpsChart$Cells;", true)
  | 1 => ("BumpsChart$Log", "ups", "LBumpsChart$Cells;", true)
  | 2 => ("BumpsChart$Log", "downs", "LBumpsChart$Cells;", true)
  | 3 => ("BumpsChart$Log", "spans", "LBumpsChart$Cells;", true)
  | _ => ("BumpsChart$Log", "logged", "I", false)
def tyX4 : Nat → FieldType := fun k => match k with
  | 0 => .object "BumpsChart$Cells"
  | 1 => .object "BumpsChart$Cells"
  | 2 => .object "BumpsChart$Cells"
  | 3 => .object "BumpsChart$Cells"
  | _ => .int
abbrev wsX40 : List Cond := u_ws RX4 TX4 5
theorem nmX4 : ∀ a, a < 5 → ∀ b, b < 5 → a ≠ b → (TX4 a).2.1 ≠ (TX4 b).2.1 := by decide +kernel
theorem tyX4_ok : ∀ k, k < 5 → parseFieldDescriptor (TX4 k).2.2.1 = some (tyX4 k) := by decide +kernel
abbrev cX4_init : ByteArray := prog_6_method_1_code
def yX4_init : MethodName := ⟨RX4, "<init>", "()V"⟩
abbrev cX4_empty : ByteArray := prog_6_method_2_code
def yX4_empty : MethodName := ⟨RX4, "empty", "()V"⟩
abbrev cX4_add : ByteArray := prog_6_method_3_code
def yX4_add : MethodName := ⟨RX4, "add", "(IIII)V"⟩
abbrev cX4_madeBy : ByteArray := prog_6_method_4_code
def yX4_madeBy : MethodName := ⟨RX4, "madeBy", "(I)I"⟩
abbrev cX4_madeOn : ByteArray := prog_6_method_5_code
def yX4_madeOn : MethodName := ⟨RX4, "madeOn", "(I)I"⟩
abbrev cX4_countOf : ByteArray := prog_6_method_6_code
def yX4_countOf : MethodName := ⟨RX4, "countOf", "(LBumpsChart$Cells;I)I"⟩
abbrev cX4_follow : ByteArray := prog_6_method_7_code
def yX4_follow : MethodName := ⟨RX4, "follow", "(II)I"⟩
abbrev cX4_copyFrom : ByteArray := prog_6_method_8_code
def yX4_copyFrom : MethodName := ⟨RX4, "copyFrom", "(LBumpsChart$Log;)V"⟩
def RX5 : String := "BumpsChart$Race"
def TX5 : u_T := fun k => match k with
  | 0 => ("BumpsChart$Race", "ups", "LBumpsChart$Cells;", true)
  | 1 => ("BumpsChart$Race", "downs", "LBumpsChart$Cells;", true)
  | _ => ("BumpsChart$Race", "made", "I", false)
def tyX5 : Nat → FieldType := fun k => match k with
  | 0 => .object "BumpsChart$Cells"
  | 1 => .object "BumpsChart$Cells"
  | _ => .int
abbrev wsX50 : List Cond := u_ws RX5 TX5 3
theorem nmX5 : ∀ a, a < 3 → ∀ b, b < 3 → a ≠ b → (TX5 a).2.1 ≠ (TX5 b).2.1 := by decide +kernel
theorem tyX5_ok : ∀ k, k < 3 → parseFieldDescriptor (TX5 k).2.2.1 = some (tyX5 k) := by decide +kernel
abbrev cX5_init : ByteArray := prog_7_method_1_code
def yX5_init : MethodName := ⟨RX5, "<init>", "()V"⟩
abbrev cX5_has : ByteArray := prog_7_method_2_code
def yX5_has : MethodName := ⟨RX5, "has", "(I)Z"⟩
abbrev cX5_add : ByteArray := prog_7_method_3_code
def yX5_add : MethodName := ⟨RX5, "add", "(II)V"⟩
abbrev cX5_isOut : ByteArray := prog_7_method_4_code
def yX5_isOut : MethodName := ⟨RX5, "isOut", "(I)Z"⟩
abbrev cX5_takeBack : ByteArray := prog_7_method_5_code
def yX5_takeBack : MethodName := ⟨RX5, "takeBack", "(I)V"⟩
abbrev cX5_copyFrom : ByteArray := prog_7_method_6_code
def yX5_copyFrom : MethodName := ⟨RX5, "copyFrom", "(LBumpsChart$Race;)V"⟩
def RX6 : String := "BumpsChart$Script"
def TX6 : u_T := fun k => match k with
  | 0 => ("BumpsChart$Script", "length", "I", false)
  | 1 => ("BumpsChart$Script", "reason", "I", false)
  | 2 => ("BumpsChart$Script", "faultAt", "I", false)
  | 3 => ("BumpsChart$Script", "bumps", "I", false)
  | 4 => ("BumpsChart$Script", "trial", "LBumpsChart$Race;", true)
  | 5 => ("BumpsChart$Script", "signs", "LBumpsChart$Cells;", true)
  | 6 => ("BumpsChart$Script", "up", "I", false)
  | 7 => ("BumpsChart$Script", "down", "I", false)
  | _ => ("BumpsChart$Script", "next", "I", false)
def tyX6 : Nat → FieldType := fun k => match k with
  | 0 => .int
  | 1 => .int
  | 2 => .int
  | 3 => .int
  | 4 => .object "BumpsChart$Race"
  | 5 => .object "BumpsChart$Cells"
  | 6 => .int
  | 7 => .int
  | _ => .int
abbrev wsX60 : List Cond := u_ws RX6 TX6 9
theorem nmX6 : ∀ a, a < 9 → ∀ b, b < 9 → a ≠ b → (TX6 a).2.1 ≠ (TX6 b).2.1 := by decide +kernel
theorem tyX6_ok : ∀ k, k < 9 → parseFieldDescriptor (TX6 k).2.2.1 = some (tyX6 k) := by decide +kernel
abbrev cX6_init : ByteArray := prog_8_method_1_code
def yX6_init : MethodName := ⟨RX6, "<init>", "()V"⟩
def RX7 : String := "BumpsChart"
def TX7 : u_T := fun k => match k with
  | 0 => ("BumpsChart", "now", "LBumpsChart$Chart;", true)
  | 1 => ("BumpsChart", "history", "LBumpsChart$History;", true)
  | 2 => ("BumpsChart", "forecast", "LBumpsChart$Forecast;", true)
  | _ => ("BumpsChart", "script", "LBumpsChart$Script;", true)
def tyX7 : Nat → FieldType := fun k => match k with
  | 0 => .object "BumpsChart$Chart"
  | 1 => .object "BumpsChart$History"
  | 2 => .object "BumpsChart$Forecast"
  | _ => .object "BumpsChart$Script"
abbrev wsX70 : List Cond := u_ws RX7 TX7 4
theorem nmX7 : ∀ a, a < 4 → ∀ b, b < 4 → a ≠ b → (TX7 a).2.1 ≠ (TX7 b).2.1 := by decide +kernel
theorem tyX7_ok : ∀ k, k < 4 → parseFieldDescriptor (TX7 k).2.2.1 = some (tyX7 k) := by decide +kernel
abbrev cX7_init : ByteArray := prog_1_method_1_code
def yX7_init : MethodName := ⟨RX7, "<init>", "()V"⟩
abbrev cX7_begin : ByteArray := prog_1_method_2_code
def yX7_begin : MethodName := ⟨RX7, "begin", "(III)I"⟩
abbrev cX7_setSpeed : ByteArray := prog_1_method_3_code
def yX7_setSpeed : MethodName := ⟨RX7, "setSpeed", "(II)I"⟩
abbrev cX7_count : ByteArray := prog_1_method_5_code
def yX7_count : MethodName := ⟨RX7, "count", "(I)I"⟩
abbrev cX7_crew : ByteArray := prog_1_method_6_code
def yX7_crew : MethodName := ⟨RX7, "crew", "(II)I"⟩
abbrev cX7_outFlag : ByteArray := prog_1_method_7_code
def yX7_outFlag : MethodName := ⟨RX7, "outFlag", "(I)I"⟩
abbrev cX7_at : ByteArray := prog_1_method_8_code
def yX7_at : MethodName := ⟨RX7, "at", "(I)I"⟩
abbrev cX7_starter : ByteArray := prog_1_method_9_code
def yX7_starter : MethodName := ⟨RX7, "starter", "(I)I"⟩
abbrev cX7_bump : ByteArray := prog_1_method_10_code
def yX7_bump : MethodName := ⟨RX7, "bump", "(II)I"⟩
abbrev cX7_why : ByteArray := prog_1_method_11_code
def yX7_why : MethodName := ⟨RX7, "why", "(II)I"⟩
abbrev cX7_bumped : ByteArray := prog_1_method_12_code
def yX7_bumped : MethodName := ⟨RX7, "bumped", "(II)I"⟩
abbrev cX7_rerow : ByteArray := prog_1_method_13_code
def yX7_rerow : MethodName := ⟨RX7, "rerow", "(I)I"⟩
abbrev cX7_finish : ByteArray := prog_1_method_14_code
def yX7_finish : MethodName := ⟨RX7, "finish", "()I"⟩
abbrev cX7_undo : ByteArray := prog_1_method_15_code
def yX7_undo : MethodName := ⟨RX7, "undo", "()I"⟩
abbrev cX7_foretold : ByteArray := prog_1_method_16_code
def yX7_foretold : MethodName := ⟨RX7, "foretold", "(II)I"⟩
abbrev cX7_row : ByteArray := prog_1_method_17_code
def yX7_row : MethodName := ⟨RX7, "row", "()I"⟩
abbrev cX7_floatBits : ByteArray := prog_1_method_20_code
def yX7_floatBits : MethodName := ⟨RX7, "floatBits", "(F)I"⟩
abbrev cX7_place : ByteArray := prog_1_method_21_code
def yX7_place : MethodName := ⟨RX7, "place", "(II)I"⟩
abbrev cX7_again : ByteArray := prog_1_method_22_code
def yX7_again : MethodName := ⟨RX7, "again", "(II)I"⟩
abbrev cX7_bestRise : ByteArray := prog_1_method_23_code
def yX7_bestRise : MethodName := ⟨RX7, "bestRise", "()I"⟩
def RX8 : String := "BumpsChartModel"
def TX8 : u_T := fun k => match k with
  | _ => ("", "", "", false)
def tyX8 : Nat → FieldType := fun k => match k with
  | _ => .int
abbrev wsX80 : List Cond := u_ws RX8 TX8 0
theorem nmX8 : ∀ a, a < 0 → ∀ b, b < 0 → a ≠ b → (TX8 a).2.1 ≠ (TX8 b).2.1 := by decide +kernel
theorem tyX8_ok : ∀ k, k < 0 → parseFieldDescriptor (TX8 k).2.2.1 = some (tyX8 k) := by decide +kernel
def RJ6 : String := "java/lang/Integer"
def TJ6 : u_T := fun k => match k with
  | _ => ("", "", "", false)
def tyJ6 : Nat → FieldType := fun k => match k with
  | _ => .int
abbrev cJ6_bitCount_0f7a4 : ByteArray := prog_11_method_49_code
def yJ6_bitCount_0f7a4 : MethodName := ⟨RJ6, "bitCount", "(I)I"⟩
def RJ9 : String := "java/lang/Math"
def TJ9 : u_T := fun k => match k with
  | _ => ("", "", "", false)
def tyJ9 : Nat → FieldType := fun k => match k with
  | _ => .int
abbrev cJ9_min_7cf53 : ByteArray := prog_12_method_69_code
def yJ9_min_7cf53 : MethodName := ⟨RJ9, "min", "(II)I"⟩
def RJ10 : String := "java/lang/System"
def TJ10 : u_T := fun k => match k with
  | _ => ("", "", "", false)
def tyJ10 : Nat → FieldType := fun k => match k with
  | _ => .int
def RL : String := "BumpsChartLaw"
abbrev cL_cell : ByteArray := method_2_code
def yL_cell : MethodName := ⟨RL, "cell", "([II)I"⟩
abbrev cL_holds : ByteArray := method_3_code
def yL_holds : MethodName := ⟨RL, "holds", "(LBumpsChart;)Z"⟩
abbrev cL_raced : ByteArray := method_4_code
def yL_raced : MethodName := ⟨RL, "raced", "(LBumpsChart;[II)Z"⟩
abbrev cL_law : ByteArray := code
def yL_law : MethodName := ⟨RL, "law", "([I)Z"⟩
abbrev vwCl : List vw_C := [(RX0, TX0, 1), (RX1, TX1, 13), (RX2, TX2, 7), (RX3, TX3, 2), (RX4, TX4, 5), (RX5, TX5, 3), (RX6, TX6, 9), (RX7, TX7, 4)]
