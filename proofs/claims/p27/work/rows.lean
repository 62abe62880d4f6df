section
-- ===== PART A: goes FIRST, ahead of the names: the tables' words, and 'selects' of the private methods out of them =====
/-- a private method of a class that the tables say can be made, by its rows of tables_1 -/
def lw_okq (q : MethodName × Nat) : Prop := (q.1.cls ≠ "java/lang/invoke/MethodHandle" ∧ q.1.cls ≠ "java/lang/invoke/VarHandle") ∧ Cond.instantiable q.1.cls q.2 ∈ tables_1 ∧ Cond.privateMethod q.1 ∈ tables_1 ∧ Cond.instanceMethod q.1 ∈ tables_1
theorem lw_p0 : lw_okq (⟨"BumpsChart$Chart", "putAt", "(II)V"⟩, 13) := ⟨⟨by decide +kernel, by decide +kernel⟩, List.mem_of_getElem? (i := 21) (by decide +kernel), List.mem_of_getElem? (i := 232) (by decide +kernel), List.mem_of_getElem? (i := 233) (by decide +kernel)⟩
theorem lw_p1 : lw_okq (⟨"BumpsChart$Chart", "notePlaces", "()V"⟩, 13) := ⟨⟨by decide +kernel, by decide +kernel⟩, List.mem_of_getElem? (i := 21) (by decide +kernel), List.mem_of_getElem? (i := 236) (by decide +kernel), List.mem_of_getElem? (i := 237) (by decide +kernel)⟩
theorem lw_p2 : lw_okq (⟨"BumpsChart$History", "moveOldestToEnd", "()V"⟩, 2) := ⟨⟨by decide +kernel, by decide +kernel⟩, List.mem_of_getElem? (i := 141) (by decide +kernel), List.mem_of_getElem? (i := 273) (by decide +kernel), List.mem_of_getElem? (i := 274) (by decide +kernel)⟩
theorem lw_p3 : lw_okq (⟨"BumpsChart$Forecast", "findNext", "(ID)Z"⟩, 7) := ⟨⟨by decide +kernel, by decide +kernel⟩, List.mem_of_getElem? (i := 158) (by decide +kernel), List.mem_of_getElem? (i := 359) (by decide +kernel), List.mem_of_getElem? (i := 360) (by decide +kernel)⟩
theorem lw_p4 : lw_okq (⟨"BumpsChart$Forecast", "add", "(IID)V"⟩, 7) := ⟨⟨by decide +kernel, by decide +kernel⟩, List.mem_of_getElem? (i := 158) (by decide +kernel), List.mem_of_getElem? (i := 363) (by decide +kernel), List.mem_of_getElem? (i := 364) (by decide +kernel)⟩
theorem lw_p5 : lw_okq (⟨"BumpsChart$Chart", "exchange", "(II)V"⟩, 13) := ⟨⟨by decide +kernel, by decide +kernel⟩, List.mem_of_getElem? (i := 21) (by decide +kernel), List.mem_of_getElem? (i := 399) (by decide +kernel), List.mem_of_getElem? (i := 400) (by decide +kernel)⟩
theorem lw_p6 : lw_okq (⟨"BumpsChart$Chart", "endDay", "()V"⟩, 13) := ⟨⟨by decide +kernel, by decide +kernel⟩, List.mem_of_getElem? (i := 21) (by decide +kernel), List.mem_of_getElem? (i := 403) (by decide +kernel), List.mem_of_getElem? (i := 404) (by decide +kernel)⟩
theorem lw_p7 : lw_okq (⟨"BumpsChart", "outFlag", "(I)I"⟩, 4) := ⟨⟨by decide +kernel, by decide +kernel⟩, List.mem_of_getElem? (i := 13) (by decide +kernel), List.mem_of_getElem? (i := 459) (by decide +kernel), List.mem_of_getElem? (i := 460) (by decide +kernel)⟩
theorem lw_p8 : lw_okq (⟨"BumpsChart$Log", "countOf", "(LBumpsChart$Cells;I)I"⟩, 5) := ⟨⟨by decide +kernel, by decide +kernel⟩, List.mem_of_getElem? (i := 62) (by decide +kernel), List.mem_of_getElem? (i := 486) (by decide +kernel), List.mem_of_getElem? (i := 487) (by decide +kernel)⟩
theorem lw_p9 : lw_okq (⟨"BumpsChart$Chart", "neededBy", "(I)I"⟩, 13) := ⟨⟨by decide +kernel, by decide +kernel⟩, List.mem_of_getElem? (i := 21) (by decide +kernel), List.mem_of_getElem? (i := 541) (by decide +kernel), List.mem_of_getElem? (i := 542) (by decide +kernel)⟩
theorem lw_p10 : lw_okq (⟨"BumpsChart$Chart", "liesWithin", "(II)Z"⟩, 13) := ⟨⟨by decide +kernel, by decide +kernel⟩, List.mem_of_getElem? (i := 21) (by decide +kernel), List.mem_of_getElem? (i := 545) (by decide +kernel), List.mem_of_getElem? (i := 546) (by decide +kernel)⟩
def lw_privs_1 : List (MethodName × Nat) := [(⟨"BumpsChart$Chart", "putAt", "(II)V"⟩, 13), (⟨"BumpsChart$Chart", "notePlaces", "()V"⟩, 13), (⟨"BumpsChart$History", "moveOldestToEnd", "()V"⟩, 2), (⟨"BumpsChart$Forecast", "findNext", "(ID)Z"⟩, 7), (⟨"BumpsChart$Forecast", "add", "(IID)V"⟩, 7), (⟨"BumpsChart$Chart", "exchange", "(II)V"⟩, 13), (⟨"BumpsChart$Chart", "endDay", "()V"⟩, 13), (⟨"BumpsChart", "outFlag", "(I)I"⟩, 4), (⟨"BumpsChart$Log", "countOf", "(LBumpsChart$Cells;I)I"⟩, 5), (⟨"BumpsChart$Chart", "neededBy", "(I)I"⟩, 13), (⟨"BumpsChart$Chart", "liesWithin", "(II)Z"⟩, 13)]
theorem lw_r1 : ∀ q ∈ lw_privs_1, lw_okq q := List.forall_mem_cons.mpr ⟨lw_p0, List.forall_mem_cons.mpr ⟨lw_p1, List.forall_mem_cons.mpr ⟨lw_p2, List.forall_mem_cons.mpr ⟨lw_p3, List.forall_mem_cons.mpr ⟨lw_p4, List.forall_mem_cons.mpr ⟨lw_p5, List.forall_mem_cons.mpr ⟨lw_p6, List.forall_mem_cons.mpr ⟨lw_p7, List.forall_mem_cons.mpr ⟨lw_p8, List.forall_mem_cons.mpr ⟨lw_p9, List.forall_mem_cons.mpr ⟨lw_p10, fun _ h => absurd h List.not_mem_nil⟩⟩⟩⟩⟩⟩⟩⟩⟩⟩⟩
def lw_privs : List (MethodName × Nat) := lw_privs_1
def lw_tbl : List Cond := k2_sels lw_privs ++ tables_1
theorem lw_privs_ok : ∀ q ∈ lw_privs, lw_okq q := lw_r1
/-- the streams that the claim lets the run draw from -/
abbrev lw_cs : List Choice := [Jvm.Choice.named "NaN.bits"]
theorem lw_bits : nanBits ∈ lw_cs := by first | decide | exact List.mem_cons_self | simp [lw_cs, nanBits]
end
section
def RX0 : String := "BumpsChart$Cells"
def TX0 : u_T := fun k => match k with
  | _ => ("BumpsChart$Cells", "cells", "[I", true)
def tyX0 : Nat → FieldType := fun k => match k with
  | _ => .array .int
abbrev wsX00 : List Cond := u_ws RX0 TX0 1
theorem nmX0 : ∀ a, a < 1 → ∀ b, b < 1 → a ≠ b → (TX0 a).2.1 ≠ (TX0 b).2.1 := by decide +kernel
theorem tyX0_ok : ∀ k, k < 1 → parseFieldDescriptor (TX0 k).2.2.1 = some (tyX0 k) := by decide +kernel
abbrev cX0_init : ByteArray := prog_2_method_1_code
def yX0_init : MethodName := ⟨RX0, "<init>", "(I)V"⟩
abbrev cX0_get : ByteArray := prog_2_method_2_code
def yX0_get : MethodName := ⟨RX0, "get", "(I)I"⟩
abbrev cX0_put : ByteArray := prog_2_method_3_code
def yX0_put : MethodName := ⟨RX0, "put", "(II)V"⟩
abbrev cX0_copyFrom : ByteArray := prog_2_method_4_code
def yX0_copyFrom : MethodName := ⟨RX0, "copyFrom", "(LBumpsChart$Cells;)V"⟩
def RX1 : String := "BumpsChart$Chart"
def TX1 : u_T := fun k => match k with
  | 0 => ("BumpsChart$Chart", "speeds", "LBumpsChart$Cells;", true)
  | 1 => ("BumpsChart$Chart", "places", "LBumpsChart$Cells;", true)
  | 2 => ("BumpsChart$Chart", "order", "LBumpsChart$Cells;", true)
  | 3 => ("BumpsChart$Chart", "race", "LBumpsChart$Race;", true)
  | 4 => ("BumpsChart$Chart", "log", "LBumpsChart$Log;", true)
  | 5 => ("BumpsChart$Chart", "crews", "I", false)
  | 6 => ("BumpsChart$Chart", "size", "I", false)
  | 7 => ("BumpsChart$Chart", "days", "I", false)
  | 8 => ("BumpsChart$Chart", "daysOver", "I", false)
  | 9 => ("BumpsChart$Chart", "division", "I", false)
  | 10 => ("BumpsChart$Chart", "gap", "I", false)
  | 11 => ("BumpsChart$Chart", "raceLength", "I", false)
  | _ => ("BumpsChart$Chart", "placesAfter", "LBumpsChart$Cells;", true)
def tyX1 : Nat → FieldType := fun k => match k with
  | 0 => .object "BumpsChart$Cells"
  | 1 => .object "BumpsChart$Cells"
  | 2 => .object "BumpsChart$Cells"
  | 3 => .object "BumpsChart$Race"
  | 4 => .object "BumpsChart$Log"
  | 5 => .int
  | 6 => .int
  | 7 => .int
  | 8 => .int
  | 9 => .int
  | 10 => .int
  | 11 => .int
  | _ => .object "BumpsChart$Cells"
abbrev wsX10 : List Cond := u_ws RX1 TX1 13
theorem nmX1 : ∀ a, a < 13 → ∀ b, b < 13 → a ≠ b → (TX1 a).2.1 ≠ (TX1 b).2.1 := by decide +kernel
theorem tyX1_ok : ∀ k, k < 13 → parseFieldDescriptor (TX1 k).2.2.1 = some (tyX1 k) := by decide +kernel
abbrev cX1_init : ByteArray := prog_3_method_1_code
def yX1_init : MethodName := ⟨RX1, "<init>", "()V"⟩
abbrev cX1_startAnew : ByteArray := prog_3_method_2_code
def yX1_startAnew : MethodName := ⟨RX1, "startAnew", "(III)V"⟩
abbrev cX1_hasCrew : ByteArray := prog_3_method_3_code
def yX1_hasCrew : MethodName := ⟨RX1, "hasCrew", "(I)Z"⟩
abbrev cX1_hasDay : ByteArray := prog_3_method_4_code
def yX1_hasDay : MethodName := ⟨RX1, "hasDay", "(I)Z"⟩
abbrev cX1_hasRace : ByteArray := prog_3_method_5_code
def yX1_hasRace : MethodName := ⟨RX1, "hasRace", "()Z"⟩
abbrev cX1_divisions : ByteArray := prog_3_method_6_code
def yX1_divisions : MethodName := ⟨RX1, "divisions", "()I"⟩
abbrev cX1_divisionOf : ByteArray := prog_3_method_7_code
def yX1_divisionOf : MethodName := ⟨RX1, "divisionOf", "(I)I"⟩
abbrev cX1_putAt : ByteArray := prog_3_method_8_code
def yX1_putAt : MethodName := ⟨RX1, "putAt", "(II)V"⟩
abbrev cX1_starters : ByteArray := prog_3_method_9_code
def yX1_starters : MethodName := ⟨RX1, "starters", "()I"⟩
abbrev cX1_starterAt : ByteArray := prog_3_method_10_code
def yX1_starterAt : MethodName := ⟨RX1, "starterAt", "(I)I"⟩
abbrev cX1_startNumber : ByteArray := prog_3_method_11_code
def yX1_startNumber : MethodName := ⟨RX1, "startNumber", "(I)I"⟩
abbrev cX1_isStarter : ByteArray := prog_3_method_12_code
def yX1_isStarter : MethodName := ⟨RX1, "isStarter", "(I)Z"⟩
abbrev cX1_reasonAgainst : ByteArray := prog_3_method_13_code
def yX1_reasonAgainst : MethodName := ⟨RX1, "reasonAgainst", "(LBumpsChart$Race;II)I"⟩
abbrev cX1_span : ByteArray := prog_3_method_14_code
def yX1_span : MethodName := ⟨RX1, "span", "(I)I"⟩
abbrev cX1_withThoseThatNeed : ByteArray := prog_3_method_15_code
def yX1_withThoseThatNeed : MethodName := ⟨RX1, "withThoseThatNeed", "(I)I"⟩
abbrev cX1_neededBy : ByteArray := prog_3_method_16_code
def yX1_neededBy : MethodName := ⟨RX1, "neededBy", "(I)I"⟩
abbrev cX1_liesWithin : ByteArray := prog_3_method_17_code
def yX1_liesWithin : MethodName := ⟨RX1, "liesWithin", "(II)Z"⟩
abbrev cX1_endRace : ByteArray := prog_3_method_18_code
def yX1_endRace : MethodName := ⟨RX1, "endRace", "()I"⟩
abbrev cX1_exchange : ByteArray := prog_3_method_19_code
def yX1_exchange : MethodName := ⟨RX1, "exchange", "(II)V"⟩
abbrev cX1_endDay : ByteArray := prog_3_method_20_code
def yX1_endDay : MethodName := ⟨RX1, "endDay", "()V"⟩
abbrev cX1_notePlaces : ByteArray := prog_3_method_22_code
def yX1_notePlaces : MethodName := ⟨RX1, "notePlaces", "()V"⟩
abbrev cX1_placeAfter : ByteArray := prog_3_method_23_code
def yX1_placeAfter : MethodName := ⟨RX1, "placeAfter", "(II)I"⟩
abbrev cX1_daysRisen : ByteArray := prog_3_method_24_code
def yX1_daysRisen : MethodName := ⟨RX1, "daysRisen", "(I)I"⟩
abbrev cX1_daysFallen : ByteArray := prog_3_method_25_code
def yX1_daysFallen : MethodName := ⟨RX1, "daysFallen", "(I)I"⟩
abbrev cX1_award : ByteArray := prog_3_method_26_code
def yX1_award : MethodName := ⟨RX1, "award", "(I)I"⟩
abbrev cX1_bestRiser : ByteArray := prog_3_method_27_code
def yX1_bestRiser : MethodName := ⟨RX1, "bestRiser", "()I"⟩
abbrev cX1_copyFrom : ByteArray := prog_3_method_28_code
def yX1_copyFrom : MethodName := ⟨RX1, "copyFrom", "(LBumpsChart$Chart;)V"⟩
def RX2 : String := "BumpsChart$Forecast"
def TX2 : u_T := fun k => match k with
  | 0 => ("BumpsChart$Forecast", "ups", "LBumpsChart$Cells;", true)
  | 1 => ("BumpsChart$Forecast", "downs", "LBumpsChart$Cells;", true)
  | 2 => ("BumpsChart$Forecast", "found", "I", false)
  | 3 => ("BumpsChart$Forecast", "times", "[D", true)
  | 4 => ("BumpsChart$Forecast", "speeds", "LBumpsChart$Cells;", true)
  | 5 => ("BumpsChart$Forecast", "outs", "LBumpsChart$Cells;", true)
  | _ => ("BumpsChart$Forecast", "starters", "I", false)
def tyX2 : Nat → FieldType := fun k => match k with
  | 0 => .object "BumpsChart$Cells"
  | 1 => .object "BumpsChart$Cells"
  | 2 => .int
  | 3 => .array .double
  | 4 => .object "BumpsChart$Cells"
  | 5 => .object "BumpsChart$Cells"
  | _ => .int
abbrev wsX20 : List Cond := u_ws RX2 TX2 7
theorem nmX2 : ∀ a, a < 7 → ∀ b, b < 7 → a ≠ b → (TX2 a).2.1 ≠ (TX2 b).2.1 := by decide +kernel
theorem tyX2_ok : ∀ k, k < 7 → parseFieldDescriptor (TX2 k).2.2.1 = some (tyX2 k) := by decide +kernel
abbrev cX2_init : ByteArray := prog_4_method_1_code
def yX2_init : MethodName := ⟨RX2, "<init>", "()V"⟩
abbrev cX2_foretell : ByteArray := prog_4_method_2_code
def yX2_foretell : MethodName := ⟨RX2, "foretell", "(LBumpsChart$Chart;)V"⟩
abbrev cX2_foretellWith : ByteArray := prog_4_method_3_code
def yX2_foretellWith : MethodName := ⟨RX2, "foretellWith", "(LBumpsChart$Chart;II)V"⟩
abbrev cX2_findNext : ByteArray := prog_4_method_4_code
def yX2_findNext : MethodName := ⟨RX2, "findNext", "(ID)Z"⟩
abbrev cX2_add : ByteArray := prog_4_method_5_code
def yX2_add : MethodName := ⟨RX2, "add", "(IID)V"⟩
abbrev cX2_timeOf : ByteArray := prog_4_method_6_code
def yX2_timeOf : MethodName := ⟨RX2, "timeOf", "(I)D"⟩
def RX3 : String := "BumpsChart$History"
def TX3 : u_T := fun k => match k with
  | 0 => ("BumpsChart$History", "past", "[LBumpsChart$Chart;", true)
  | _ => ("BumpsChart$History", "kept", "I", false)
def tyX3 : Nat → FieldType := fun k => match k with
  | 0 => .array (.object "BumpsChart$Chart")
  | _ => .int
abbrev wsX30 : List Cond := u_ws RX3 TX3 2
theorem nmX3 : ∀ a, a < 2 → ∀ b, b < 2 → a ≠ b → (TX3 a).2.1 ≠ (TX3 b).2.1 := by decide +kernel
theorem tyX3_ok : ∀ k, k < 2 → parseFieldDescriptor (TX3 k).2.2.1 = some (tyX3 k) := by decide +kernel
abbrev cX3_init : ByteArray := prog_5_method_1_code
def yX3_init : MethodName := ⟨RX3, "<init>", "()V"⟩
abbrev cX3_keep : ByteArray := prog_5_method_2_code
def yX3_keep : MethodName := ⟨RX3, "keep", "(LBumpsChart$Chart;)V"⟩
abbrev cX3_moveOldestToEnd : ByteArray := prog_5_method_3_code
def yX3_moveOldestToEnd : MethodName := ⟨RX3, "moveOldestToEnd", "()V"⟩
abbrev cX3_latest : ByteArray := prog_5_method_4_code
def yX3_latest : MethodName := ⟨RX3, "latest", "()LBumpsChart$Chart;"⟩
abbrev cX3_dropLatest : ByteArray := prog_5_method_5_code
def yX3_dropLatest : MethodName := ⟨RX3, "dropLatest", "()V"⟩
def RX4 : String := "BumpsChart$Log"
def TX4 : u_T := fun k => match k with
  | 0 => ("BumpsChart$Log", "ofDay", "LBumpsChart$Cells;", true)
  | 1 => ("BumpsChart$Log", "ups", "LBumpsChart$Cells;", true)
  | 2 => ("BumpsChart$Log", "downs", "LBumpsChart$Cells;", true)
  | 3 => ("BumpsChart$Log", "spans", "LBumpsChart$Cells;", true)
  | _ => ("BumpsChart$Log", "logged", "I", false)
def tyX4 : Nat → FieldType := fun k => match k with
  | 0 => .object "BumpsChart$Cells"
  | 1 => .object "BumpsChart$Cells"
  | 2 => .object "BumpsChart$Cells"
  | 3 => .object "BumpsChart$Cells"
  | _ => .int
abbrev wsX40 : List Cond := u_ws RX4 TX4 5
theorem nmX4 : ∀ a, a < 5 → ∀ b, b < 5 → a ≠ b → (TX4 a).2.1 ≠ (TX4 b).2.1 := by decide +kernel
theorem tyX4_ok : ∀ k, k < 5 → parseFieldDescriptor (TX4 k).2.2.1 = some (tyX4 k) := by decide +kernel
abbrev cX4_init : ByteArray := prog_6_method_1_code
def yX4_init : MethodName := ⟨RX4, "<init>", "()V"⟩
abbrev cX4_empty : ByteArray := prog_6_method_2_code
def yX4_empty : MethodName := ⟨RX4, "empty", "()V"⟩
abbrev cX4_add : ByteArray := prog_6_method_3_code
def yX4_add : MethodName := ⟨RX4, "add", "(IIII)V"⟩
abbrev cX4_madeBy : ByteArray := prog_6_method_4_code
def yX4_madeBy : MethodName := ⟨RX4, "madeBy", "(I)I"⟩
abbrev cX4_madeOn : ByteArray := prog_6_method_5_code
def yX4_madeOn : MethodName := ⟨RX4, "madeOn", "(I)I"⟩
abbrev cX4_countOf : ByteArray := prog_6_method_6_code
def yX4_countOf : MethodName := ⟨RX4, "countOf", "(LBumpsChart$Cells;I)I"⟩
abbrev cX4_follow : ByteArray := prog_6_method_7_code
def yX4_follow : MethodName := ⟨RX4, "follow", "(II)I"⟩
abbrev cX4_copyFrom : ByteArray := prog_6_method_8_code
def yX4_copyFrom : MethodName := ⟨RX4, "copyFrom", "(LBumpsChart$Log;)V"⟩
def RX5 : String := "BumpsChart$Race"
def TX5 : u_T := fun k => match k with
  | 0 => ("BumpsChart$Race", "ups", "LBumpsChart$Cells;", true)
  | 1 => ("BumpsChart$Race", "downs", "LBumpsChart$Cells;", true)
  | _ => ("BumpsChart$Race", "made", "I", false)
def tyX5 : Nat → FieldType := fun k => match k with
  | 0 => .object "BumpsChart$Cells"
  | 1 => .object "BumpsChart$Cells"
  | _ => .int
abbrev wsX50 : List Cond := u_ws RX5 TX5 3
theorem nmX5 : ∀ a, a < 3 → ∀ b, b < 3 → a ≠ b → (TX5 a).2.1 ≠ (TX5 b).2.1 := by decide +kernel
theorem tyX5_ok : ∀ k, k < 3 → parseFieldDescriptor (TX5 k).2.2.1 = some (tyX5 k) := by decide +kernel
abbrev cX5_init : ByteArray := prog_7_method_1_code
def yX5_init : MethodName := ⟨RX5, "<init>", "()V"⟩
abbrev cX5_has : ByteArray := prog_7_method_2_code
def yX5_has : MethodName := ⟨RX5, "has", "(I)Z"⟩
abbrev cX5_add : ByteArray := prog_7_method_3_code
def yX5_add : MethodName := ⟨RX5, "add", "(II)V"⟩
abbrev cX5_isOut : ByteArray := prog_7_method_4_code
def yX5_isOut : MethodName := ⟨RX5, "isOut", "(I)Z"⟩
abbrev cX5_takeBack : ByteArray := prog_7_method_5_code
def yX5_takeBack : MethodName := ⟨RX5, "takeBack", "(I)V"⟩
abbrev cX5_copyFrom : ByteArray := prog_7_method_6_code
def yX5_copyFrom : MethodName := ⟨RX5, "copyFrom", "(LBumpsChart$Race;)V"⟩
def RX6 : String := "BumpsChart$Script"
def TX6 : u_T := fun k => match k with
  | 0 => ("BumpsChart$Script", "length", "I", false)
  | 1 => ("BumpsChart$Script", "reason", "I", false)
  | 2 => ("BumpsChart$Script", "faultAt", "I", false)
  | 3 => ("BumpsChart$Script", "bumps", "I", false)
  | 4 => ("BumpsChart$Script", "trial", "LBumpsChart$Race;", true)
  | 5 => ("BumpsChart$Script", "signs", "LBumpsChart$Cells;", true)
  | 6 => ("BumpsChart$Script", "up", "I", false)
  | 7 => ("BumpsChart$Script", "down", "I", false)
  | _ => ("BumpsChart$Script", "next", "I", false)
def tyX6 : Nat → FieldType := fun k => match k with
  | 0 => .int
  | 1 => .int
  | 2 => .int
  | 3 => .int
  | 4 => .object "BumpsChart$Race"
  | 5 => .object "BumpsChart$Cells"
  | 6 => .int
  | 7 => .int
  | _ => .int
abbrev wsX60 : List Cond := u_ws RX6 TX6 9
theorem nmX6 : ∀ a, a < 9 → ∀ b, b < 9 → a ≠ b → (TX6 a).2.1 ≠ (TX6 b).2.1 := by decide +kernel
theorem tyX6_ok : ∀ k, k < 9 → parseFieldDescriptor (TX6 k).2.2.1 = some (tyX6 k) := by decide +kernel
abbrev cX6_init : ByteArray := prog_8_method_1_code
def yX6_init : MethodName := ⟨RX6, "<init>", "()V"⟩
def RX7 : String := "BumpsChart"
def TX7 : u_T := fun k => match k with
  | 0 => ("BumpsChart", "now", "LBumpsChart$Chart;", true)
  | 1 => ("BumpsChart", "history", "LBumpsChart$History;", true)
  | 2 => ("BumpsChart", "forecast", "LBumpsChart$Forecast;", true)
  | _ => ("BumpsChart", "script", "LBumpsChart$Script;", true)
def tyX7 : Nat → FieldType := fun k => match k with
  | 0 => .object "BumpsChart$Chart"
  | 1 => .object "BumpsChart$History"
  | 2 => .object "BumpsChart$Forecast"
  | _ => .object "BumpsChart$Script"
abbrev wsX70 : List Cond := u_ws RX7 TX7 4
theorem nmX7 : ∀ a, a < 4 → ∀ b, b < 4 → a ≠ b → (TX7 a).2.1 ≠ (TX7 b).2.1 := by decide +kernel
theorem tyX7_ok : ∀ k, k < 4 → parseFieldDescriptor (TX7 k).2.2.1 = some (tyX7 k) := by decide +kernel
abbrev cX7_init : ByteArray := prog_1_method_1_code
def yX7_init : MethodName := ⟨RX7, "<init>", "()V"⟩
abbrev cX7_begin : ByteArray := prog_1_method_2_code
def yX7_begin : MethodName := ⟨RX7, "begin", "(III)I"⟩
abbrev cX7_setSpeed : ByteArray := prog_1_method_3_code
def yX7_setSpeed : MethodName := ⟨RX7, "setSpeed", "(II)I"⟩
abbrev cX7_count : ByteArray := prog_1_method_5_code
def yX7_count : MethodName := ⟨RX7, "count", "(I)I"⟩
abbrev cX7_crew : ByteArray := prog_1_method_6_code
def yX7_crew : MethodName := ⟨RX7, "crew", "(II)I"⟩
abbrev cX7_outFlag : ByteArray := prog_1_method_7_code
def yX7_outFlag : MethodName := ⟨RX7, "outFlag", "(I)I"⟩
abbrev cX7_at : ByteArray := prog_1_method_8_code
def yX7_at : MethodName := ⟨RX7, "at", "(I)I"⟩
abbrev cX7_starter : ByteArray := prog_1_method_9_code
def yX7_starter : MethodName := ⟨RX7, "starter", "(I)I"⟩
abbrev cX7_bump : ByteArray := prog_1_method_10_code
def yX7_bump : MethodName := ⟨RX7, "bump", "(II)I"⟩
abbrev cX7_why : ByteArray := prog_1_method_11_code
def yX7_why : MethodName := ⟨RX7, "why", "(II)I"⟩
abbrev cX7_bumped : ByteArray := prog_1_method_12_code
def yX7_bumped : MethodName := ⟨RX7, "bumped", "(II)I"⟩
abbrev cX7_rerow : ByteArray := prog_1_method_13_code
def yX7_rerow : MethodName := ⟨RX7, "rerow", "(I)I"⟩
abbrev cX7_finish : ByteArray := prog_1_method_14_code
def yX7_finish : MethodName := ⟨RX7, "finish", "()I"⟩
abbrev cX7_undo : ByteArray := prog_1_method_15_code
def yX7_undo : MethodName := ⟨RX7, "undo", "()I"⟩
abbrev cX7_foretold : ByteArray := prog_1_method_16_code
def yX7_foretold : MethodName := ⟨RX7, "foretold", "(II)I"⟩
abbrev cX7_row : ByteArray := prog_1_method_17_code
def yX7_row : MethodName := ⟨RX7, "row", "()I"⟩
abbrev cX7_floatBits : ByteArray := prog_1_method_20_code
def yX7_floatBits : MethodName := ⟨RX7, "floatBits", "(F)I"⟩
abbrev cX7_place : ByteArray := prog_1_method_21_code
def yX7_place : MethodName := ⟨RX7, "place", "(II)I"⟩
abbrev cX7_again : ByteArray := prog_1_method_22_code
def yX7_again : MethodName := ⟨RX7, "again", "(II)I"⟩
abbrev cX7_bestRise : ByteArray := prog_1_method_23_code
def yX7_bestRise : MethodName := ⟨RX7, "bestRise", "()I"⟩
def RX8 : String := "BumpsChartModel"
def TX8 : u_T := fun k => match k with
  | _ => ("", "", "", false)
def tyX8 : Nat → FieldType := fun k => match k with
  | _ => .int
abbrev wsX80 : List Cond := u_ws RX8 TX8 0
theorem nmX8 : ∀ a, a < 0 → ∀ b, b < 0 → a ≠ b → (TX8 a).2.1 ≠ (TX8 b).2.1 := by decide +kernel
theorem tyX8_ok : ∀ k, k < 0 → parseFieldDescriptor (TX8 k).2.2.1 = some (tyX8 k) := by decide +kernel
def RJ6 : String := "java/lang/Integer"
def TJ6 : u_T := fun k => match k with
  | _ => ("", "", "", false)
def tyJ6 : Nat → FieldType := fun k => match k with
  | _ => .int
abbrev cJ6_bitCount_0f7a4 : ByteArray := prog_11_method_49_code
def yJ6_bitCount_0f7a4 : MethodName := ⟨RJ6, "bitCount", "(I)I"⟩
def RJ9 : String := "java/lang/Math"
def TJ9 : u_T := fun k => match k with
  | _ => ("", "", "", false)
def tyJ9 : Nat → FieldType := fun k => match k with
  | _ => .int
abbrev cJ9_min_7cf53 : ByteArray := prog_12_method_69_code
def yJ9_min_7cf53 : MethodName := ⟨RJ9, "min", "(II)I"⟩
def RJ10 : String := "java/lang/System"
def TJ10 : u_T := fun k => match k with
  | _ => ("", "", "", false)
def tyJ10 : Nat → FieldType := fun k => match k with
  | _ => .int
def RL : String := "BumpsChartLaw"
abbrev cL_cell : ByteArray := method_2_code
def yL_cell : MethodName := ⟨RL, "cell", "([II)I"⟩
abbrev cL_holds : ByteArray := method_3_code
def yL_holds : MethodName := ⟨RL, "holds", "(LBumpsChart;)Z"⟩
abbrev cL_raced : ByteArray := method_4_code
def yL_raced : MethodName := ⟨RL, "raced", "(LBumpsChart;[II)Z"⟩
abbrev cL_law : ByteArray := code
def yL_law : MethodName := ⟨RL, "law", "([I)Z"⟩
abbrev vwCl : List vw_C := [(RX0, TX0, 1), (RX1, TX1, 13), (RX2, TX2, 7), (RX3, TX3, 2), (RX4, TX4, 5), (RX5, TX5, 3), (RX6, TX6, 9), (RX7, TX7, 4)]
end
section
def zc0 : List (Nat × Instr × Nat × Nat × Nat) := [(0, .aload_n 0, 1, 0, 0), (1, .invokespecial 1, 3, 1002, 0), (4, .aload_n 0, 1, 0, 0), (5, .iload_n 1, 1, 0, 0), (6, .ifCond .ge 7, 3, 13, 0), (9, .iconst 0, 1, 0, 0), (10, .goto 4, 3, 14, 0), (13, .iload_n 1, 1, 0, 0), (14, .newarray .int, 2, 0, 0), (16, .putfield 7, 3, 0, 0), (19, .return_, 1, 0, 0)]
def zc1 : List (Nat × Instr × Nat × Nat × Nat) := [(0, .iload_n 1, 1, 0, 0), (1, .ifCond .lt 21, 3, 22, 0), (4, .iload_n 1, 1, 0, 0), (5, .aload_n 0, 1, 0, 0), (6, .getfield 7, 3, 0, 0), (9, .arraylength, 1, 0, 0), (10, .if_icmp .ge 12, 3, 22, 0), (13, .aload_n 0, 1, 0, 0), (14, .getfield 7, 3, 0, 0), (17, .iload_n 1, 1, 0, 0), (18, .iaload, 1, 0, 0), (19, .goto 4, 3, 23, 0), (22, .iconst 0, 1, 0, 0), (23, .ireturn, 1, 0, 0)]
def zc2 : List (Nat × Instr × Nat × Nat × Nat) := [(0, .iload_n 1, 1, 0, 0), (1, .ifCond .lt 19, 3, 20, 0), (4, .iload_n 1, 1, 0, 0), (5, .aload_n 0, 1, 0, 0), (6, .getfield 7, 3, 0, 0), (9, .arraylength, 1, 0, 0), (10, .if_icmp .ge 10, 3, 20, 0), (13, .aload_n 0, 1, 0, 0), (14, .getfield 7, 3, 0, 0), (17, .iload_n 1, 1, 0, 0), (18, .iload_n 2, 1, 0, 0), (19, .iastore, 1, 0, 0), (20, .return_, 1, 0, 0)]
def zc3 : List (Nat × Instr × Nat × Nat × Nat) := [(0, .aload_n 1, 1, 0, 0), (1, .getfield 7, 3, 0, 0), (4, .iconst 0, 1, 0, 0), (5, .aload_n 0, 1, 0, 0), (6, .getfield 7, 3, 0, 0), (9, .iconst 0, 1, 0, 0), (10, .aload_n 1, 1, 0, 0), (11, .getfield 7, 3, 0, 0), (14, .arraylength, 1, 0, 0), (15, .aload_n 0, 1, 0, 0), (16, .getfield 7, 3, 0, 0), (19, .arraylength, 1, 0, 0), (20, .invokestatic 13, 3, 78, 2), (23, .invokestatic 19, 3, 1000, 5), (26, .return_, 1, 0, 0)]
def zc4 : List (Nat × Instr × Nat × Nat × Nat) := [(0, .aload_n 0, 1, 0, 0), (1, .invokespecial 3, 3, 1002, 0), (4, .aload_n 0, 1, 0, 0), (5, .new 9, 3, 0, 0), (8, .dup, 1, 0, 0), (9, .bipush 24, 2, 0, 0), (11, .invokespecial 11, 3, 0, 1), (14, .putfield 14, 3, 1, 0), (17, .aload_n 0, 1, 0, 0), (18, .new 9, 3, 0, 0), (21, .dup, 1, 0, 0), (22, .bipush 24, 2, 0, 0), (24, .invokespecial 11, 3, 0, 1), (27, .putfield 20, 3, 1, 1), (30, .aload_n 0, 1, 0, 0), (31, .new 9, 3, 0, 0), (34, .dup, 1, 0, 0), (35, .bipush 24, 2, 0, 0), (37, .invokespecial 11, 3, 0, 1), (40, .putfield 23, 3, 1, 2), (43, .aload_n 0, 1, 0, 0), (44, .new 26, 3, 5, 0), (47, .dup, 1, 0, 0), (48, .invokespecial 28, 3, 50, 0), (51, .putfield 29, 3, 1, 3), (54, .aload_n 0, 1, 0, 0), (55, .new 33, 3, 4, 0), (58, .dup, 1, 0, 0), (59, .invokespecial 35, 3, 42, 0), (62, .putfield 36, 3, 1, 4), (65, .aload_n 0, 1, 0, 0), (66, .iconst (-1), 1, 0, 0), (67, .putfield 40, 3, 1, 9), (70, .aload_n 0, 1, 0, 0), (71, .sipush 1500, 3, 0, 0), (74, .putfield 44, 3, 1, 10), (77, .aload_n 0, 1, 0, 0), (78, .sipush 300, 3, 0, 0), (81, .putfield 47, 3, 1, 11), (84, .aload_n 0, 1, 0, 0), (85, .new 9, 3, 0, 0), (88, .dup, 1, 0, 0), (89, .sipush 168, 3, 0, 0), (92, .invokespecial 11, 3, 0, 1), (95, .putfield 50, 3, 1, 12), (98, .return_, 1, 0, 0)]
def zc5 : List (Nat × Instr × Nat × Nat × Nat) := [(0, .aload_n 0, 1, 0, 0), (1, .iload_n 1, 1, 0, 0), (2, .putfield 53, 3, 1, 5), (5, .aload_n 0, 1, 0, 0), (6, .iload_n 2, 1, 0, 0), (7, .putfield 56, 3, 1, 6), (10, .aload_n 0, 1, 0, 0), (11, .iload_n 3, 1, 0, 0), (12, .putfield 59, 3, 1, 7), (15, .aload_n 0, 1, 0, 0), (16, .iconst 0, 1, 0, 0), (17, .putfield 62, 3, 1, 8), (20, .iconst 0, 1, 0, 0), (21, .istore 4, 2, 0, 0), (23, .iload 4, 2, 0, 0), (25, .aload_n 0, 1, 0, 0), (26, .getfield 53, 3, 1, 5), (29, .if_icmp .ge 29, 3, 58, 0), (32, .aload_n 0, 1, 0, 0), (33, .getfield 14, 3, 1, 0), (36, .iload 4, 2, 0, 0), (38, .sipush 400, 3, 0, 0), (41, .invokevirtual 65, 3, 2, 2), (44, .aload_n 0, 1, 0, 0), (45, .iload 4, 2, 0, 0), (47, .iload 4, 2, 0, 0), (49, .invokevirtual 69, 3, 11, 2), (52, .iinc 4 1, 3, 0, 0), (55, .goto (-32), 3, 23, 0), (58, .aload_n 0, 1, 0, 0), (59, .invokevirtual 72, 3, 24, 0), (62, .aload_n 0, 1, 0, 0), (63, .getfield 29, 3, 1, 3), (66, .iconst 0, 1, 0, 0), (67, .putfield 75, 3, 5, 2), (70, .aload_n 0, 1, 0, 0), (71, .getfield 36, 3, 1, 4), (74, .invokevirtual 78, 3, 43, 0), (77, .aload_n 0, 1, 0, 0), (78, .aload_n 0, 1, 0, 0), (79, .invokevirtual 81, 3, 9, 0), (82, .iconst 1, 1, 0, 0), (83, .isub, 1, 0, 0), (84, .putfield 40, 3, 1, 9), (87, .return_, 1, 0, 0)]
def zc6 : List (Nat × Instr × Nat × Nat × Nat) := [(0, .iload_n 1, 1, 0, 0), (1, .ifCond .lt 15, 3, 16, 0), (4, .iload_n 1, 1, 0, 0), (5, .aload_n 0, 1, 0, 0), (6, .getfield 53, 3, 1, 5), (9, .if_icmp .ge 7, 3, 16, 0), (12, .iconst 1, 1, 0, 0), (13, .goto 4, 3, 17, 0), (16, .iconst 0, 1, 0, 0), (17, .ireturn, 1, 0, 0)]
def zc7 : List (Nat × Instr × Nat × Nat × Nat) := [(0, .iload_n 1, 1, 0, 0), (1, .ifCond .lt 15, 3, 16, 0), (4, .iload_n 1, 1, 0, 0), (5, .aload_n 0, 1, 0, 0), (6, .getfield 62, 3, 1, 8), (9, .if_icmp .gt 7, 3, 16, 0), (12, .iconst 1, 1, 0, 0), (13, .goto 4, 3, 17, 0), (16, .iconst 0, 1, 0, 0), (17, .ireturn, 1, 0, 0)]
def zc8 : List (Nat × Instr × Nat × Nat × Nat) := [(0, .aload_n 0, 1, 0, 0), (1, .getfield 40, 3, 1, 9), (4, .iconst (-1), 1, 0, 0), (5, .if_icmp .eq 7, 3, 12, 0), (8, .iconst 1, 1, 0, 0), (9, .goto 4, 3, 13, 0), (12, .iconst 0, 1, 0, 0), (13, .ireturn, 1, 0, 0)]
def zc9 : List (Nat × Instr × Nat × Nat × Nat) := [(0, .aload_n 0, 1, 0, 0), (1, .getfield 56, 3, 1, 6), (4, .ifCond .le 22, 3, 26, 0), (7, .aload_n 0, 1, 0, 0), (8, .getfield 53, 3, 1, 5), (11, .aload_n 0, 1, 0, 0), (12, .getfield 56, 3, 1, 6), (15, .iadd, 1, 0, 0), (16, .iconst 1, 1, 0, 0), (17, .isub, 1, 0, 0), (18, .aload_n 0, 1, 0, 0), (19, .getfield 56, 3, 1, 6), (22, .idiv, 1, 0, 0), (23, .goto 4, 3, 27, 0), (26, .iconst 0, 1, 0, 0), (27, .ireturn, 1, 0, 0)]
def zc10 : List (Nat × Instr × Nat × Nat × Nat) := [(0, .aload_n 0, 1, 0, 0), (1, .getfield 56, 3, 1, 6), (4, .ifCond .le 19, 3, 23, 0), (7, .aload_n 0, 1, 0, 0), (8, .getfield 20, 3, 1, 1), (11, .iload_n 1, 1, 0, 0), (12, .invokevirtual 85, 3, 1, 1), (15, .aload_n 0, 1, 0, 0), (16, .getfield 56, 3, 1, 6), (19, .idiv, 1, 0, 0), (20, .goto 4, 3, 24, 0), (23, .iconst 0, 1, 0, 0), (24, .ireturn, 1, 0, 0)]
def zc11 : List (Nat × Instr × Nat × Nat × Nat) := [(0, .aload_n 0, 1, 0, 0), (1, .getfield 23, 3, 1, 2), (4, .iload_n 1, 1, 0, 0), (5, .iload_n 2, 1, 0, 0), (6, .invokevirtual 65, 3, 2, 2), (9, .aload_n 0, 1, 0, 0), (10, .getfield 20, 3, 1, 1), (13, .iload_n 2, 1, 0, 0), (14, .iload_n 1, 1, 0, 0), (15, .invokevirtual 65, 3, 2, 2), (18, .return_, 1, 0, 0)]
def zc12 : List (Nat × Instr × Nat × Nat × Nat) := [(0, .aload_n 0, 1, 0, 0), (1, .invokevirtual 89, 3, 8, 0), (4, .ifCond .eq 29, 3, 33, 0), (7, .aload_n 0, 1, 0, 0), (8, .getfield 56, 3, 1, 6), (11, .iconst 1, 1, 0, 0), (12, .iadd, 1, 0, 0), (13, .aload_n 0, 1, 0, 0), (14, .getfield 53, 3, 1, 5), (17, .aload_n 0, 1, 0, 0), (18, .getfield 40, 3, 1, 9), (21, .aload_n 0, 1, 0, 0), (22, .getfield 56, 3, 1, 6), (25, .imul, 1, 0, 0), (26, .isub, 1, 0, 0), (27, .invokestatic 93, 3, 78, 2), (30, .goto 4, 3, 34, 0), (33, .iconst 0, 1, 0, 0), (34, .ireturn, 1, 0, 0)]
def zc13 : List (Nat × Instr × Nat × Nat × Nat) := [(0, .aload_n 0, 1, 0, 0), (1, .getfield 23, 3, 1, 2), (4, .aload_n 0, 1, 0, 0), (5, .getfield 40, 3, 1, 9), (8, .aload_n 0, 1, 0, 0), (9, .getfield 56, 3, 1, 6), (12, .imul, 1, 0, 0), (13, .iload_n 1, 1, 0, 0), (14, .iadd, 1, 0, 0), (15, .invokevirtual 85, 3, 1, 1), (18, .ireturn, 1, 0, 0)]
def zc14 : List (Nat × Instr × Nat × Nat × Nat) := [(0, .aload_n 0, 1, 0, 0), (1, .getfield 20, 3, 1, 1), (4, .iload_n 1, 1, 0, 0), (5, .invokevirtual 85, 3, 1, 1), (8, .aload_n 0, 1, 0, 0), (9, .getfield 40, 3, 1, 9), (12, .aload_n 0, 1, 0, 0), (13, .getfield 56, 3, 1, 6), (16, .imul, 1, 0, 0), (17, .isub, 1, 0, 0), (18, .istore_n 2, 1, 0, 0), (19, .aload_n 0, 1, 0, 0), (20, .iload_n 1, 1, 0, 0), (21, .invokevirtual 99, 3, 6, 1), (24, .ifCond .eq 19, 3, 43, 0), (27, .iload_n 2, 1, 0, 0), (28, .ifCond .lt 15, 3, 43, 0), (31, .iload_n 2, 1, 0, 0), (32, .aload_n 0, 1, 0, 0), (33, .invokevirtual 103, 3, 12, 0), (36, .if_icmp .ge 7, 3, 43, 0), (39, .iload_n 2, 1, 0, 0), (40, .goto 4, 3, 44, 0), (43, .iconst (-1), 1, 0, 0), (44, .ireturn, 1, 0, 0)]
def zc15 : List (Nat × Instr × Nat × Nat × Nat) := [(0, .aload_n 0, 1, 0, 0), (1, .iload_n 1, 1, 0, 0), (2, .invokevirtual 106, 3, 14, 1), (5, .iconst (-1), 1, 0, 0), (6, .if_icmp .eq 7, 3, 13, 0), (9, .iconst 1, 1, 0, 0), (10, .goto 4, 3, 14, 0), (13, .iconst 0, 1, 0, 0), (14, .ireturn, 1, 0, 0)]
def zc16 : List (Nat × Instr × Nat × Nat × Nat) := [(0, .aload_n 0, 1, 0, 0), (1, .iload_n 2, 1, 0, 0), (2, .invokevirtual 106, 3, 14, 1), (5, .istore 4, 2, 0, 0), (7, .aload_n 0, 1, 0, 0), (8, .iload_n 3, 1, 0, 0), (9, .invokevirtual 106, 3, 14, 1), (12, .istore 5, 2, 0, 0), (14, .iload 4, 2, 0, 0), (16, .iconst (-1), 1, 0, 0), (17, .if_icmp .eq 9, 3, 26, 0), (20, .iload 5, 2, 0, 0), (22, .iconst (-1), 1, 0, 0), (23, .if_icmp .ne 5, 3, 28, 0), (26, .iconst 2, 1, 0, 0), (27, .ireturn, 1, 0, 0), (28, .aload_n 1, 1, 0, 0), (29, .iload_n 2, 1, 0, 0), (30, .invokevirtual 109, 3, 53, 1), (33, .ifCond .ne 11, 3, 44, 0), (36, .aload_n 1, 1, 0, 0), (37, .iload_n 3, 1, 0, 0), (38, .invokevirtual 109, 3, 53, 1), (41, .ifCond .eq 5, 3, 46, 0), (44, .iconst 3, 1, 0, 0), (45, .ireturn, 1, 0, 0), (46, .iload 4, 2, 0, 0), (48, .iload 5, 2, 0, 0), (50, .if_icmp .gt 5, 3, 55, 0), (53, .iconst 4, 1, 0, 0), (54, .ireturn, 1, 0, 0), (55, .iload 5, 2, 0, 0), (57, .iconst 1, 1, 0, 0), (58, .iadd, 1, 0, 0), (59, .istore 6, 2, 0, 0), (61, .iload 6, 2, 0, 0), (63, .iload 4, 2, 0, 0), (65, .if_icmp .ge 24, 3, 89, 0), (68, .aload_n 1, 1, 0, 0), (69, .aload_n 0, 1, 0, 0), (70, .iload 6, 2, 0, 0), (72, .invokevirtual 112, 3, 13, 1), (75, .invokevirtual 109, 3, 53, 1), (78, .ifCond .ne 5, 3, 83, 0), (81, .iconst 5, 1, 0, 0), (82, .ireturn, 1, 0, 0), (83, .iinc 6 1, 3, 0, 0), (86, .goto (-25), 3, 61, 0), (89, .iconst 0, 1, 0, 0), (90, .ireturn, 1, 0, 0)]
def zc17 : List (Nat × Instr × Nat × Nat × Nat) := [(0, .aload_n 0, 1, 0, 0), (1, .getfield 20, 3, 1, 1), (4, .aload_n 0, 1, 0, 0), (5, .getfield 29, 3, 1, 3), (8, .getfield 115, 3, 5, 0), (11, .iload_n 1, 1, 0, 0), (12, .invokevirtual 85, 3, 1, 1), (15, .invokevirtual 85, 3, 1, 1), (18, .aload_n 0, 1, 0, 0), (19, .getfield 20, 3, 1, 1), (22, .aload_n 0, 1, 0, 0), (23, .getfield 29, 3, 1, 3), (26, .getfield 118, 3, 5, 1), (29, .iload_n 1, 1, 0, 0), (30, .invokevirtual 85, 3, 1, 1), (33, .invokevirtual 85, 3, 1, 1), (36, .isub, 1, 0, 0), (37, .ireturn, 1, 0, 0)]
def zc18 : List (Nat × Instr × Nat × Nat × Nat) := [(0, .iconst 1, 1, 0, 0), (1, .iload_n 1, 1, 0, 0), (2, .ishl, 1, 0, 0), (3, .istore_n 2, 1, 0, 0), (4, .iload_n 1, 1, 0, 0), (5, .iconst 1, 1, 0, 0), (6, .iadd, 1, 0, 0), (7, .istore_n 3, 1, 0, 0), (8, .iload_n 3, 1, 0, 0), (9, .aload_n 0, 1, 0, 0), (10, .getfield 29, 3, 1, 3), (13, .getfield 75, 3, 5, 2), (16, .if_icmp .ge 25, 3, 41, 0), (19, .iload_n 2, 1, 0, 0), (20, .aload_n 0, 1, 0, 0), (21, .iload_n 3, 1, 0, 0), (22, .invokevirtual 121, 3, 19, 1), (25, .iand, 1, 0, 0), (26, .ifCond .eq 9, 3, 35, 0), (29, .iload_n 2, 1, 0, 0), (30, .iconst 1, 1, 0, 0), (31, .iload_n 3, 1, 0, 0), (32, .ishl, 1, 0, 0), (33, .ior, 1, 0, 0), (34, .istore_n 2, 1, 0, 0), (35, .iinc 3 1, 3, 0, 0), (38, .goto (-30), 3, 8, 0), (41, .iload_n 2, 1, 0, 0), (42, .ireturn, 1, 0, 0)]
def zc19 : List (Nat × Instr × Nat × Nat × Nat) := [(0, .iconst 0, 1, 0, 0), (1, .istore_n 2, 1, 0, 0), (2, .iconst 0, 1, 0, 0), (3, .istore_n 3, 1, 0, 0), (4, .iload_n 3, 1, 0, 0), (5, .iload_n 1, 1, 0, 0), (6, .if_icmp .ge 53, 3, 59, 0), (9, .aload_n 0, 1, 0, 0), (10, .aload_n 0, 1, 0, 0), (11, .getfield 29, 3, 1, 3), (14, .getfield 115, 3, 5, 0), (17, .iload_n 3, 1, 0, 0), (18, .invokevirtual 85, 3, 1, 1), (21, .iload_n 1, 1, 0, 0), (22, .invokevirtual 124, 3, 20, 2), (25, .ifCond .ne 22, 3, 47, 0), (28, .aload_n 0, 1, 0, 0), (29, .aload_n 0, 1, 0, 0), (30, .getfield 29, 3, 1, 3), (33, .getfield 118, 3, 5, 1), (36, .iload_n 3, 1, 0, 0), (37, .invokevirtual 85, 3, 1, 1), (40, .iload_n 1, 1, 0, 0), (41, .invokevirtual 124, 3, 20, 2), (44, .ifCond .eq 9, 3, 53, 0), (47, .iload_n 2, 1, 0, 0), (48, .iconst 1, 1, 0, 0), (49, .iload_n 3, 1, 0, 0), (50, .ishl, 1, 0, 0), (51, .ior, 1, 0, 0), (52, .istore_n 2, 1, 0, 0), (53, .iinc 3 1, 3, 0, 0), (56, .goto (-52), 3, 4, 0), (59, .iload_n 2, 1, 0, 0), (60, .ireturn, 1, 0, 0)]
def zc20 : List (Nat × Instr × Nat × Nat × Nat) := [(0, .aload_n 0, 1, 0, 0), (1, .getfield 20, 3, 1, 1), (4, .iload_n 1, 1, 0, 0), (5, .invokevirtual 85, 3, 1, 1), (8, .istore_n 3, 1, 0, 0), (9, .iload_n 3, 1, 0, 0), (10, .aload_n 0, 1, 0, 0), (11, .getfield 20, 3, 1, 1), (14, .aload_n 0, 1, 0, 0), (15, .getfield 29, 3, 1, 3), (18, .getfield 118, 3, 5, 1), (21, .iload_n 2, 1, 0, 0), (22, .invokevirtual 85, 3, 1, 1), (25, .invokevirtual 85, 3, 1, 1), (28, .if_icmp .le 29, 3, 57, 0), (31, .iload_n 3, 1, 0, 0), (32, .aload_n 0, 1, 0, 0), (33, .getfield 20, 3, 1, 1), (36, .aload_n 0, 1, 0, 0), (37, .getfield 29, 3, 1, 3), (40, .getfield 115, 3, 5, 0), (43, .iload_n 2, 1, 0, 0), (44, .invokevirtual 85, 3, 1, 1), (47, .invokevirtual 85, 3, 1, 1), (50, .if_icmp .ge 7, 3, 57, 0), (53, .iconst 1, 1, 0, 0), (54, .goto 4, 3, 58, 0), (57, .iconst 0, 1, 0, 0), (58, .ireturn, 1, 0, 0)]
def zc21 : List (Nat × Instr × Nat × Nat × Nat) := [(0, .aload_n 0, 1, 0, 0), (1, .getfield 29, 3, 1, 3), (4, .getfield 75, 3, 5, 2), (7, .istore_n 1, 1, 0, 0), (8, .iconst 0, 1, 0, 0), (9, .istore_n 2, 1, 0, 0), (10, .iload_n 2, 1, 0, 0), (11, .iload_n 1, 1, 0, 0), (12, .if_icmp .ge 62, 3, 74, 0), (15, .aload_n 0, 1, 0, 0), (16, .getfield 29, 3, 1, 3), (19, .getfield 115, 3, 5, 0), (22, .iload_n 2, 1, 0, 0), (23, .invokevirtual 85, 3, 1, 1), (26, .istore_n 3, 1, 0, 0), (27, .aload_n 0, 1, 0, 0), (28, .getfield 29, 3, 1, 3), (31, .getfield 118, 3, 5, 1), (34, .iload_n 2, 1, 0, 0), (35, .invokevirtual 85, 3, 1, 1), (38, .istore 4, 2, 0, 0), (40, .aload_n 0, 1, 0, 0), (41, .getfield 36, 3, 1, 4), (44, .aload_n 0, 1, 0, 0), (45, .getfield 62, 3, 1, 8), (48, .iconst 1, 1, 0, 0), (49, .iadd, 1, 0, 0), (50, .iload_n 3, 1, 0, 0), (51, .iload 4, 2, 0, 0), (53, .aload_n 0, 1, 0, 0), (54, .iload_n 2, 1, 0, 0), (55, .invokevirtual 128, 3, 17, 1), (58, .invokevirtual 131, 3, 44, 4), (61, .aload_n 0, 1, 0, 0), (62, .iload_n 3, 1, 0, 0), (63, .iload 4, 2, 0, 0), (65, .invokevirtual 135, 3, 22, 2), (68, .iinc 2 1, 3, 0, 0), (71, .goto (-61), 3, 10, 0), (74, .aload_n 0, 1, 0, 0), (75, .getfield 29, 3, 1, 3), (78, .iconst 0, 1, 0, 0), (79, .putfield 75, 3, 5, 2), (82, .aload_n 0, 1, 0, 0), (83, .getfield 40, 3, 1, 9), (86, .ifCond .le 16, 3, 102, 0), (89, .aload_n 0, 1, 0, 0), (90, .dup, 1, 0, 0), (91, .getfield 40, 3, 1, 9), (94, .iconst 1, 1, 0, 0), (95, .isub, 1, 0, 0), (96, .putfield 40, 3, 1, 9), (99, .goto 7, 3, 106, 0), (102, .aload_n 0, 1, 0, 0), (103, .invokevirtual 138, 3, 23, 0), (106, .iload_n 1, 1, 0, 0), (107, .ireturn, 1, 0, 0)]
def zc22 : List (Nat × Instr × Nat × Nat × Nat) := [(0, .aload_n 0, 1, 0, 0), (1, .getfield 20, 3, 1, 1), (4, .iload_n 1, 1, 0, 0), (5, .invokevirtual 85, 3, 1, 1), (8, .istore_n 3, 1, 0, 0), (9, .aload_n 0, 1, 0, 0), (10, .getfield 20, 3, 1, 1), (13, .iload_n 2, 1, 0, 0), (14, .invokevirtual 85, 3, 1, 1), (17, .istore 4, 2, 0, 0), (19, .aload_n 0, 1, 0, 0), (20, .iload 4, 2, 0, 0), (22, .iload_n 1, 1, 0, 0), (23, .invokevirtual 69, 3, 11, 2), (26, .aload_n 0, 1, 0, 0), (27, .iload_n 3, 1, 0, 0), (28, .iload_n 2, 1, 0, 0), (29, .invokevirtual 69, 3, 11, 2), (32, .return_, 1, 0, 0)]
def zc23 : List (Nat × Instr × Nat × Nat × Nat) := [(0, .aload_n 0, 1, 0, 0), (1, .dup, 1, 0, 0), (2, .getfield 62, 3, 1, 8), (5, .iconst 1, 1, 0, 0), (6, .iadd, 1, 0, 0), (7, .putfield 62, 3, 1, 8), (10, .aload_n 0, 1, 0, 0), (11, .invokevirtual 72, 3, 24, 0), (14, .aload_n 0, 1, 0, 0), (15, .aload_n 0, 1, 0, 0), (16, .getfield 62, 3, 1, 8), (19, .aload_n 0, 1, 0, 0), (20, .getfield 59, 3, 1, 7), (23, .if_icmp .ge 12, 3, 35, 0), (26, .aload_n 0, 1, 0, 0), (27, .invokevirtual 81, 3, 9, 0), (30, .iconst 1, 1, 0, 0), (31, .isub, 1, 0, 0), (32, .goto 4, 3, 36, 0), (35, .iconst (-1), 1, 0, 0), (36, .putfield 40, 3, 1, 9), (39, .return_, 1, 0, 0)]
def zc24 : List (Nat × Instr × Nat × Nat × Nat) := [(0, .iconst 0, 1, 0, 0), (1, .istore_n 1, 1, 0, 0), (2, .iload_n 1, 1, 0, 0), (3, .aload_n 0, 1, 0, 0), (4, .getfield 53, 3, 1, 5), (7, .if_icmp .ge 33, 3, 40, 0), (10, .aload_n 0, 1, 0, 0), (11, .getfield 50, 3, 1, 12), (14, .aload_n 0, 1, 0, 0), (15, .getfield 62, 3, 1, 8), (18, .bipush 24, 2, 0, 0), (20, .imul, 1, 0, 0), (21, .iload_n 1, 1, 0, 0), (22, .iadd, 1, 0, 0), (23, .aload_n 0, 1, 0, 0), (24, .getfield 20, 3, 1, 1), (27, .iload_n 1, 1, 0, 0), (28, .invokevirtual 85, 3, 1, 1), (31, .invokevirtual 65, 3, 2, 2), (34, .iinc 1 1, 3, 0, 0), (37, .goto (-35), 3, 2, 0), (40, .return_, 1, 0, 0)]
def zc25 : List (Nat × Instr × Nat × Nat × Nat) := [(0, .aload_n 0, 1, 0, 0), (1, .getfield 50, 3, 1, 12), (4, .iload_n 2, 1, 0, 0), (5, .bipush 24, 2, 0, 0), (7, .imul, 1, 0, 0), (8, .iload_n 1, 1, 0, 0), (9, .iadd, 1, 0, 0), (10, .invokevirtual 85, 3, 1, 1), (13, .ireturn, 1, 0, 0)]
def zc26 : List (Nat × Instr × Nat × Nat × Nat) := [(0, .iconst 0, 1, 0, 0), (1, .istore_n 2, 1, 0, 0), (2, .iconst 1, 1, 0, 0), (3, .istore_n 3, 1, 0, 0), (4, .iload_n 3, 1, 0, 0), (5, .aload_n 0, 1, 0, 0), (6, .getfield 62, 3, 1, 8), (9, .if_icmp .gt 34, 3, 43, 0), (12, .iload_n 2, 1, 0, 0), (13, .aload_n 0, 1, 0, 0), (14, .iload_n 1, 1, 0, 0), (15, .iload_n 3, 1, 0, 0), (16, .invokevirtual 141, 3, 25, 2), (19, .aload_n 0, 1, 0, 0), (20, .iload_n 1, 1, 0, 0), (21, .iload_n 3, 1, 0, 0), (22, .iconst 1, 1, 0, 0), (23, .isub, 1, 0, 0), (24, .invokevirtual 141, 3, 25, 2), (27, .if_icmp .ge 7, 3, 34, 0), (30, .iconst 1, 1, 0, 0), (31, .goto 4, 3, 35, 0), (34, .iconst 0, 1, 0, 0), (35, .iadd, 1, 0, 0), (36, .istore_n 2, 1, 0, 0), (37, .iinc 3 1, 3, 0, 0), (40, .goto (-36), 3, 4, 0), (43, .iload_n 2, 1, 0, 0), (44, .ireturn, 1, 0, 0)]
def zc27 : List (Nat × Instr × Nat × Nat × Nat) := [(0, .iconst 0, 1, 0, 0), (1, .istore_n 2, 1, 0, 0), (2, .iconst 1, 1, 0, 0), (3, .istore_n 3, 1, 0, 0), (4, .iload_n 3, 1, 0, 0), (5, .aload_n 0, 1, 0, 0), (6, .getfield 62, 3, 1, 8), (9, .if_icmp .gt 34, 3, 43, 0), (12, .iload_n 2, 1, 0, 0), (13, .aload_n 0, 1, 0, 0), (14, .iload_n 1, 1, 0, 0), (15, .iload_n 3, 1, 0, 0), (16, .invokevirtual 141, 3, 25, 2), (19, .aload_n 0, 1, 0, 0), (20, .iload_n 1, 1, 0, 0), (21, .iload_n 3, 1, 0, 0), (22, .iconst 1, 1, 0, 0), (23, .isub, 1, 0, 0), (24, .invokevirtual 141, 3, 25, 2), (27, .if_icmp .le 7, 3, 34, 0), (30, .iconst 1, 1, 0, 0), (31, .goto 4, 3, 35, 0), (34, .iconst 0, 1, 0, 0), (35, .iadd, 1, 0, 0), (36, .istore_n 2, 1, 0, 0), (37, .iinc 3 1, 3, 0, 0), (40, .goto (-36), 3, 4, 0), (43, .iload_n 2, 1, 0, 0), (44, .ireturn, 1, 0, 0)]
def zc28 : List (Nat × Instr × Nat × Nat × Nat) := [(0, .aload_n 0, 1, 0, 0), (1, .getfield 62, 3, 1, 8), (4, .ifCond .ne 5, 3, 9, 0), (7, .iconst 0, 1, 0, 0), (8, .ireturn, 1, 0, 0), (9, .aload_n 0, 1, 0, 0), (10, .iload_n 1, 1, 0, 0), (11, .invokevirtual 144, 3, 26, 1), (14, .aload_n 0, 1, 0, 0), (15, .getfield 62, 3, 1, 8), (18, .if_icmp .ne 5, 3, 23, 0), (21, .iconst 1, 1, 0, 0), (22, .ireturn, 1, 0, 0), (23, .aload_n 0, 1, 0, 0), (24, .iload_n 1, 1, 0, 0), (25, .invokevirtual 147, 3, 27, 1), (28, .aload_n 0, 1, 0, 0), (29, .getfield 62, 3, 1, 8), (32, .if_icmp .ne 7, 3, 39, 0), (35, .iconst 2, 1, 0, 0), (36, .goto 4, 3, 40, 0), (39, .iconst 0, 1, 0, 0), (40, .ireturn, 1, 0, 0)]
def zc29 : List (Nat × Instr × Nat × Nat × Nat) := [(0, .iconst (-1), 1, 0, 0), (1, .istore_n 1, 1, 0, 0), (2, .iconst 0, 1, 0, 0), (3, .istore_n 2, 1, 0, 0), (4, .iconst 0, 1, 0, 0), (5, .istore_n 3, 1, 0, 0), (6, .iload_n 3, 1, 0, 0), (7, .aload_n 0, 1, 0, 0), (8, .getfield 53, 3, 1, 5), (11, .if_icmp .ge 56, 3, 67, 0), (14, .aload_n 0, 1, 0, 0), (15, .getfield 23, 3, 1, 2), (18, .iload_n 3, 1, 0, 0), (19, .invokevirtual 85, 3, 1, 1), (22, .istore 4, 2, 0, 0), (24, .aload_n 0, 1, 0, 0), (25, .iload 4, 2, 0, 0), (27, .iconst 0, 1, 0, 0), (28, .invokevirtual 141, 3, 25, 2), (31, .aload_n 0, 1, 0, 0), (32, .iload 4, 2, 0, 0), (34, .aload_n 0, 1, 0, 0), (35, .getfield 62, 3, 1, 8), (38, .invokevirtual 141, 3, 25, 2), (41, .isub, 1, 0, 0), (42, .istore 5, 2, 0, 0), (44, .iload_n 1, 1, 0, 0), (45, .iconst (-1), 1, 0, 0), (46, .if_icmp .eq 9, 3, 55, 0), (49, .iload 5, 2, 0, 0), (51, .iload_n 2, 1, 0, 0), (52, .if_icmp .le 9, 3, 61, 0), (55, .iload 4, 2, 0, 0), (57, .istore_n 1, 1, 0, 0), (58, .iload 5, 2, 0, 0), (60, .istore_n 2, 1, 0, 0), (61, .iinc 3 1, 3, 0, 0), (64, .goto (-58), 3, 6, 0), (67, .iload_n 1, 1, 0, 0), (68, .ireturn, 1, 0, 0)]
def zc30 : List (Nat × Instr × Nat × Nat × Nat) := [(0, .aload_n 0, 1, 0, 0), (1, .getfield 14, 3, 1, 0), (4, .aload_n 1, 1, 0, 0), (5, .getfield 14, 3, 1, 0), (8, .invokevirtual 150, 3, 3, 1), (11, .aload_n 0, 1, 0, 0), (12, .getfield 20, 3, 1, 1), (15, .aload_n 1, 1, 0, 0), (16, .getfield 20, 3, 1, 1), (19, .invokevirtual 150, 3, 3, 1), (22, .aload_n 0, 1, 0, 0), (23, .getfield 23, 3, 1, 2), (26, .aload_n 1, 1, 0, 0), (27, .getfield 23, 3, 1, 2), (30, .invokevirtual 150, 3, 3, 1), (33, .aload_n 0, 1, 0, 0), (34, .getfield 29, 3, 1, 3), (37, .aload_n 1, 1, 0, 0), (38, .getfield 29, 3, 1, 3), (41, .invokevirtual 154, 3, 55, 1), (44, .aload_n 0, 1, 0, 0), (45, .getfield 36, 3, 1, 4), (48, .aload_n 1, 1, 0, 0), (49, .getfield 36, 3, 1, 4), (52, .invokevirtual 157, 3, 49, 1), (55, .aload_n 0, 1, 0, 0), (56, .getfield 50, 3, 1, 12), (59, .aload_n 1, 1, 0, 0), (60, .getfield 50, 3, 1, 12), (63, .invokevirtual 150, 3, 3, 1), (66, .aload_n 0, 1, 0, 0), (67, .aload_n 1, 1, 0, 0), (68, .getfield 53, 3, 1, 5), (71, .putfield 53, 3, 1, 5), (74, .aload_n 0, 1, 0, 0), (75, .aload_n 1, 1, 0, 0), (76, .getfield 56, 3, 1, 6), (79, .putfield 56, 3, 1, 6), (82, .aload_n 0, 1, 0, 0), (83, .aload_n 1, 1, 0, 0), (84, .getfield 59, 3, 1, 7), (87, .putfield 59, 3, 1, 7), (90, .aload_n 0, 1, 0, 0), (91, .aload_n 1, 1, 0, 0), (92, .getfield 62, 3, 1, 8), (95, .putfield 62, 3, 1, 8), (98, .aload_n 0, 1, 0, 0), (99, .aload_n 1, 1, 0, 0), (100, .getfield 40, 3, 1, 9), (103, .putfield 40, 3, 1, 9), (106, .aload_n 0, 1, 0, 0), (107, .aload_n 1, 1, 0, 0), (108, .getfield 44, 3, 1, 10), (111, .putfield 44, 3, 1, 10), (114, .aload_n 0, 1, 0, 0), (115, .aload_n 1, 1, 0, 0), (116, .getfield 47, 3, 1, 11), (119, .putfield 47, 3, 1, 11), (122, .return_, 1, 0, 0)]
def zc31 : List (Nat × Instr × Nat × Nat × Nat) := [(0, .aload_n 0, 1, 0, 0), (1, .invokespecial 3, 3, 1002, 0), (4, .aload_n 0, 1, 0, 0), (5, .new 9, 3, 0, 0), (8, .dup, 1, 0, 0), (9, .iconst 4, 1, 0, 0), (10, .invokespecial 11, 3, 0, 1), (13, .putfield 14, 3, 2, 0), (16, .aload_n 0, 1, 0, 0), (17, .new 9, 3, 0, 0), (20, .dup, 1, 0, 0), (21, .iconst 4, 1, 0, 0), (22, .invokespecial 11, 3, 0, 1), (25, .putfield 20, 3, 2, 1), (28, .aload_n 0, 1, 0, 0), (29, .iconst 4, 1, 0, 0), (30, .newarray .double, 2, 0, 0), (32, .putfield 23, 3, 2, 3), (35, .aload_n 0, 1, 0, 0), (36, .new 9, 3, 0, 0), (39, .dup, 1, 0, 0), (40, .bipush 9, 2, 0, 0), (42, .invokespecial 11, 3, 0, 1), (45, .putfield 27, 3, 2, 4), (48, .aload_n 0, 1, 0, 0), (49, .new 9, 3, 0, 0), (52, .dup, 1, 0, 0), (53, .bipush 9, 2, 0, 0), (55, .invokespecial 11, 3, 0, 1), (58, .putfield 30, 3, 2, 5), (61, .return_, 1, 0, 0)]
def zc32 : List (Nat × Instr × Nat × Nat × Nat) := [(0, .aload_n 0, 1, 0, 0), (1, .aload_n 1, 1, 0, 0), (2, .iconst (-1), 1, 0, 0), (3, .iconst 0, 1, 0, 0), (4, .invokevirtual 33, 3, 33, 3), (7, .return_, 1, 0, 0)]
def zc33 : List (Nat × Instr × Nat × Nat × Nat) := [(0, .aload_n 0, 1, 0, 0), (1, .aload_n 1, 1, 0, 0), (2, .invokevirtual 37, 3, 12, 0), (5, .putfield 43, 3, 2, 6), (8, .iconst 0, 1, 0, 0), (9, .istore 4, 2, 0, 0), (11, .iload 4, 2, 0, 0), (13, .aload_n 0, 1, 0, 0), (14, .getfield 43, 3, 2, 6), (17, .if_icmp .ge 55, 3, 72, 0), (20, .aload_n 1, 1, 0, 0), (21, .iload 4, 2, 0, 0), (23, .invokevirtual 46, 3, 13, 1), (26, .istore 5, 2, 0, 0), (28, .aload_n 0, 1, 0, 0), (29, .getfield 27, 3, 2, 4), (32, .iload 4, 2, 0, 0), (34, .iload 5, 2, 0, 0), (36, .iload_n 2, 1, 0, 0), (37, .if_icmp .ne 7, 3, 44, 0), (40, .iload_n 3, 1, 0, 0), (41, .goto 12, 3, 53, 0), (44, .aload_n 1, 1, 0, 0), (45, .getfield 50, 3, 1, 0), (48, .iload 5, 2, 0, 0), (50, .invokevirtual 51, 3, 1, 1), (53, .invokevirtual 54, 3, 2, 2), (56, .aload_n 0, 1, 0, 0), (57, .getfield 30, 3, 2, 5), (60, .iload 4, 2, 0, 0), (62, .iconst 0, 1, 0, 0), (63, .invokevirtual 54, 3, 2, 2), (66, .iinc 4 1, 3, 0, 0), (69, .goto (-58), 3, 11, 0), (72, .aload_n 0, 1, 0, 0), (73, .iconst 0, 1, 0, 0), (74, .putfield 58, 3, 2, 2), (77, .iconst 1, 1, 0, 0), (78, .istore 4, 2, 0, 0), (80, .iconst 0, 1, 0, 0), (81, .istore 5, 2, 0, 0), (83, .iload 5, 2, 0, 0), (85, .iconst 4, 1, 0, 0), (86, .if_icmp .ge 29, 3, 115, 0), (89, .iload 4, 2, 0, 0), (91, .ifCond .eq 24, 3, 115, 0), (94, .aload_n 0, 1, 0, 0), (95, .aload_n 1, 1, 0, 0), (96, .getfield 61, 3, 1, 10), (99, .aload_n 1, 1, 0, 0), (100, .getfield 64, 3, 1, 11), (103, .i2d, 1, 0, 0), (104, .invokevirtual 67, 3, 34, 2), (107, .istore 4, 2, 0, 0), (109, .iinc 5 1, 3, 0, 0), (112, .goto (-29), 3, 83, 0), (115, .return_, 1, 0, 0)]
def zc34 : List (Nat × Instr × Nat × Nat × Nat) := [(0, .iconst (-1), 1, 0, 0), (1, .istore 4, 2, 0, 0), (3, .iconst (-1), 1, 0, 0), (4, .istore 5, 2, 0, 0), (6, .dload_n 2, 1, 0, 0), (7, .dstore 6, 2, 0, 0), (9, .iconst (-1), 1, 0, 0), (10, .istore 8, 2, 0, 0), (12, .iconst 0, 1, 0, 0), (13, .istore 9, 2, 0, 0), (15, .iload 9, 2, 0, 0), (17, .aload_n 0, 1, 0, 0), (18, .getfield 43, 3, 2, 6), (21, .if_icmp .ge 112, 3, 133, 0), (24, .aload_n 0, 1, 0, 0), (25, .getfield 30, 3, 2, 5), (28, .iload 9, 2, 0, 0), (30, .invokevirtual 51, 3, 1, 1), (33, .ifCond .eq 6, 3, 39, 0), (36, .goto 91, 3, 127, 0), (39, .iload 8, 2, 0, 0), (41, .iconst (-1), 1, 0, 0), (42, .if_icmp .ne 7, 3, 49, 0), (45, .iconst 0, 1, 0, 0), (46, .goto 22, 3, 68, 0), (49, .aload_n 0, 1, 0, 0), (50, .getfield 27, 3, 2, 4), (53, .iload 9, 2, 0, 0), (55, .invokevirtual 51, 3, 1, 1), (58, .aload_n 0, 1, 0, 0), (59, .getfield 27, 3, 2, 4), (62, .iload 8, 2, 0, 0), (64, .invokevirtual 51, 3, 1, 1), (67, .isub, 1, 0, 0), (68, .istore 10, 2, 0, 0), (70, .iload 10, 2, 0, 0), (72, .ifCond .le 51, 3, 123, 0), (75, .iload 9, 2, 0, 0), (77, .iload 8, 2, 0, 0), (79, .isub, 1, 0, 0), (80, .iload_n 1, 1, 0, 0), (81, .imul, 1, 0, 0), (82, .i2d, 1, 0, 0), (83, .iload 10, 2, 0, 0), (85, .i2d, 1, 0, 0), (86, .ddiv, 1, 0, 0), (87, .dstore 11, 2, 0, 0), (89, .dload 11, 2, 0, 0), (91, .dload 6, 2, 0, 0), (93, .dcmp .g, 1, 0, 0), (94, .ifCond .lt 17, 3, 111, 0), (97, .iload 4, 2, 0, 0), (99, .iconst (-1), 1, 0, 0), (100, .if_icmp .ne 23, 3, 123, 0), (103, .dload 11, 2, 0, 0), (105, .dload 6, 2, 0, 0), (107, .dcmp .l, 1, 0, 0), (108, .ifCond .ne 15, 3, 123, 0), (111, .iload 9, 2, 0, 0), (113, .istore 4, 2, 0, 0), (115, .iload 8, 2, 0, 0), (117, .istore 5, 2, 0, 0), (119, .dload 11, 2, 0, 0), (121, .dstore 6, 2, 0, 0), (123, .iload 9, 2, 0, 0), (125, .istore 8, 2, 0, 0), (127, .iinc 9 1, 3, 0, 0), (130, .goto (-115), 3, 15, 0), (133, .iload 4, 2, 0, 0), (135, .iconst (-1), 1, 0, 0), (136, .if_icmp .ne 5, 3, 141, 0), (139, .iconst 0, 1, 0, 0), (140, .ireturn, 1, 0, 0), (141, .aload_n 0, 1, 0, 0), (142, .iload 4, 2, 0, 0), (144, .iload 5, 2, 0, 0), (146, .dload 6, 2, 0, 0), (148, .invokevirtual 71, 3, 35, 3), (151, .iconst 1, 1, 0, 0), (152, .ireturn, 1, 0, 0)]
def zc35 : List (Nat × Instr × Nat × Nat × Nat) := [(0, .aload_n 0, 1, 0, 0), (1, .getfield 58, 3, 2, 2), (4, .ifCond .lt 59, 3, 63, 0), (7, .aload_n 0, 1, 0, 0), (8, .getfield 58, 3, 2, 2), (11, .aload_n 0, 1, 0, 0), (12, .getfield 23, 3, 2, 3), (15, .arraylength, 1, 0, 0), (16, .if_icmp .ge 47, 3, 63, 0), (19, .aload_n 0, 1, 0, 0), (20, .getfield 14, 3, 2, 0), (23, .aload_n 0, 1, 0, 0), (24, .getfield 58, 3, 2, 2), (27, .iload_n 1, 1, 0, 0), (28, .invokevirtual 54, 3, 2, 2), (31, .aload_n 0, 1, 0, 0), (32, .getfield 20, 3, 2, 1), (35, .aload_n 0, 1, 0, 0), (36, .getfield 58, 3, 2, 2), (39, .iload_n 2, 1, 0, 0), (40, .invokevirtual 54, 3, 2, 2), (43, .aload_n 0, 1, 0, 0), (44, .getfield 23, 3, 2, 3), (47, .aload_n 0, 1, 0, 0), (48, .getfield 58, 3, 2, 2), (51, .dload_n 3, 1, 0, 0), (52, .dastore, 1, 0, 0), (53, .aload_n 0, 1, 0, 0), (54, .dup, 1, 0, 0), (55, .getfield 58, 3, 2, 2), (58, .iconst 1, 1, 0, 0), (59, .iadd, 1, 0, 0), (60, .putfield 58, 3, 2, 2), (63, .aload_n 0, 1, 0, 0), (64, .getfield 30, 3, 2, 5), (67, .iload_n 1, 1, 0, 0), (68, .iconst 1, 1, 0, 0), (69, .invokevirtual 54, 3, 2, 2), (72, .aload_n 0, 1, 0, 0), (73, .getfield 30, 3, 2, 5), (76, .iload_n 2, 1, 0, 0), (77, .iconst 1, 1, 0, 0), (78, .invokevirtual 54, 3, 2, 2), (81, .return_, 1, 0, 0)]
def zc36 : List (Nat × Instr × Nat × Nat × Nat) := [(0, .iload_n 1, 1, 0, 0), (1, .ifCond .lt 21, 3, 22, 0), (4, .iload_n 1, 1, 0, 0), (5, .aload_n 0, 1, 0, 0), (6, .getfield 23, 3, 2, 3), (9, .arraylength, 1, 0, 0), (10, .if_icmp .ge 12, 3, 22, 0), (13, .aload_n 0, 1, 0, 0), (14, .getfield 23, 3, 2, 3), (17, .iload_n 1, 1, 0, 0), (18, .daload, 1, 0, 0), (19, .goto 4, 3, 23, 0), (22, .dconst 0, 1, 0, 0), (23, .dreturn, 1, 0, 0)]
def zc37 : List (Nat × Instr × Nat × Nat × Nat) := [(0, .aload_n 0, 1, 0, 0), (1, .invokespecial 3, 3, 1002, 0), (4, .aload_n 0, 1, 0, 0), (5, .iconst 4, 1, 0, 0), (6, .anewarray 9, 3, 1, 0), (9, .putfield 11, 3, 3, 0), (12, .iconst 0, 1, 0, 0), (13, .istore_n 1, 1, 0, 0), (14, .iload_n 1, 1, 0, 0), (15, .aload_n 0, 1, 0, 0), (16, .getfield 11, 3, 3, 0), (19, .arraylength, 1, 0, 0), (20, .if_icmp .ge 22, 3, 42, 0), (23, .aload_n 0, 1, 0, 0), (24, .getfield 11, 3, 3, 0), (27, .iload_n 1, 1, 0, 0), (28, .new 9, 3, 1, 0), (31, .dup, 1, 0, 0), (32, .invokespecial 17, 3, 4, 0), (35, .aastore, 1, 0, 0), (36, .iinc 1 1, 3, 0, 0), (39, .goto (-25), 3, 14, 0), (42, .return_, 1, 0, 0)]
def zc38 : List (Nat × Instr × Nat × Nat × Nat) := [(0, .aload_n 0, 1, 0, 0), (1, .getfield 18, 3, 3, 1), (4, .aload_n 0, 1, 0, 0), (5, .getfield 11, 3, 3, 0), (8, .arraylength, 1, 0, 0), (9, .if_icmp .ge 16, 3, 25, 0), (12, .aload_n 0, 1, 0, 0), (13, .dup, 1, 0, 0), (14, .getfield 18, 3, 3, 1), (17, .iconst 1, 1, 0, 0), (18, .iadd, 1, 0, 0), (19, .putfield 18, 3, 3, 1), (22, .goto 7, 3, 29, 0), (25, .aload_n 0, 1, 0, 0), (26, .invokevirtual 22, 3, 39, 0), (29, .aload_n 0, 1, 0, 0), (30, .invokevirtual 25, 3, 40, 0), (33, .astore_n 2, 1, 0, 0), (34, .aload_n 2, 1, 0, 0), (35, .ifnull 8, 3, 43, 0), (38, .aload_n 2, 1, 0, 0), (39, .aload_n 1, 1, 0, 0), (40, .invokevirtual 29, 3, 30, 1), (43, .return_, 1, 0, 0)]
def zc39 : List (Nat × Instr × Nat × Nat × Nat) := [(0, .iconst 1, 1, 0, 0), (1, .istore_n 1, 1, 0, 0), (2, .iload_n 1, 1, 0, 0), (3, .aload_n 0, 1, 0, 0), (4, .getfield 11, 3, 3, 0), (7, .arraylength, 1, 0, 0), (8, .if_icmp .ge 39, 3, 47, 0), (11, .aload_n 0, 1, 0, 0), (12, .getfield 11, 3, 3, 0), (15, .iload_n 1, 1, 0, 0), (16, .iconst 1, 1, 0, 0), (17, .isub, 1, 0, 0), (18, .aaload, 1, 0, 0), (19, .astore_n 2, 1, 0, 0), (20, .aload_n 0, 1, 0, 0), (21, .getfield 11, 3, 3, 0), (24, .iload_n 1, 1, 0, 0), (25, .iconst 1, 1, 0, 0), (26, .isub, 1, 0, 0), (27, .aload_n 0, 1, 0, 0), (28, .getfield 11, 3, 3, 0), (31, .iload_n 1, 1, 0, 0), (32, .aaload, 1, 0, 0), (33, .aastore, 1, 0, 0), (34, .aload_n 0, 1, 0, 0), (35, .getfield 11, 3, 3, 0), (38, .iload_n 1, 1, 0, 0), (39, .aload_n 2, 1, 0, 0), (40, .aastore, 1, 0, 0), (41, .iinc 1 1, 3, 0, 0), (44, .goto (-42), 3, 2, 0), (47, .return_, 1, 0, 0)]
def zc40 : List (Nat × Instr × Nat × Nat × Nat) := [(0, .aload_n 0, 1, 0, 0), (1, .getfield 18, 3, 3, 1), (4, .ifCond .le 29, 3, 33, 0), (7, .aload_n 0, 1, 0, 0), (8, .getfield 18, 3, 3, 1), (11, .aload_n 0, 1, 0, 0), (12, .getfield 11, 3, 3, 0), (15, .arraylength, 1, 0, 0), (16, .if_icmp .gt 17, 3, 33, 0), (19, .aload_n 0, 1, 0, 0), (20, .getfield 11, 3, 3, 0), (23, .aload_n 0, 1, 0, 0), (24, .getfield 18, 3, 3, 1), (27, .iconst 1, 1, 0, 0), (28, .isub, 1, 0, 0), (29, .aaload, 1, 0, 0), (30, .goto 4, 3, 34, 0), (33, .aconst_null, 1, 0, 0), (34, .areturn, 1, 0, 0)]
def zc41 : List (Nat × Instr × Nat × Nat × Nat) := [(0, .aload_n 0, 1, 0, 0), (1, .getfield 18, 3, 3, 1), (4, .ifCond .le 13, 3, 17, 0), (7, .aload_n 0, 1, 0, 0), (8, .dup, 1, 0, 0), (9, .getfield 18, 3, 3, 1), (12, .iconst 1, 1, 0, 0), (13, .isub, 1, 0, 0), (14, .putfield 18, 3, 3, 1), (17, .return_, 1, 0, 0)]
def zc42 : List (Nat × Instr × Nat × Nat × Nat) := [(0, .aload_n 0, 1, 0, 0), (1, .invokespecial 3, 3, 1002, 0), (4, .aload_n 0, 1, 0, 0), (5, .new 9, 3, 0, 0), (8, .dup, 1, 0, 0), (9, .bipush 96, 2, 0, 0), (11, .invokespecial 11, 3, 0, 1), (14, .putfield 14, 3, 4, 0), (17, .aload_n 0, 1, 0, 0), (18, .new 9, 3, 0, 0), (21, .dup, 1, 0, 0), (22, .bipush 96, 2, 0, 0), (24, .invokespecial 11, 3, 0, 1), (27, .putfield 20, 3, 4, 1), (30, .aload_n 0, 1, 0, 0), (31, .new 9, 3, 0, 0), (34, .dup, 1, 0, 0), (35, .bipush 96, 2, 0, 0), (37, .invokespecial 11, 3, 0, 1), (40, .putfield 23, 3, 4, 2), (43, .aload_n 0, 1, 0, 0), (44, .new 9, 3, 0, 0), (47, .dup, 1, 0, 0), (48, .bipush 96, 2, 0, 0), (50, .invokespecial 11, 3, 0, 1), (53, .putfield 26, 3, 4, 3), (56, .return_, 1, 0, 0)]
def zc43 : List (Nat × Instr × Nat × Nat × Nat) := [(0, .aload_n 0, 1, 0, 0), (1, .iconst 0, 1, 0, 0), (2, .putfield 29, 3, 4, 4), (5, .return_, 1, 0, 0)]
def zc44 : List (Nat × Instr × Nat × Nat × Nat) := [(0, .aload_n 0, 1, 0, 0), (1, .getfield 29, 3, 4, 4), (4, .bipush 96, 2, 0, 0), (6, .if_icmp .ge 62, 3, 68, 0), (9, .aload_n 0, 1, 0, 0), (10, .getfield 14, 3, 4, 0), (13, .aload_n 0, 1, 0, 0), (14, .getfield 29, 3, 4, 4), (17, .iload_n 1, 1, 0, 0), (18, .invokevirtual 33, 3, 2, 2), (21, .aload_n 0, 1, 0, 0), (22, .getfield 20, 3, 4, 1), (25, .aload_n 0, 1, 0, 0), (26, .getfield 29, 3, 4, 4), (29, .iload_n 2, 1, 0, 0), (30, .invokevirtual 33, 3, 2, 2), (33, .aload_n 0, 1, 0, 0), (34, .getfield 23, 3, 4, 2), (37, .aload_n 0, 1, 0, 0), (38, .getfield 29, 3, 4, 4), (41, .iload_n 3, 1, 0, 0), (42, .invokevirtual 33, 3, 2, 2), (45, .aload_n 0, 1, 0, 0), (46, .getfield 26, 3, 4, 3), (49, .aload_n 0, 1, 0, 0), (50, .getfield 29, 3, 4, 4), (53, .iload 4, 2, 0, 0), (55, .invokevirtual 33, 3, 2, 2), (58, .aload_n 0, 1, 0, 0), (59, .dup, 1, 0, 0), (60, .getfield 29, 3, 4, 4), (63, .iconst 1, 1, 0, 0), (64, .iadd, 1, 0, 0), (65, .putfield 29, 3, 4, 4), (68, .return_, 1, 0, 0)]
def zc45 : List (Nat × Instr × Nat × Nat × Nat) := [(0, .aload_n 0, 1, 0, 0), (1, .aload_n 0, 1, 0, 0), (2, .getfield 20, 3, 4, 1), (5, .iload_n 1, 1, 0, 0), (6, .invokevirtual 37, 3, 47, 2), (9, .ireturn, 1, 0, 0)]
def zc46 : List (Nat × Instr × Nat × Nat × Nat) := [(0, .aload_n 0, 1, 0, 0), (1, .aload_n 0, 1, 0, 0), (2, .getfield 23, 3, 4, 2), (5, .iload_n 1, 1, 0, 0), (6, .invokevirtual 37, 3, 47, 2), (9, .ireturn, 1, 0, 0)]
def zc47 : List (Nat × Instr × Nat × Nat × Nat) := [(0, .iconst 0, 1, 0, 0), (1, .istore_n 3, 1, 0, 0), (2, .iconst 0, 1, 0, 0), (3, .istore 4, 2, 0, 0), (5, .iload 4, 2, 0, 0), (7, .aload_n 0, 1, 0, 0), (8, .getfield 29, 3, 4, 4), (11, .if_icmp .ge 27, 3, 38, 0), (14, .iload_n 3, 1, 0, 0), (15, .aload_n 1, 1, 0, 0), (16, .iload 4, 2, 0, 0), (18, .invokevirtual 41, 3, 1, 1), (21, .iload_n 2, 1, 0, 0), (22, .if_icmp .ne 7, 3, 29, 0), (25, .iconst 1, 1, 0, 0), (26, .goto 4, 3, 30, 0), (29, .iconst 0, 1, 0, 0), (30, .iadd, 1, 0, 0), (31, .istore_n 3, 1, 0, 0), (32, .iinc 4 1, 3, 0, 0), (35, .goto (-30), 3, 5, 0), (38, .iload_n 3, 1, 0, 0), (39, .ireturn, 1, 0, 0)]
def zc48 : List (Nat × Instr × Nat × Nat × Nat) := [(0, .iload_n 1, 1, 0, 0), (1, .istore_n 3, 1, 0, 0), (2, .iconst 0, 1, 0, 0), (3, .istore 4, 2, 0, 0), (5, .iload 4, 2, 0, 0), (7, .aload_n 0, 1, 0, 0), (8, .getfield 29, 3, 4, 4), (11, .if_icmp .ge 75, 3, 86, 0), (14, .aload_n 0, 1, 0, 0), (15, .getfield 14, 3, 4, 0), (18, .iload 4, 2, 0, 0), (20, .invokevirtual 41, 3, 1, 1), (23, .iload_n 2, 1, 0, 0), (24, .if_icmp .gt 62, 3, 86, 0), (27, .aload_n 0, 1, 0, 0), (28, .getfield 20, 3, 4, 1), (31, .iload 4, 2, 0, 0), (33, .invokevirtual 41, 3, 1, 1), (36, .iload_n 1, 1, 0, 0), (37, .if_icmp .ne 18, 3, 55, 0), (40, .iload_n 3, 1, 0, 0), (41, .aload_n 0, 1, 0, 0), (42, .getfield 26, 3, 4, 3), (45, .iload 4, 2, 0, 0), (47, .invokevirtual 41, 3, 1, 1), (50, .isub, 1, 0, 0), (51, .istore_n 3, 1, 0, 0), (52, .goto 28, 3, 80, 0), (55, .aload_n 0, 1, 0, 0), (56, .getfield 23, 3, 4, 2), (59, .iload 4, 2, 0, 0), (61, .invokevirtual 41, 3, 1, 1), (64, .iload_n 1, 1, 0, 0), (65, .if_icmp .ne 15, 3, 80, 0), (68, .iload_n 3, 1, 0, 0), (69, .aload_n 0, 1, 0, 0), (70, .getfield 26, 3, 4, 3), (73, .iload 4, 2, 0, 0), (75, .invokevirtual 41, 3, 1, 1), (78, .iadd, 1, 0, 0), (79, .istore_n 3, 1, 0, 0), (80, .iinc 4 1, 3, 0, 0), (83, .goto (-78), 3, 5, 0), (86, .iload_n 3, 1, 0, 0), (87, .ireturn, 1, 0, 0)]
def zc49 : List (Nat × Instr × Nat × Nat × Nat) := [(0, .aload_n 0, 1, 0, 0), (1, .getfield 14, 3, 4, 0), (4, .aload_n 1, 1, 0, 0), (5, .getfield 14, 3, 4, 0), (8, .invokevirtual 45, 3, 3, 1), (11, .aload_n 0, 1, 0, 0), (12, .getfield 20, 3, 4, 1), (15, .aload_n 1, 1, 0, 0), (16, .getfield 20, 3, 4, 1), (19, .invokevirtual 45, 3, 3, 1), (22, .aload_n 0, 1, 0, 0), (23, .getfield 23, 3, 4, 2), (26, .aload_n 1, 1, 0, 0), (27, .getfield 23, 3, 4, 2), (30, .invokevirtual 45, 3, 3, 1), (33, .aload_n 0, 1, 0, 0), (34, .getfield 26, 3, 4, 3), (37, .aload_n 1, 1, 0, 0), (38, .getfield 26, 3, 4, 3), (41, .invokevirtual 45, 3, 3, 1), (44, .aload_n 0, 1, 0, 0), (45, .aload_n 1, 1, 0, 0), (46, .getfield 29, 3, 4, 4), (49, .putfield 29, 3, 4, 4), (52, .return_, 1, 0, 0)]
def zc50 : List (Nat × Instr × Nat × Nat × Nat) := [(0, .aload_n 0, 1, 0, 0), (1, .invokespecial 3, 3, 1002, 0), (4, .aload_n 0, 1, 0, 0), (5, .new 9, 3, 0, 0), (8, .dup, 1, 0, 0), (9, .iconst 4, 1, 0, 0), (10, .invokespecial 11, 3, 0, 1), (13, .putfield 14, 3, 5, 0), (16, .aload_n 0, 1, 0, 0), (17, .new 9, 3, 0, 0), (20, .dup, 1, 0, 0), (21, .iconst 4, 1, 0, 0), (22, .invokespecial 11, 3, 0, 1), (25, .putfield 20, 3, 5, 1), (28, .return_, 1, 0, 0)]
def zc51 : List (Nat × Instr × Nat × Nat × Nat) := [(0, .iload_n 1, 1, 0, 0), (1, .ifCond .lt 15, 3, 16, 0), (4, .iload_n 1, 1, 0, 0), (5, .aload_n 0, 1, 0, 0), (6, .getfield 23, 3, 5, 2), (9, .if_icmp .ge 7, 3, 16, 0), (12, .iconst 1, 1, 0, 0), (13, .goto 4, 3, 17, 0), (16, .iconst 0, 1, 0, 0), (17, .ireturn, 1, 0, 0)]
def zc52 : List (Nat × Instr × Nat × Nat × Nat) := [(0, .aload_n 0, 1, 0, 0), (1, .getfield 23, 3, 5, 2), (4, .iconst 4, 1, 0, 0), (5, .if_icmp .ge 37, 3, 42, 0), (8, .aload_n 0, 1, 0, 0), (9, .getfield 14, 3, 5, 0), (12, .aload_n 0, 1, 0, 0), (13, .getfield 23, 3, 5, 2), (16, .iload_n 1, 1, 0, 0), (17, .invokevirtual 27, 3, 2, 2), (20, .aload_n 0, 1, 0, 0), (21, .getfield 20, 3, 5, 1), (24, .aload_n 0, 1, 0, 0), (25, .getfield 23, 3, 5, 2), (28, .iload_n 2, 1, 0, 0), (29, .invokevirtual 27, 3, 2, 2), (32, .aload_n 0, 1, 0, 0), (33, .dup, 1, 0, 0), (34, .getfield 23, 3, 5, 2), (37, .iconst 1, 1, 0, 0), (38, .iadd, 1, 0, 0), (39, .putfield 23, 3, 5, 2), (42, .return_, 1, 0, 0)]
def zc53 : List (Nat × Instr × Nat × Nat × Nat) := [(0, .iconst 0, 1, 0, 0), (1, .istore_n 2, 1, 0, 0), (2, .iload_n 2, 1, 0, 0), (3, .aload_n 0, 1, 0, 0), (4, .getfield 23, 3, 5, 2), (7, .if_icmp .ge 35, 3, 42, 0), (10, .aload_n 0, 1, 0, 0), (11, .getfield 14, 3, 5, 0), (14, .iload_n 2, 1, 0, 0), (15, .invokevirtual 31, 3, 1, 1), (18, .iload_n 1, 1, 0, 0), (19, .if_icmp .eq 15, 3, 34, 0), (22, .aload_n 0, 1, 0, 0), (23, .getfield 20, 3, 5, 1), (26, .iload_n 2, 1, 0, 0), (27, .invokevirtual 31, 3, 1, 1), (30, .iload_n 1, 1, 0, 0), (31, .if_icmp .ne 5, 3, 36, 0), (34, .iconst 1, 1, 0, 0), (35, .ireturn, 1, 0, 0), (36, .iinc 2 1, 3, 0, 0), (39, .goto (-37), 3, 2, 0), (42, .iconst 0, 1, 0, 0), (43, .ireturn, 1, 0, 0)]
def zc54 : List (Nat × Instr × Nat × Nat × Nat) := [(0, .aload_n 0, 1, 0, 0), (1, .getfield 23, 3, 5, 2), (4, .istore_n 2, 1, 0, 0), (5, .aload_n 0, 1, 0, 0), (6, .iconst 0, 1, 0, 0), (7, .putfield 23, 3, 5, 2), (10, .iconst 0, 1, 0, 0), (11, .istore_n 3, 1, 0, 0), (12, .iload_n 3, 1, 0, 0), (13, .iload_n 2, 1, 0, 0), (14, .if_icmp .ge 37, 3, 51, 0), (17, .iload_n 1, 1, 0, 0), (18, .iconst 1, 1, 0, 0), (19, .iload_n 3, 1, 0, 0), (20, .ishl, 1, 0, 0), (21, .iand, 1, 0, 0), (22, .ifCond .ne 23, 3, 45, 0), (25, .aload_n 0, 1, 0, 0), (26, .aload_n 0, 1, 0, 0), (27, .getfield 14, 3, 5, 0), (30, .iload_n 3, 1, 0, 0), (31, .invokevirtual 31, 3, 1, 1), (34, .aload_n 0, 1, 0, 0), (35, .getfield 20, 3, 5, 1), (38, .iload_n 3, 1, 0, 0), (39, .invokevirtual 31, 3, 1, 1), (42, .invokevirtual 35, 3, 52, 2), (45, .iinc 3 1, 3, 0, 0), (48, .goto (-36), 3, 12, 0), (51, .return_, 1, 0, 0)]
def zc55 : List (Nat × Instr × Nat × Nat × Nat) := [(0, .aload_n 0, 1, 0, 0), (1, .getfield 14, 3, 5, 0), (4, .aload_n 1, 1, 0, 0), (5, .getfield 14, 3, 5, 0), (8, .invokevirtual 38, 3, 3, 1), (11, .aload_n 0, 1, 0, 0), (12, .getfield 20, 3, 5, 1), (15, .aload_n 1, 1, 0, 0), (16, .getfield 20, 3, 5, 1), (19, .invokevirtual 38, 3, 3, 1), (22, .aload_n 0, 1, 0, 0), (23, .aload_n 1, 1, 0, 0), (24, .getfield 23, 3, 5, 2), (27, .putfield 23, 3, 5, 2), (30, .return_, 1, 0, 0)]
def zc56 : List (Nat × Instr × Nat × Nat × Nat) := [(0, .aload_n 0, 1, 0, 0), (1, .invokespecial 3, 3, 1002, 0), (4, .aload_n 0, 1, 0, 0), (5, .new 9, 3, 5, 0), (8, .dup, 1, 0, 0), (9, .invokespecial 11, 3, 50, 0), (12, .putfield 12, 3, 6, 4), (15, .aload_n 0, 1, 0, 0), (16, .new 18, 3, 0, 0), (19, .dup, 1, 0, 0), (20, .bipush 80, 2, 0, 0), (22, .invokespecial 20, 3, 0, 1), (25, .putfield 23, 3, 6, 5), (28, .return_, 1, 0, 0)]
def zc57 : List (Nat × Instr × Nat × Nat × Nat) := [(0, .aload_n 0, 1, 0, 0), (1, .invokespecial 1, 3, 1002, 0), (4, .aload_n 0, 1, 0, 0), (5, .new 7, 3, 1, 0), (8, .dup, 1, 0, 0), (9, .invokespecial 9, 3, 4, 0), (12, .putfield 10, 3, 7, 0), (15, .aload_n 0, 1, 0, 0), (16, .new 16, 3, 3, 0), (19, .dup, 1, 0, 0), (20, .invokespecial 18, 3, 37, 0), (23, .putfield 19, 3, 7, 1), (26, .aload_n 0, 1, 0, 0), (27, .new 23, 3, 2, 0), (30, .dup, 1, 0, 0), (31, .invokespecial 25, 3, 31, 0), (34, .putfield 26, 3, 7, 2), (37, .aload_n 0, 1, 0, 0), (38, .new 30, 3, 6, 0), (41, .dup, 1, 0, 0), (42, .invokespecial 32, 3, 56, 0), (45, .putfield 33, 3, 7, 3), (48, .aload_n 0, 1, 0, 0), (49, .getfield 10, 3, 7, 0), (52, .bipush 12, 2, 0, 0), (54, .iconst 4, 1, 0, 0), (55, .iconst 4, 1, 0, 0), (56, .invokevirtual 37, 3, 5, 3), (59, .return_, 1, 0, 0)]
def zc58 : List (Nat × Instr × Nat × Nat × Nat) := [(0, .iload_n 1, 1, 0, 0), (1, .iconst 2, 1, 0, 0), (2, .if_icmp .lt 31, 3, 33, 0), (5, .iload_n 1, 1, 0, 0), (6, .bipush 24, 2, 0, 0), (8, .if_icmp .gt 25, 3, 33, 0), (11, .iload_n 2, 1, 0, 0), (12, .iconst 3, 1, 0, 0), (13, .if_icmp .lt 20, 3, 33, 0), (16, .iload_n 2, 1, 0, 0), (17, .bipush 8, 2, 0, 0), (19, .if_icmp .gt 14, 3, 33, 0), (22, .iload_n 3, 1, 0, 0), (23, .iconst 1, 1, 0, 0), (24, .if_icmp .lt 9, 3, 33, 0), (27, .iload_n 3, 1, 0, 0), (28, .bipush 6, 2, 0, 0), (30, .if_icmp .le 7, 3, 37, 0), (33, .sipush (-1001), 3, 0, 0), (36, .ireturn, 1, 0, 0), (37, .aload_n 0, 1, 0, 0), (38, .getfield 19, 3, 7, 1), (41, .aload_n 0, 1, 0, 0), (42, .getfield 10, 3, 7, 0), (45, .invokevirtual 41, 3, 38, 1), (48, .aload_n 0, 1, 0, 0), (49, .getfield 10, 3, 7, 0), (52, .iload_n 1, 1, 0, 0), (53, .iload_n 2, 1, 0, 0), (54, .iload_n 3, 1, 0, 0), (55, .invokevirtual 37, 3, 5, 3), (58, .aload_n 0, 1, 0, 0), (59, .getfield 10, 3, 7, 0), (62, .invokevirtual 45, 3, 9, 0), (65, .ireturn, 1, 0, 0)]
def zc59 : List (Nat × Instr × Nat × Nat × Nat) := [(0, .aload_n 0, 1, 0, 0), (1, .getfield 10, 3, 7, 0), (4, .iload_n 1, 1, 0, 0), (5, .invokevirtual 49, 3, 6, 1), (8, .ifCond .eq 15, 3, 23, 0), (11, .iload_n 2, 1, 0, 0), (12, .iconst 1, 1, 0, 0), (13, .if_icmp .lt 10, 3, 23, 0), (16, .iload_n 2, 1, 0, 0), (17, .sipush 1000, 3, 0, 0), (20, .if_icmp .le 7, 3, 27, 0), (23, .sipush (-1001), 3, 0, 0), (26, .ireturn, 1, 0, 0), (27, .aload_n 0, 1, 0, 0), (28, .getfield 19, 3, 7, 1), (31, .aload_n 0, 1, 0, 0), (32, .getfield 10, 3, 7, 0), (35, .invokevirtual 41, 3, 38, 1), (38, .aload_n 0, 1, 0, 0), (39, .getfield 10, 3, 7, 0), (42, .getfield 53, 3, 1, 0), (45, .iload_n 1, 1, 0, 0), (46, .invokevirtual 57, 3, 1, 1), (49, .istore_n 3, 1, 0, 0), (50, .aload_n 0, 1, 0, 0), (51, .getfield 10, 3, 7, 0), (54, .getfield 53, 3, 1, 0), (57, .iload_n 1, 1, 0, 0), (58, .iload_n 2, 1, 0, 0), (59, .invokevirtual 63, 3, 2, 2), (62, .iload_n 3, 1, 0, 0), (63, .ireturn, 1, 0, 0)]
def zc60 : List (Nat × Instr × Nat × Nat × Nat) := [(0, .iload_n 1, 1, 0, 0), (1, .tableswitch 226 0 12 #[67, 75, 83, 91, 99, 107, 131, 158, 182, 190, 198, 206, 214], 67, 0, 0), (68, .aload_n 0, 1, 0, 0), (69, .getfield 10, 3, 7, 0), (72, .getfield 74, 3, 1, 5), (75, .ireturn, 1, 0, 0), (76, .aload_n 0, 1, 0, 0), (77, .getfield 10, 3, 7, 0), (80, .getfield 77, 3, 1, 6), (83, .ireturn, 1, 0, 0), (84, .aload_n 0, 1, 0, 0), (85, .getfield 10, 3, 7, 0), (88, .invokevirtual 45, 3, 9, 0), (91, .ireturn, 1, 0, 0), (92, .aload_n 0, 1, 0, 0), (93, .getfield 10, 3, 7, 0), (96, .getfield 80, 3, 1, 7), (99, .ireturn, 1, 0, 0), (100, .aload_n 0, 1, 0, 0), (101, .getfield 10, 3, 7, 0), (104, .getfield 83, 3, 1, 8), (107, .ireturn, 1, 0, 0), (108, .aload_n 0, 1, 0, 0), (109, .getfield 10, 3, 7, 0), (112, .invokevirtual 86, 3, 8, 0), (115, .ifCond .eq 13, 3, 128, 0), (118, .aload_n 0, 1, 0, 0), (119, .getfield 10, 3, 7, 0), (122, .getfield 90, 3, 1, 9), (125, .goto 6, 3, 131, 0), (128, .sipush (-1004), 3, 0, 0), (131, .ireturn, 1, 0, 0), (132, .aload_n 0, 1, 0, 0), (133, .getfield 10, 3, 7, 0), (136, .invokevirtual 86, 3, 8, 0), (139, .ifCond .eq 16, 3, 155, 0), (142, .aload_n 0, 1, 0, 0), (143, .getfield 10, 3, 7, 0), (146, .getfield 93, 3, 1, 3), (149, .getfield 97, 3, 5, 2), (152, .goto 6, 3, 158, 0), (155, .sipush (-1004), 3, 0, 0), (158, .ireturn, 1, 0, 0), (159, .aload_n 0, 1, 0, 0), (160, .getfield 10, 3, 7, 0), (163, .invokevirtual 86, 3, 8, 0), (166, .ifCond .eq 13, 3, 179, 0), (169, .aload_n 0, 1, 0, 0), (170, .getfield 10, 3, 7, 0), (173, .invokevirtual 102, 3, 12, 0), (176, .goto 6, 3, 182, 0), (179, .sipush (-1004), 3, 0, 0), (182, .ireturn, 1, 0, 0), (183, .aload_n 0, 1, 0, 0), (184, .getfield 10, 3, 7, 0), (187, .getfield 67, 3, 1, 10), (190, .ireturn, 1, 0, 0), (191, .aload_n 0, 1, 0, 0), (192, .getfield 10, 3, 7, 0), (195, .getfield 71, 3, 1, 11), (198, .ireturn, 1, 0, 0), (199, .aload_n 0, 1, 0, 0), (200, .getfield 19, 3, 7, 1), (203, .getfield 105, 3, 3, 1), (206, .ireturn, 1, 0, 0), (207, .aload_n 0, 1, 0, 0), (208, .getfield 33, 3, 7, 3), (211, .getfield 108, 3, 6, 0), (214, .ireturn, 1, 0, 0), (215, .aload_n 0, 1, 0, 0), (216, .getfield 10, 3, 7, 0), (219, .getfield 111, 3, 1, 2), (222, .iconst 0, 1, 0, 0), (223, .invokevirtual 57, 3, 1, 1), (226, .ireturn, 1, 0, 0), (227, .sipush (-1001), 3, 0, 0), (230, .ireturn, 1, 0, 0)]
def zc61 : List (Nat × Instr × Nat × Nat × Nat) := [(0, .aload_n 0, 1, 0, 0), (1, .getfield 10, 3, 7, 0), (4, .iload_n 1, 1, 0, 0), (5, .invokevirtual 49, 3, 6, 1), (8, .ifCond .ne 7, 3, 15, 0), (11, .sipush (-1001), 3, 0, 0), (14, .ireturn, 1, 0, 0), (15, .iload_n 2, 1, 0, 0), (16, .tableswitch 189 0 9 #[56, 68, 80, 89, 115, 138, 147, 156, 165, 177], 56, 0, 0), (72, .aload_n 0, 1, 0, 0), (73, .getfield 10, 3, 7, 0), (76, .getfield 53, 3, 1, 0), (79, .iload_n 1, 1, 0, 0), (80, .invokevirtual 57, 3, 1, 1), (83, .ireturn, 1, 0, 0), (84, .aload_n 0, 1, 0, 0), (85, .getfield 10, 3, 7, 0), (88, .getfield 114, 3, 1, 1), (91, .iload_n 1, 1, 0, 0), (92, .invokevirtual 57, 3, 1, 1), (95, .ireturn, 1, 0, 0), (96, .aload_n 0, 1, 0, 0), (97, .getfield 10, 3, 7, 0), (100, .iload_n 1, 1, 0, 0), (101, .invokevirtual 117, 3, 10, 1), (104, .ireturn, 1, 0, 0), (105, .aload_n 0, 1, 0, 0), (106, .getfield 10, 3, 7, 0), (109, .iload_n 1, 1, 0, 0), (110, .invokevirtual 120, 3, 15, 1), (113, .ifCond .eq 14, 3, 127, 0), (116, .aload_n 0, 1, 0, 0), (117, .getfield 10, 3, 7, 0), (120, .iload_n 1, 1, 0, 0), (121, .invokevirtual 123, 3, 14, 1), (124, .goto 6, 3, 130, 0), (127, .sipush (-1004), 3, 0, 0), (130, .ireturn, 1, 0, 0), (131, .aload_n 0, 1, 0, 0), (132, .getfield 10, 3, 7, 0), (135, .iload_n 1, 1, 0, 0), (136, .invokevirtual 120, 3, 15, 1), (139, .ifCond .eq 11, 3, 150, 0), (142, .aload_n 0, 1, 0, 0), (143, .iload_n 1, 1, 0, 0), (144, .invokevirtual 126, 3, 62, 1), (147, .goto 6, 3, 153, 0), (150, .sipush (-1004), 3, 0, 0), (153, .ireturn, 1, 0, 0), (154, .aload_n 0, 1, 0, 0), (155, .getfield 10, 3, 7, 0), (158, .iload_n 1, 1, 0, 0), (159, .invokevirtual 129, 3, 26, 1), (162, .ireturn, 1, 0, 0), (163, .aload_n 0, 1, 0, 0), (164, .getfield 10, 3, 7, 0), (167, .iload_n 1, 1, 0, 0), (168, .invokevirtual 132, 3, 27, 1), (171, .ireturn, 1, 0, 0), (172, .aload_n 0, 1, 0, 0), (173, .getfield 10, 3, 7, 0), (176, .iload_n 1, 1, 0, 0), (177, .invokevirtual 135, 3, 28, 1), (180, .ireturn, 1, 0, 0), (181, .aload_n 0, 1, 0, 0), (182, .getfield 10, 3, 7, 0), (185, .getfield 138, 3, 1, 4), (188, .iload_n 1, 1, 0, 0), (189, .invokevirtual 142, 3, 45, 1), (192, .ireturn, 1, 0, 0), (193, .aload_n 0, 1, 0, 0), (194, .getfield 10, 3, 7, 0), (197, .getfield 138, 3, 1, 4), (200, .iload_n 1, 1, 0, 0), (201, .invokevirtual 147, 3, 46, 1), (204, .ireturn, 1, 0, 0), (205, .sipush (-1001), 3, 0, 0), (208, .ireturn, 1, 0, 0)]
def zc62 : List (Nat × Instr × Nat × Nat × Nat) := [(0, .aload_n 0, 1, 0, 0), (1, .getfield 10, 3, 7, 0), (4, .getfield 93, 3, 1, 3), (7, .iload_n 1, 1, 0, 0), (8, .invokevirtual 150, 3, 53, 1), (11, .ifCond .eq 7, 3, 18, 0), (14, .iconst 1, 1, 0, 0), (15, .goto 4, 3, 19, 0), (18, .iconst 0, 1, 0, 0), (19, .ireturn, 1, 0, 0)]
def zc63 : List (Nat × Instr × Nat × Nat × Nat) := [(0, .iload_n 1, 1, 0, 0), (1, .ifCond .lt 28, 3, 29, 0), (4, .iload_n 1, 1, 0, 0), (5, .aload_n 0, 1, 0, 0), (6, .getfield 10, 3, 7, 0), (9, .getfield 74, 3, 1, 5), (12, .if_icmp .ge 17, 3, 29, 0), (15, .aload_n 0, 1, 0, 0), (16, .getfield 10, 3, 7, 0), (19, .getfield 111, 3, 1, 2), (22, .iload_n 1, 1, 0, 0), (23, .invokevirtual 57, 3, 1, 1), (26, .goto 6, 3, 32, 0), (29, .sipush (-1001), 3, 0, 0), (32, .ireturn, 1, 0, 0)]
def zc64 : List (Nat × Instr × Nat × Nat × Nat) := [(0, .iload_n 1, 1, 0, 0), (1, .ifCond .ge 7, 3, 8, 0), (4, .sipush (-1001), 3, 0, 0), (7, .ireturn, 1, 0, 0), (8, .iload_n 1, 1, 0, 0), (9, .aload_n 0, 1, 0, 0), (10, .getfield 10, 3, 7, 0), (13, .invokevirtual 102, 3, 12, 0), (16, .if_icmp .ge 14, 3, 30, 0), (19, .aload_n 0, 1, 0, 0), (20, .getfield 10, 3, 7, 0), (23, .iload_n 1, 1, 0, 0), (24, .invokevirtual 153, 3, 13, 1), (27, .goto 6, 3, 33, 0), (30, .sipush (-1004), 3, 0, 0), (33, .ireturn, 1, 0, 0)]
def zc65 : List (Nat × Instr × Nat × Nat × Nat) := [(0, .aload_n 0, 1, 0, 0), (1, .getfield 10, 3, 7, 0), (4, .iload_n 1, 1, 0, 0), (5, .invokevirtual 49, 3, 6, 1), (8, .ifCond .eq 14, 3, 22, 0), (11, .aload_n 0, 1, 0, 0), (12, .getfield 10, 3, 7, 0), (15, .iload_n 2, 1, 0, 0), (16, .invokevirtual 49, 3, 6, 1), (19, .ifCond .ne 7, 3, 26, 0), (22, .sipush (-1001), 3, 0, 0), (25, .ireturn, 1, 0, 0), (26, .aload_n 0, 1, 0, 0), (27, .getfield 10, 3, 7, 0), (30, .aload_n 0, 1, 0, 0), (31, .getfield 10, 3, 7, 0), (34, .getfield 93, 3, 1, 3), (37, .iload_n 1, 1, 0, 0), (38, .iload_n 2, 1, 0, 0), (39, .invokevirtual 156, 3, 16, 3), (42, .ifCond .eq 7, 3, 49, 0), (45, .sipush (-1002), 3, 0, 0), (48, .ireturn, 1, 0, 0), (49, .aload_n 0, 1, 0, 0), (50, .getfield 19, 3, 7, 1), (53, .aload_n 0, 1, 0, 0), (54, .getfield 10, 3, 7, 0), (57, .invokevirtual 41, 3, 38, 1), (60, .aload_n 0, 1, 0, 0), (61, .getfield 10, 3, 7, 0), (64, .getfield 93, 3, 1, 3), (67, .iload_n 1, 1, 0, 0), (68, .iload_n 2, 1, 0, 0), (69, .invokevirtual 160, 3, 52, 2), (72, .aload_n 0, 1, 0, 0), (73, .getfield 10, 3, 7, 0), (76, .getfield 93, 3, 1, 3), (79, .getfield 97, 3, 5, 2), (82, .iconst 1, 1, 0, 0), (83, .isub, 1, 0, 0), (84, .ireturn, 1, 0, 0)]
def zc66 : List (Nat × Instr × Nat × Nat × Nat) := [(0, .aload_n 0, 1, 0, 0), (1, .getfield 10, 3, 7, 0), (4, .iload_n 1, 1, 0, 0), (5, .invokevirtual 49, 3, 6, 1), (8, .ifCond .eq 14, 3, 22, 0), (11, .aload_n 0, 1, 0, 0), (12, .getfield 10, 3, 7, 0), (15, .iload_n 2, 1, 0, 0), (16, .invokevirtual 49, 3, 6, 1), (19, .ifCond .ne 7, 3, 26, 0), (22, .sipush (-1001), 3, 0, 0), (25, .ireturn, 1, 0, 0), (26, .aload_n 0, 1, 0, 0), (27, .getfield 10, 3, 7, 0), (30, .aload_n 0, 1, 0, 0), (31, .getfield 10, 3, 7, 0), (34, .getfield 93, 3, 1, 3), (37, .iload_n 1, 1, 0, 0), (38, .iload_n 2, 1, 0, 0), (39, .invokevirtual 156, 3, 16, 3), (42, .ireturn, 1, 0, 0)]
def zc67 : List (Nat × Instr × Nat × Nat × Nat) := [(0, .aload_n 0, 1, 0, 0), (1, .getfield 10, 3, 7, 0), (4, .getfield 93, 3, 1, 3), (7, .iload_n 1, 1, 0, 0), (8, .invokevirtual 163, 3, 51, 1), (11, .ifCond .ne 7, 3, 18, 0), (14, .sipush (-1001), 3, 0, 0), (17, .ireturn, 1, 0, 0), (18, .iload_n 2, 1, 0, 0), (19, .tableswitch 66 0 2 #[25, 40, 55], 25, 0, 0), (44, .aload_n 0, 1, 0, 0), (45, .getfield 10, 3, 7, 0), (48, .getfield 93, 3, 1, 3), (51, .getfield 166, 3, 5, 0), (54, .iload_n 1, 1, 0, 0), (55, .invokevirtual 57, 3, 1, 1), (58, .ireturn, 1, 0, 0), (59, .aload_n 0, 1, 0, 0), (60, .getfield 10, 3, 7, 0), (63, .getfield 93, 3, 1, 3), (66, .getfield 169, 3, 5, 1), (69, .iload_n 1, 1, 0, 0), (70, .invokevirtual 57, 3, 1, 1), (73, .ireturn, 1, 0, 0), (74, .aload_n 0, 1, 0, 0), (75, .getfield 10, 3, 7, 0), (78, .iload_n 1, 1, 0, 0), (79, .invokevirtual 172, 3, 17, 1), (82, .iconst 1, 1, 0, 0), (83, .isub, 1, 0, 0), (84, .ireturn, 1, 0, 0), (85, .sipush (-1001), 3, 0, 0), (88, .ireturn, 1, 0, 0)]
def zc68 : List (Nat × Instr × Nat × Nat × Nat) := [(0, .aload_n 0, 1, 0, 0), (1, .getfield 10, 3, 7, 0), (4, .getfield 93, 3, 1, 3), (7, .iload_n 1, 1, 0, 0), (8, .invokevirtual 163, 3, 51, 1), (11, .ifCond .ne 7, 3, 18, 0), (14, .sipush (-1001), 3, 0, 0), (17, .ireturn, 1, 0, 0), (18, .aload_n 0, 1, 0, 0), (19, .getfield 19, 3, 7, 1), (22, .aload_n 0, 1, 0, 0), (23, .getfield 10, 3, 7, 0), (26, .invokevirtual 41, 3, 38, 1), (29, .aload_n 0, 1, 0, 0), (30, .getfield 10, 3, 7, 0), (33, .iload_n 1, 1, 0, 0), (34, .invokevirtual 175, 3, 18, 1), (37, .istore_n 2, 1, 0, 0), (38, .aload_n 0, 1, 0, 0), (39, .getfield 10, 3, 7, 0), (42, .getfield 93, 3, 1, 3), (45, .iload_n 2, 1, 0, 0), (46, .invokevirtual 178, 3, 54, 1), (49, .iload_n 2, 1, 0, 0), (50, .invokestatic 182, 3, 77, 1), (53, .ireturn, 1, 0, 0)]
def zc69 : List (Nat × Instr × Nat × Nat × Nat) := [(0, .aload_n 0, 1, 0, 0), (1, .getfield 10, 3, 7, 0), (4, .invokevirtual 86, 3, 8, 0), (7, .ifCond .ne 7, 3, 14, 0), (10, .sipush (-1002), 3, 0, 0), (13, .ireturn, 1, 0, 0), (14, .aload_n 0, 1, 0, 0), (15, .getfield 19, 3, 7, 1), (18, .aload_n 0, 1, 0, 0), (19, .getfield 10, 3, 7, 0), (22, .invokevirtual 41, 3, 38, 1), (25, .aload_n 0, 1, 0, 0), (26, .getfield 10, 3, 7, 0), (29, .invokevirtual 187, 3, 21, 0), (32, .ireturn, 1, 0, 0)]
def zc70 : List (Nat × Instr × Nat × Nat × Nat) := [(0, .aload_n 0, 1, 0, 0), (1, .getfield 19, 3, 7, 1), (4, .invokevirtual 190, 3, 40, 0), (7, .astore_n 1, 1, 0, 0), (8, .aload_n 1, 1, 0, 0), (9, .ifnonnull 7, 3, 16, 0), (12, .sipush (-1002), 3, 0, 0), (15, .ireturn, 1, 0, 0), (16, .aload_n 0, 1, 0, 0), (17, .getfield 10, 3, 7, 0), (20, .aload_n 1, 1, 0, 0), (21, .invokevirtual 194, 3, 30, 1), (24, .aload_n 0, 1, 0, 0), (25, .getfield 19, 3, 7, 1), (28, .invokevirtual 197, 3, 41, 0), (31, .aload_n 0, 1, 0, 0), (32, .getfield 19, 3, 7, 1), (35, .getfield 105, 3, 3, 1), (38, .ireturn, 1, 0, 0)]
def zc71 : List (Nat × Instr × Nat × Nat × Nat) := [(0, .iload_n 1, 1, 0, 0), (1, .ifCond .lt 12, 3, 13, 0), (4, .iload_n 2, 1, 0, 0), (5, .ifCond .lt 8, 3, 13, 0), (8, .iload_n 2, 1, 0, 0), (9, .iconst 2, 1, 0, 0), (10, .if_icmp .le 7, 3, 17, 0), (13, .sipush (-1001), 3, 0, 0), (16, .ireturn, 1, 0, 0), (17, .aload_n 0, 1, 0, 0), (18, .getfield 26, 3, 7, 2), (21, .aload_n 0, 1, 0, 0), (22, .getfield 10, 3, 7, 0), (25, .invokevirtual 200, 3, 32, 1), (28, .iload_n 1, 1, 0, 0), (29, .aload_n 0, 1, 0, 0), (30, .getfield 26, 3, 7, 2), (33, .getfield 203, 3, 2, 2), (36, .if_icmp .lt 7, 3, 43, 0), (39, .sipush (-1004), 3, 0, 0), (42, .ireturn, 1, 0, 0), (43, .iload_n 2, 1, 0, 0), (44, .lookupswitch 66 #[(0, 28), (1, 47)], 28, 0, 0), (72, .aload_n 0, 1, 0, 0), (73, .getfield 10, 3, 7, 0), (76, .aload_n 0, 1, 0, 0), (77, .getfield 26, 3, 7, 2), (80, .getfield 206, 3, 2, 0), (83, .iload_n 1, 1, 0, 0), (84, .invokevirtual 57, 3, 1, 1), (87, .invokevirtual 153, 3, 13, 1), (90, .ireturn, 1, 0, 0), (91, .aload_n 0, 1, 0, 0), (92, .getfield 10, 3, 7, 0), (95, .aload_n 0, 1, 0, 0), (96, .getfield 26, 3, 7, 2), (99, .getfield 207, 3, 2, 1), (102, .iload_n 1, 1, 0, 0), (103, .invokevirtual 57, 3, 1, 1), (106, .invokevirtual 153, 3, 13, 1), (109, .ireturn, 1, 0, 0), (110, .aload_n 0, 1, 0, 0), (111, .getfield 26, 3, 7, 2), (114, .iload_n 1, 1, 0, 0), (115, .invokevirtual 208, 3, 36, 1), (118, .d2f, 1, 0, 0), (119, .invokestatic 212, 3, 73, 1), (122, .ireturn, 1, 0, 0)]
def zc72 : List (Nat × Instr × Nat × Nat × Nat) := [(0, .aload_n 0, 1, 0, 0), (1, .getfield 10, 3, 7, 0), (4, .invokevirtual 86, 3, 8, 0), (7, .ifCond .eq 16, 3, 23, 0), (10, .aload_n 0, 1, 0, 0), (11, .getfield 10, 3, 7, 0), (14, .getfield 93, 3, 1, 3), (17, .getfield 97, 3, 5, 2), (20, .ifCond .le 7, 3, 27, 0), (23, .sipush (-1002), 3, 0, 0), (26, .ireturn, 1, 0, 0), (27, .aload_n 0, 1, 0, 0), (28, .getfield 19, 3, 7, 1), (31, .aload_n 0, 1, 0, 0), (32, .getfield 10, 3, 7, 0), (35, .invokevirtual 41, 3, 38, 1), (38, .aload_n 0, 1, 0, 0), (39, .getfield 26, 3, 7, 2), (42, .aload_n 0, 1, 0, 0), (43, .getfield 10, 3, 7, 0), (46, .invokevirtual 200, 3, 32, 1), (49, .iconst 0, 1, 0, 0), (50, .istore_n 1, 1, 0, 0), (51, .iload_n 1, 1, 0, 0), (52, .aload_n 0, 1, 0, 0), (53, .getfield 26, 3, 7, 2), (56, .getfield 203, 3, 2, 2), (59, .if_icmp .ge 55, 3, 114, 0), (62, .aload_n 0, 1, 0, 0), (63, .getfield 10, 3, 7, 0), (66, .getfield 93, 3, 1, 3), (69, .aload_n 0, 1, 0, 0), (70, .getfield 10, 3, 7, 0), (73, .aload_n 0, 1, 0, 0), (74, .getfield 26, 3, 7, 2), (77, .getfield 206, 3, 2, 0), (80, .iload_n 1, 1, 0, 0), (81, .invokevirtual 57, 3, 1, 1), (84, .invokevirtual 153, 3, 13, 1), (87, .aload_n 0, 1, 0, 0), (88, .getfield 10, 3, 7, 0), (91, .aload_n 0, 1, 0, 0), (92, .getfield 26, 3, 7, 2), (95, .getfield 207, 3, 2, 1), (98, .iload_n 1, 1, 0, 0), (99, .invokevirtual 57, 3, 1, 1), (102, .invokevirtual 153, 3, 13, 1), (105, .invokevirtual 160, 3, 52, 2), (108, .iinc 1 1, 3, 0, 0), (111, .goto (-60), 3, 51, 0), (114, .aload_n 0, 1, 0, 0), (115, .getfield 10, 3, 7, 0), (118, .invokevirtual 187, 3, 21, 0), (121, .ireturn, 1, 0, 0)]
def zc73 : List (Nat × Instr × Nat × Nat × Nat) := [(0, .fload_n 0, 1, 0, 0), (1, .fconst 0, 1, 0, 0), (2, .fcmp .l, 1, 0, 0), (3, .ifCond .ne 5, 3, 8, 0), (6, .iconst 0, 1, 0, 0), (7, .ireturn, 1, 0, 0), (8, .fload_n 0, 1, 0, 0), (9, .fconst 0, 1, 0, 0), (10, .fcmp .g, 1, 0, 0), (11, .ifCond .ge 8, 3, 19, 0), (14, .fload_n 0, 1, 0, 0), (15, .fneg, 1, 0, 0), (16, .goto 4, 3, 20, 0), (19, .fload_n 0, 1, 0, 0), (20, .fstore_n 1, 1, 0, 0), (21, .bipush 127, 2, 0, 0), (23, .istore_n 2, 1, 0, 0), (24, .iconst 0, 1, 0, 0), (25, .istore_n 3, 1, 0, 0), (26, .iload_n 3, 1, 0, 0), (27, .bipush 127, 2, 0, 0), (29, .if_icmp .ge 22, 3, 51, 0), (32, .fload_n 1, 1, 0, 0), (33, .fconst 2, 1, 0, 0), (34, .fcmp .l, 1, 0, 0), (35, .ifCond .lt 16, 3, 51, 0), (38, .fload_n 1, 1, 0, 0), (39, .fconst 2, 1, 0, 0), (40, .fdiv, 1, 0, 0), (41, .fstore_n 1, 1, 0, 0), (42, .iinc 2 1, 3, 0, 0), (45, .iinc 3 1, 3, 0, 0), (48, .goto (-22), 3, 26, 0), (51, .iconst 0, 1, 0, 0), (52, .istore_n 3, 1, 0, 0), (53, .iload_n 3, 1, 0, 0), (54, .bipush 126, 2, 0, 0), (56, .if_icmp .ge 22, 3, 78, 0), (59, .fload_n 1, 1, 0, 0), (60, .fconst 1, 1, 0, 0), (61, .fcmp .g, 1, 0, 0), (62, .ifCond .ge 16, 3, 78, 0), (65, .fload_n 1, 1, 0, 0), (66, .fconst 2, 1, 0, 0), (67, .fmul, 1, 0, 0), (68, .fstore_n 1, 1, 0, 0), (69, .iinc 2 (-1), 3, 0, 0), (72, .iinc 3 1, 3, 0, 0), (75, .goto (-22), 3, 53, 0), (78, .fload_n 1, 1, 0, 0), (79, .fconst 1, 1, 0, 0), (80, .fsub, 1, 0, 0), (81, .ldc 227, 2, 0, 0), (83, .fmul, 1, 0, 0), (84, .f2i, 1, 0, 0), (85, .istore_n 3, 1, 0, 0), (86, .iload_n 2, 1, 0, 0), (87, .bipush 23, 2, 0, 0), (89, .ishl, 1, 0, 0), (90, .iload_n 3, 1, 0, 0), (91, .ior, 1, 0, 0), (92, .istore 4, 2, 0, 0), (94, .fload_n 0, 1, 0, 0), (95, .fconst 0, 1, 0, 0), (96, .fcmp .g, 1, 0, 0), (97, .ifCond .ge 11, 3, 108, 0), (100, .iload 4, 2, 0, 0), (102, .ldc 228, 2, 0, 0), (104, .ior, 1, 0, 0), (105, .goto 5, 3, 110, 0), (108, .iload 4, 2, 0, 0), (110, .ireturn, 1, 0, 0)]
def zc74 : List (Nat × Instr × Nat × Nat × Nat) := [(0, .aload_n 0, 1, 0, 0), (1, .getfield 10, 3, 7, 0), (4, .iload_n 1, 1, 0, 0), (5, .invokevirtual 49, 3, 6, 1), (8, .ifCond .eq 26, 3, 34, 0), (11, .aload_n 0, 1, 0, 0), (12, .getfield 10, 3, 7, 0), (15, .iload_n 2, 1, 0, 0), (16, .invokevirtual 229, 3, 7, 1), (19, .ifCond .eq 15, 3, 34, 0), (22, .aload_n 0, 1, 0, 0), (23, .getfield 10, 3, 7, 0), (26, .iload_n 1, 1, 0, 0), (27, .iload_n 2, 1, 0, 0), (28, .invokevirtual 232, 3, 25, 2), (31, .goto 6, 3, 37, 0), (34, .sipush (-1001), 3, 0, 0), (37, .ireturn, 1, 0, 0)]
def zc75 : List (Nat × Instr × Nat × Nat × Nat) := [(0, .aload_n 0, 1, 0, 0), (1, .getfield 10, 3, 7, 0), (4, .iload_n 1, 1, 0, 0), (5, .invokevirtual 49, 3, 6, 1), (8, .ifCond .eq 29, 3, 37, 0), (11, .aload_n 0, 1, 0, 0), (12, .getfield 10, 3, 7, 0), (15, .iload_n 2, 1, 0, 0), (16, .invokevirtual 229, 3, 7, 1), (19, .ifCond .eq 18, 3, 37, 0), (22, .aload_n 0, 1, 0, 0), (23, .getfield 10, 3, 7, 0), (26, .getfield 138, 3, 1, 4), (29, .iload_n 1, 1, 0, 0), (30, .iload_n 2, 1, 0, 0), (31, .invokevirtual 236, 3, 48, 2), (34, .goto 6, 3, 40, 0), (37, .sipush (-1001), 3, 0, 0), (40, .ireturn, 1, 0, 0)]
def zc76 : List (Nat × Instr × Nat × Nat × Nat) := [(0, .aload_n 0, 1, 0, 0), (1, .getfield 10, 3, 7, 0), (4, .getfield 83, 3, 1, 8), (7, .ifCond .le 13, 3, 20, 0), (10, .aload_n 0, 1, 0, 0), (11, .getfield 10, 3, 7, 0), (14, .invokevirtual 239, 3, 29, 0), (17, .goto 6, 3, 23, 0), (20, .sipush (-1004), 3, 0, 0), (23, .ireturn, 1, 0, 0)]
def zc77 : List (Nat × Instr × Nat × Nat × Nat) := [(0, .iload_n 0, 1, 0, 0), (1, .iload_n 0, 1, 0, 0), (2, .iconst 1, 1, 0, 0), (3, .iushr, 1, 0, 0), (4, .ldc_w 265, 3, 0, 0), (7, .iand, 1, 0, 0), (8, .isub, 1, 0, 0), (9, .istore_n 0, 1, 0, 0), (10, .iload_n 0, 1, 0, 0), (11, .ldc_w 266, 3, 0, 0), (14, .iand, 1, 0, 0), (15, .iload_n 0, 1, 0, 0), (16, .iconst 2, 1, 0, 0), (17, .iushr, 1, 0, 0), (18, .ldc_w 266, 3, 0, 0), (21, .iand, 1, 0, 0), (22, .iadd, 1, 0, 0), (23, .istore_n 0, 1, 0, 0), (24, .iload_n 0, 1, 0, 0), (25, .iload_n 0, 1, 0, 0), (26, .iconst 4, 1, 0, 0), (27, .iushr, 1, 0, 0), (28, .iadd, 1, 0, 0), (29, .ldc_w 267, 3, 0, 0), (32, .iand, 1, 0, 0), (33, .istore_n 0, 1, 0, 0), (34, .iload_n 0, 1, 0, 0), (35, .iload_n 0, 1, 0, 0), (36, .bipush 8, 2, 0, 0), (38, .iushr, 1, 0, 0), (39, .iadd, 1, 0, 0), (40, .istore_n 0, 1, 0, 0), (41, .iload_n 0, 1, 0, 0), (42, .iload_n 0, 1, 0, 0), (43, .bipush 16, 2, 0, 0), (45, .iushr, 1, 0, 0), (46, .iadd, 1, 0, 0), (47, .istore_n 0, 1, 0, 0), (48, .iload_n 0, 1, 0, 0), (49, .bipush 63, 2, 0, 0), (51, .iand, 1, 0, 0), (52, .ireturn, 1, 0, 0)]
def zc78 : List (Nat × Instr × Nat × Nat × Nat) := [(0, .iload_n 0, 1, 0, 0), (1, .iload_n 1, 1, 0, 0), (2, .if_icmp .gt 7, 3, 9, 0), (5, .iload_n 0, 1, 0, 0), (6, .goto 4, 3, 10, 0), (9, .iload_n 1, 1, 0, 0), (10, .ireturn, 1, 0, 0)]
def zc79 : List (Nat × Instr × Nat × Nat × Nat) := [(0, .iload_n 1, 1, 0, 0), (1, .aload_n 0, 1, 0, 0), (2, .arraylength, 1, 0, 0), (3, .if_icmp .ge 9, 3, 12, 0), (6, .aload_n 0, 1, 0, 0), (7, .iload_n 1, 1, 0, 0), (8, .iaload, 1, 0, 0), (9, .goto 10, 3, 19, 0), (12, .ldc 7, 2, 0, 0), (14, .iload_n 1, 1, 0, 0), (15, .imul, 1, 0, 0), (16, .bipush 109, 2, 0, 0), (18, .iadd, 1, 0, 0), (19, .ldc 8, 2, 0, 0), (21, .iand, 1, 0, 0), (22, .ireturn, 1, 0, 0)]
def zc80 : List (Nat × Instr × Nat × Nat × Nat) := [(0, .aload_n 0, 1, 0, 0), (1, .iconst 0, 1, 0, 0), (2, .invokevirtual 9, 3, 60, 1), (5, .istore_n 1, 1, 0, 0), (6, .iconst 0, 1, 0, 0), (7, .istore_n 2, 1, 0, 0), (8, .iconst 0, 1, 0, 0), (9, .istore_n 3, 1, 0, 0), (10, .iconst 0, 1, 0, 0), (11, .istore 4, 2, 0, 0), (13, .aload_n 0, 1, 0, 0), (14, .iconst 0, 1, 0, 0), (15, .invokevirtual 15, 3, 63, 1), (18, .aload_n 0, 1, 0, 0), (19, .bipush 12, 2, 0, 0), (21, .invokevirtual 9, 3, 60, 1), (24, .if_icmp .ne 7, 3, 31, 0), (27, .iconst 1, 1, 0, 0), (28, .goto 4, 3, 32, 0), (31, .iconst 0, 1, 0, 0), (32, .istore 5, 2, 0, 0), (34, .iconst 0, 1, 0, 0), (35, .istore 6, 2, 0, 0), (37, .iload 6, 2, 0, 0), (39, .iload_n 1, 1, 0, 0), (40, .if_icmp .ge 110, 3, 150, 0), (43, .iload 5, 2, 0, 0), (45, .ifCond .eq 105, 3, 150, 0), (48, .aload_n 0, 1, 0, 0), (49, .iload 6, 2, 0, 0), (51, .invokevirtual 15, 3, 63, 1), (54, .istore 7, 2, 0, 0), (56, .iload 7, 2, 0, 0), (58, .ifCond .lt 52, 3, 110, 0), (61, .iload_n 2, 1, 0, 0), (62, .iload 7, 2, 0, 0), (64, .ishr, 1, 0, 0), (65, .iconst 1, 1, 0, 0), (66, .iand, 1, 0, 0), (67, .ifCond .ne 43, 3, 110, 0), (70, .aload_n 0, 1, 0, 0), (71, .iload 7, 2, 0, 0), (73, .iconst 1, 1, 0, 0), (74, .invokevirtual 18, 3, 61, 2), (77, .iload 6, 2, 0, 0), (79, .if_icmp .ne 31, 3, 110, 0), (82, .aload_n 0, 1, 0, 0), (83, .iload 7, 2, 0, 0), (85, .iconst 5, 1, 0, 0), (86, .invokevirtual 18, 3, 61, 2), (89, .aload_n 0, 1, 0, 0), (90, .iload 7, 2, 0, 0), (92, .bipush 6, 2, 0, 0), (94, .invokevirtual 18, 3, 61, 2), (97, .iadd, 1, 0, 0), (98, .aload_n 0, 1, 0, 0), (99, .iconst 4, 1, 0, 0), (100, .invokevirtual 9, 3, 60, 1), (103, .if_icmp .gt 7, 3, 110, 0), (106, .iconst 1, 1, 0, 0), (107, .goto 4, 3, 111, 0), (110, .iconst 0, 1, 0, 0), (111, .istore 5, 2, 0, 0), (113, .iload_n 2, 1, 0, 0), (114, .iconst 1, 1, 0, 0), (115, .iload 7, 2, 0, 0), (117, .ishl, 1, 0, 0), (118, .ior, 1, 0, 0), (119, .istore_n 2, 1, 0, 0), (120, .iload_n 3, 1, 0, 0), (121, .aload_n 0, 1, 0, 0), (122, .iload 7, 2, 0, 0), (124, .bipush 8, 2, 0, 0), (126, .invokevirtual 18, 3, 61, 2), (129, .iadd, 1, 0, 0), (130, .istore_n 3, 1, 0, 0), (131, .iload 4, 2, 0, 0), (133, .aload_n 0, 1, 0, 0), (134, .iload 7, 2, 0, 0), (136, .bipush 9, 2, 0, 0), (138, .invokevirtual 18, 3, 61, 2), (141, .iadd, 1, 0, 0), (142, .istore 4, 2, 0, 0), (144, .iinc 6 1, 3, 0, 0), (147, .goto (-110), 3, 37, 0), (150, .iload 5, 2, 0, 0), (152, .ifCond .eq 60, 3, 212, 0), (155, .iload_n 3, 1, 0, 0), (156, .iload 4, 2, 0, 0), (158, .if_icmp .ne 54, 3, 212, 0), (161, .aload_n 0, 1, 0, 0), (162, .iconst 4, 1, 0, 0), (163, .invokevirtual 9, 3, 60, 1), (166, .aload_n 0, 1, 0, 0), (167, .iconst 3, 1, 0, 0), (168, .invokevirtual 9, 3, 60, 1), (171, .if_icmp .gt 41, 3, 212, 0), (174, .aload_n 0, 1, 0, 0), (175, .iconst 5, 1, 0, 0), (176, .invokevirtual 9, 3, 60, 1), (179, .ifCond .ge 7, 3, 186, 0), (182, .iconst 1, 1, 0, 0), (183, .goto 4, 3, 187, 0), (186, .iconst 0, 1, 0, 0), (187, .aload_n 0, 1, 0, 0), (188, .iconst 4, 1, 0, 0), (189, .invokevirtual 9, 3, 60, 1), (192, .aload_n 0, 1, 0, 0), (193, .iconst 3, 1, 0, 0), (194, .invokevirtual 9, 3, 60, 1), (197, .if_icmp .ne 7, 3, 204, 0), (200, .iconst 1, 1, 0, 0), (201, .goto 4, 3, 205, 0), (204, .iconst 0, 1, 0, 0), (205, .if_icmp .ne 7, 3, 212, 0), (208, .iconst 1, 1, 0, 0), (209, .goto 4, 3, 213, 0), (212, .iconst 0, 1, 0, 0), (213, .istore 5, 2, 0, 0), (215, .iconst 0, 1, 0, 0), (216, .istore 6, 2, 0, 0), (218, .iload 6, 2, 0, 0), (220, .aload_n 0, 1, 0, 0), (221, .iconst 4, 1, 0, 0), (222, .invokevirtual 9, 3, 60, 1), (225, .if_icmp .gt 114, 3, 339, 0), (228, .iload 5, 2, 0, 0), (230, .ifCond .eq 109, 3, 339, 0), (233, .iconst 0, 1, 0, 0), (234, .istore 7, 2, 0, 0), (236, .iconst 0, 1, 0, 0), (237, .istore 8, 2, 0, 0), (239, .iload 8, 2, 0, 0), (241, .iload_n 1, 1, 0, 0), (242, .if_icmp .ge 73, 3, 315, 0), (245, .iload 5, 2, 0, 0), (247, .ifCond .eq 68, 3, 315, 0), (250, .aload_n 0, 1, 0, 0), (251, .iload 8, 2, 0, 0), (253, .iload 6, 2, 0, 0), (255, .invokevirtual 22, 3, 74, 2), (258, .aload_n 0, 1, 0, 0), (259, .iload 8, 2, 0, 0), (261, .iload 6, 2, 0, 0), (263, .invokevirtual 25, 3, 75, 2), (266, .if_icmp .ne 25, 3, 291, 0), (269, .iload 6, 2, 0, 0), (271, .ifCond .gt 16, 3, 287, 0), (274, .aload_n 0, 1, 0, 0), (275, .iload 8, 2, 0, 0), (277, .iload 6, 2, 0, 0), (279, .invokevirtual 22, 3, 74, 2), (282, .iload 8, 2, 0, 0), (284, .if_icmp .ne 7, 3, 291, 0), (287, .iconst 1, 1, 0, 0), (288, .goto 4, 3, 292, 0), (291, .iconst 0, 1, 0, 0), (292, .istore 5, 2, 0, 0), (294, .iload 7, 2, 0, 0), (296, .iconst 1, 1, 0, 0), (297, .aload_n 0, 1, 0, 0), (298, .iload 8, 2, 0, 0), (300, .iload 6, 2, 0, 0), (302, .invokevirtual 22, 3, 74, 2), (305, .ishl, 1, 0, 0), (306, .ior, 1, 0, 0), (307, .istore 7, 2, 0, 0), (309, .iinc 8 1, 3, 0, 0), (312, .goto (-73), 3, 239, 0), (315, .iload 5, 2, 0, 0), (317, .ifCond .eq 13, 3, 330, 0), (320, .iload 7, 2, 0, 0), (322, .iload_n 2, 1, 0, 0), (323, .if_icmp .ne 7, 3, 330, 0), (326, .iconst 1, 1, 0, 0), (327, .goto 4, 3, 331, 0), (330, .iconst 0, 1, 0, 0), (331, .istore 5, 2, 0, 0), (333, .iinc 6 1, 3, 0, 0), (336, .goto (-118), 3, 218, 0), (339, .iconst 0, 1, 0, 0), (340, .istore 6, 2, 0, 0), (342, .iconst 0, 1, 0, 0), (343, .istore 7, 2, 0, 0), (345, .aload_n 0, 1, 0, 0), (346, .iload 7, 2, 0, 0), (348, .invokevirtual 28, 3, 64, 1), (351, .ifCond .lt 87, 3, 438, 0), (354, .iload 5, 2, 0, 0), (356, .ifCond .eq 82, 3, 438, 0), (359, .aload_n 0, 1, 0, 0), (360, .aload_n 0, 1, 0, 0), (361, .iload 7, 2, 0, 0), (363, .invokevirtual 28, 3, 64, 1), (366, .iconst 3, 1, 0, 0), (367, .invokevirtual 18, 3, 61, 2), (370, .iload 7, 2, 0, 0), (372, .if_icmp .ne 41, 3, 413, 0), (375, .iload 7, 2, 0, 0), (377, .ifCond .eq 32, 3, 409, 0), (380, .aload_n 0, 1, 0, 0), (381, .aload_n 0, 1, 0, 0), (382, .iload 7, 2, 0, 0), (384, .invokevirtual 28, 3, 64, 1), (387, .iconst 1, 1, 0, 0), (388, .invokevirtual 18, 3, 61, 2), (391, .aload_n 0, 1, 0, 0), (392, .aload_n 0, 1, 0, 0), (393, .iload 7, 2, 0, 0), (395, .iconst 1, 1, 0, 0), (396, .isub, 1, 0, 0), (397, .invokevirtual 28, 3, 64, 1), (400, .iconst 1, 1, 0, 0), (401, .invokevirtual 18, 3, 61, 2), (404, .iconst 1, 1, 0, 0), (405, .iadd, 1, 0, 0), (406, .if_icmp .ne 7, 3, 413, 0), (409, .iconst 1, 1, 0, 0), (410, .goto 4, 3, 414, 0), (413, .iconst 0, 1, 0, 0), (414, .istore 5, 2, 0, 0), (416, .iload 6, 2, 0, 0), (418, .aload_n 0, 1, 0, 0), (419, .aload_n 0, 1, 0, 0), (420, .iload 7, 2, 0, 0), (422, .invokevirtual 28, 3, 64, 1), (425, .iconst 4, 1, 0, 0), (426, .invokevirtual 18, 3, 61, 2), (429, .iadd, 1, 0, 0), (430, .istore 6, 2, 0, 0), (432, .iinc 7 1, 3, 0, 0), (435, .goto (-90), 3, 345, 0), (438, .iload 5, 2, 0, 0), (440, .ifCond .eq 29, 3, 469, 0), (443, .aload_n 0, 1, 0, 0), (444, .bipush 6, 2, 0, 0), (446, .invokevirtual 9, 3, 60, 1), (449, .ifCond .lt 16, 3, 465, 0), (452, .iload 6, 2, 0, 0), (454, .iconst 2, 1, 0, 0), (455, .aload_n 0, 1, 0, 0), (456, .bipush 6, 2, 0, 0), (458, .invokevirtual 9, 3, 60, 1), (461, .imul, 1, 0, 0), (462, .if_icmp .ne 7, 3, 469, 0), (465, .iconst 1, 1, 0, 0), (466, .goto 4, 3, 470, 0), (469, .iconst 0, 1, 0, 0), (470, .ireturn, 1, 0, 0)]
def zc81 : List (Nat × Instr × Nat × Nat × Nat) := [(0, .iconst 1, 1, 0, 0), (1, .istore_n 3, 1, 0, 0), (2, .iconst 0, 1, 0, 0), (3, .istore 4, 2, 0, 0), (5, .iload 4, 2, 0, 0), (7, .bipush 6, 2, 0, 0), (9, .if_icmp .ge 165, 3, 174, 0), (12, .iload_n 3, 1, 0, 0), (13, .ifCond .eq 161, 3, 174, 0), (16, .aload_n 1, 1, 0, 0), (17, .iload_n 2, 1, 0, 0), (18, .iload 4, 2, 0, 0), (20, .iadd, 1, 0, 0), (21, .invokestatic 31, 3, 79, 2), (24, .istore 5, 2, 0, 0), (26, .aload_n 0, 1, 0, 0), (27, .bipush 7, 2, 0, 0), (29, .invokevirtual 9, 3, 60, 1), (32, .istore 6, 2, 0, 0), (34, .aload_n 0, 1, 0, 0), (35, .iload 5, 2, 0, 0), (37, .iload 6, 2, 0, 0), (39, .irem, 1, 0, 0), (40, .invokevirtual 28, 3, 64, 1), (43, .istore 7, 2, 0, 0), (45, .aload_n 0, 1, 0, 0), (46, .iload 5, 2, 0, 0), (48, .bipush 16, 2, 0, 0), (50, .idiv, 1, 0, 0), (51, .iload 6, 2, 0, 0), (53, .irem, 1, 0, 0), (54, .invokevirtual 28, 3, 64, 1), (57, .istore 8, 2, 0, 0), (59, .aload_n 0, 1, 0, 0), (60, .bipush 6, 2, 0, 0), (62, .invokevirtual 9, 3, 60, 1), (65, .istore 9, 2, 0, 0), (67, .aload_n 0, 1, 0, 0), (68, .iload 7, 2, 0, 0), (70, .iload 8, 2, 0, 0), (72, .invokevirtual 37, 3, 66, 2), (75, .istore 10, 2, 0, 0), (77, .aload_n 0, 1, 0, 0), (78, .iload 7, 2, 0, 0), (80, .iload 8, 2, 0, 0), (82, .invokevirtual 40, 3, 65, 2), (85, .istore 11, 2, 0, 0), (87, .iload 10, 2, 0, 0), (89, .ifCond .ne 54, 3, 143, 0), (92, .iload 11, 2, 0, 0), (94, .iload 9, 2, 0, 0), (96, .if_icmp .ne 43, 3, 139, 0), (99, .aload_n 0, 1, 0, 0), (100, .iload 11, 2, 0, 0), (102, .iconst 0, 1, 0, 0), (103, .invokevirtual 43, 3, 67, 2), (106, .iload 7, 2, 0, 0), (108, .if_icmp .ne 31, 3, 139, 0), (111, .aload_n 0, 1, 0, 0), (112, .iload 11, 2, 0, 0), (114, .iconst 1, 1, 0, 0), (115, .invokevirtual 43, 3, 67, 2), (118, .iload 8, 2, 0, 0), (120, .if_icmp .ne 19, 3, 139, 0), (123, .aload_n 0, 1, 0, 0), (124, .iload 8, 2, 0, 0), (126, .iload 7, 2, 0, 0), (128, .invokevirtual 37, 3, 66, 2), (131, .iconst 3, 1, 0, 0), (132, .if_icmp .ne 7, 3, 139, 0), (135, .iconst 1, 1, 0, 0), (136, .goto 31, 3, 167, 0), (139, .iconst 0, 1, 0, 0), (140, .goto 27, 3, 167, 0), (143, .iload 11, 2, 0, 0), (145, .sipush (-1002), 3, 0, 0), (148, .if_icmp .ne 18, 3, 166, 0), (151, .aload_n 0, 1, 0, 0), (152, .bipush 6, 2, 0, 0), (154, .invokevirtual 9, 3, 60, 1), (157, .iload 9, 2, 0, 0), (159, .if_icmp .ne 7, 3, 166, 0), (162, .iconst 1, 1, 0, 0), (163, .goto 4, 3, 167, 0), (166, .iconst 0, 1, 0, 0), (167, .istore_n 3, 1, 0, 0), (168, .iinc 4 1, 3, 0, 0), (171, .goto (-166), 3, 5, 0), (174, .aload_n 0, 1, 0, 0), (175, .bipush 6, 2, 0, 0), (177, .invokevirtual 9, 3, 60, 1), (180, .istore 4, 2, 0, 0), (182, .iload_n 3, 1, 0, 0), (183, .ifCond .eq 102, 3, 285, 0), (186, .iload 4, 2, 0, 0), (188, .ifCond .le 97, 3, 285, 0), (191, .aload_n 0, 1, 0, 0), (192, .iconst 0, 1, 0, 0), (193, .invokevirtual 46, 3, 68, 1), (196, .istore 5, 2, 0, 0), (198, .iload 5, 2, 0, 0), (200, .iconst 1, 1, 0, 0), (201, .if_icmp .lt 53, 3, 254, 0), (204, .iload 5, 2, 0, 0), (206, .iload 4, 2, 0, 0), (208, .if_icmp .gt 46, 3, 254, 0), (211, .aload_n 0, 1, 0, 0), (212, .bipush 6, 2, 0, 0), (214, .invokevirtual 9, 3, 60, 1), (217, .iload 4, 2, 0, 0), (219, .iload 5, 2, 0, 0), (221, .isub, 1, 0, 0), (222, .if_icmp .ne 32, 3, 254, 0), (225, .aload_n 0, 1, 0, 0), (226, .invokestatic 49, 3, 80, 1), (229, .ifCond .eq 25, 3, 254, 0), (232, .aload_n 0, 1, 0, 0), (233, .invokevirtual 53, 3, 70, 0), (236, .ifCond .lt 18, 3, 254, 0), (239, .aload_n 0, 1, 0, 0), (240, .bipush 6, 2, 0, 0), (242, .invokevirtual 9, 3, 60, 1), (245, .iload 4, 2, 0, 0), (247, .if_icmp .ne 7, 3, 254, 0), (250, .iconst 1, 1, 0, 0), (251, .goto 4, 3, 255, 0), (254, .iconst 0, 1, 0, 0), (255, .istore_n 3, 1, 0, 0), (256, .iload_n 3, 1, 0, 0), (257, .ifCond .eq 26, 3, 283, 0), (260, .aload_n 0, 1, 0, 0), (261, .iload 4, 2, 0, 0), (263, .iconst 1, 1, 0, 0), (264, .isub, 1, 0, 0), (265, .invokevirtual 46, 3, 68, 1), (268, .iconst 1, 1, 0, 0), (269, .if_icmp .ne 14, 3, 283, 0), (272, .aload_n 0, 1, 0, 0), (273, .invokevirtual 53, 3, 70, 0), (276, .ifCond .lt 7, 3, 283, 0), (279, .iconst 1, 1, 0, 0), (280, .goto 4, 3, 284, 0), (283, .iconst 0, 1, 0, 0), (284, .istore_n 3, 1, 0, 0), (285, .aload_n 0, 1, 0, 0), (286, .bipush 12, 2, 0, 0), (288, .invokevirtual 9, 3, 60, 1), (291, .istore 5, 2, 0, 0), (293, .iload_n 3, 1, 0, 0), (294, .ifCond .eq 14, 3, 308, 0), (297, .aload_n 0, 1, 0, 0), (298, .invokestatic 49, 3, 80, 1), (301, .ifCond .eq 7, 3, 308, 0), (304, .iconst 1, 1, 0, 0), (305, .goto 4, 3, 309, 0), (308, .iconst 0, 1, 0, 0), (309, .istore_n 3, 1, 0, 0), (310, .aload_n 0, 1, 0, 0), (311, .iconst 5, 1, 0, 0), (312, .invokevirtual 9, 3, 60, 1), (315, .istore 6, 2, 0, 0), (317, .aload_n 0, 1, 0, 0), (318, .iconst 4, 1, 0, 0), (319, .invokevirtual 9, 3, 60, 1), (322, .istore 7, 2, 0, 0), (324, .iload_n 3, 1, 0, 0), (325, .ifCond .eq 23, 3, 348, 0), (328, .aload_n 0, 1, 0, 0), (329, .invokevirtual 57, 3, 69, 0), (332, .iload 4, 2, 0, 0), (334, .if_icmp .ne 14, 3, 348, 0), (337, .aload_n 0, 1, 0, 0), (338, .invokestatic 49, 3, 80, 1), (341, .ifCond .eq 7, 3, 348, 0), (344, .iconst 1, 1, 0, 0), (345, .goto 4, 3, 349, 0), (348, .iconst 0, 1, 0, 0), (349, .istore_n 3, 1, 0, 0), (350, .iload_n 3, 1, 0, 0), (351, .ifCond .eq 60, 3, 411, 0), (354, .iload 6, 2, 0, 0), (356, .ifCond .le 39, 3, 395, 0), (359, .aload_n 0, 1, 0, 0), (360, .iconst 5, 1, 0, 0), (361, .invokevirtual 9, 3, 60, 1), (364, .iload 6, 2, 0, 0), (366, .iconst 1, 1, 0, 0), (367, .isub, 1, 0, 0), (368, .if_icmp .ne 43, 3, 411, 0), (371, .aload_n 0, 1, 0, 0), (372, .bipush 12, 2, 0, 0), (374, .invokevirtual 9, 3, 60, 1), (377, .iload 5, 2, 0, 0), (379, .if_icmp .ne 32, 3, 411, 0), (382, .aload_n 0, 1, 0, 0), (383, .iconst 4, 1, 0, 0), (384, .invokevirtual 9, 3, 60, 1), (387, .iload 7, 2, 0, 0), (389, .if_icmp .ne 22, 3, 411, 0), (392, .goto 15, 3, 407, 0), (395, .aload_n 0, 1, 0, 0), (396, .iconst 4, 1, 0, 0), (397, .invokevirtual 9, 3, 60, 1), (400, .iload 7, 2, 0, 0), (402, .iconst 1, 1, 0, 0), (403, .iadd, 1, 0, 0), (404, .if_icmp .ne 7, 3, 411, 0), (407, .iconst 1, 1, 0, 0), (408, .goto 4, 3, 412, 0), (411, .iconst 0, 1, 0, 0), (412, .ireturn, 1, 0, 0)]
def zc82 : List (Nat × Instr × Nat × Nat × Nat) := [(0, .new 10, 3, 7, 0), (3, .dup, 1, 0, 0), (4, .invokespecial 60, 3, 57, 0), (7, .astore_n 1, 1, 0, 0), (8, .aload_n 1, 1, 0, 0), (9, .iconst 2, 1, 0, 0), (10, .aload_n 0, 1, 0, 0), (11, .iconst 0, 1, 0, 0), (12, .invokestatic 31, 3, 79, 2), (15, .bipush 23, 2, 0, 0), (17, .irem, 1, 0, 0), (18, .iadd, 1, 0, 0), (19, .iconst 3, 1, 0, 0), (20, .aload_n 0, 1, 0, 0), (21, .iconst 1, 1, 0, 0), (22, .invokestatic 31, 3, 79, 2), (25, .bipush 6, 2, 0, 0), (27, .irem, 1, 0, 0), (28, .iadd, 1, 0, 0), (29, .iconst 1, 1, 0, 0), (30, .aload_n 0, 1, 0, 0), (31, .iconst 2, 1, 0, 0), (32, .invokestatic 31, 3, 79, 2), (35, .iconst 4, 1, 0, 0), (36, .irem, 1, 0, 0), (37, .iadd, 1, 0, 0), (38, .invokevirtual 61, 3, 58, 3), (41, .istore_n 2, 1, 0, 0), (42, .iload_n 2, 1, 0, 0), (43, .aload_n 1, 1, 0, 0), (44, .iconst 2, 1, 0, 0), (45, .invokevirtual 9, 3, 60, 1), (48, .if_icmp .ne 14, 3, 62, 0), (51, .aload_n 1, 1, 0, 0), (52, .invokestatic 49, 3, 80, 1), (55, .ifCond .eq 7, 3, 62, 0), (58, .iconst 1, 1, 0, 0), (59, .goto 4, 3, 63, 0), (62, .iconst 0, 1, 0, 0), (63, .istore_n 3, 1, 0, 0), (64, .iconst 0, 1, 0, 0), (65, .istore 4, 2, 0, 0), (67, .iload 4, 2, 0, 0), (69, .aload_n 1, 1, 0, 0), (70, .iconst 0, 1, 0, 0), (71, .invokevirtual 9, 3, 60, 1), (74, .if_icmp .ge 45, 3, 119, 0), (77, .iload_n 3, 1, 0, 0), (78, .ifCond .eq 41, 3, 119, 0), (81, .aload_n 1, 1, 0, 0), (82, .iload 4, 2, 0, 0), (84, .iconst 1, 1, 0, 0), (85, .aload_n 0, 1, 0, 0), (86, .iconst 3, 1, 0, 0), (87, .iload 4, 2, 0, 0), (89, .iadd, 1, 0, 0), (90, .invokestatic 31, 3, 79, 2), (93, .sipush 1000, 3, 0, 0), (96, .irem, 1, 0, 0), (97, .iadd, 1, 0, 0), (98, .invokevirtual 65, 3, 59, 2), (101, .sipush 400, 3, 0, 0), (104, .if_icmp .ne 7, 3, 111, 0), (107, .iconst 1, 1, 0, 0), (108, .goto 4, 3, 112, 0), (111, .iconst 0, 1, 0, 0), (112, .istore_n 3, 1, 0, 0), (113, .iinc 4 1, 3, 0, 0), (116, .goto (-49), 3, 67, 0), (119, .iconst 0, 1, 0, 0), (120, .istore 4, 2, 0, 0), (122, .iload 4, 2, 0, 0), (124, .bipush 14, 2, 0, 0), (126, .if_icmp .ge 110, 3, 236, 0), (129, .iload_n 3, 1, 0, 0), (130, .ifCond .eq 106, 3, 236, 0), (133, .aload_n 1, 1, 0, 0), (134, .iconst 5, 1, 0, 0), (135, .invokevirtual 9, 3, 60, 1), (138, .ifCond .lt 98, 3, 236, 0), (141, .aload_n 0, 1, 0, 0), (142, .bipush 27, 2, 0, 0), (144, .iload 4, 2, 0, 0), (146, .iadd, 1, 0, 0), (147, .invokestatic 31, 3, 79, 2), (150, .iconst 3, 1, 0, 0), (151, .irem, 1, 0, 0), (152, .ifCond .ne 64, 3, 216, 0), (155, .aload_n 1, 1, 0, 0), (156, .iconst 0, 1, 0, 0), (157, .iconst 0, 1, 0, 0), (158, .invokevirtual 68, 3, 71, 2), (161, .istore 5, 2, 0, 0), (163, .aload_n 1, 1, 0, 0), (164, .invokevirtual 71, 3, 72, 0), (167, .istore 6, 2, 0, 0), (169, .iload 6, 2, 0, 0), (171, .ifCond .lt 40, 3, 211, 0), (174, .iload 5, 2, 0, 0), (176, .sipush (-1004), 3, 0, 0), (179, .if_icmp .ne 7, 3, 186, 0), (182, .iconst 1, 1, 0, 0), (183, .goto 4, 3, 187, 0), (186, .iconst 0, 1, 0, 0), (187, .iload 6, 2, 0, 0), (189, .ifCond .ne 7, 3, 196, 0), (192, .iconst 1, 1, 0, 0), (193, .goto 4, 3, 197, 0), (196, .iconst 0, 1, 0, 0), (197, .if_icmp .ne 14, 3, 211, 0), (200, .aload_n 1, 1, 0, 0), (201, .invokestatic 49, 3, 80, 1), (204, .ifCond .eq 7, 3, 211, 0), (207, .iconst 1, 1, 0, 0), (208, .goto 4, 3, 212, 0), (211, .iconst 0, 1, 0, 0), (212, .istore_n 3, 1, 0, 0), (213, .goto 17, 3, 230, 0), (216, .aload_n 1, 1, 0, 0), (217, .aload_n 0, 1, 0, 0), (218, .bipush 41, 2, 0, 0), (220, .bipush 6, 2, 0, 0), (222, .iload 4, 2, 0, 0), (224, .imul, 1, 0, 0), (225, .iadd, 1, 0, 0), (226, .invokestatic 74, 3, 81, 3), (229, .istore_n 3, 1, 0, 0), (230, .iinc 4 1, 3, 0, 0), (233, .goto (-111), 3, 122, 0), (236, .aload_n 1, 1, 0, 0), (237, .invokevirtual 78, 3, 76, 0), (240, .istore 4, 2, 0, 0), (242, .iload_n 3, 1, 0, 0), (243, .ifCond .eq 36, 3, 279, 0), (246, .iload 4, 2, 0, 0), (248, .sipush (-1004), 3, 0, 0), (251, .if_icmp .ne 7, 3, 258, 0), (254, .iconst 1, 1, 0, 0), (255, .goto 4, 3, 259, 0), (258, .iconst 0, 1, 0, 0), (259, .aload_n 1, 1, 0, 0), (260, .iconst 4, 1, 0, 0), (261, .invokevirtual 9, 3, 60, 1), (264, .ifCond .ne 7, 3, 271, 0), (267, .iconst 1, 1, 0, 0), (268, .goto 4, 3, 272, 0), (271, .iconst 0, 1, 0, 0), (272, .if_icmp .ne 7, 3, 279, 0), (275, .iconst 1, 1, 0, 0), (276, .goto 4, 3, 280, 0), (279, .iconst 0, 1, 0, 0), (280, .istore_n 3, 1, 0, 0), (281, .iconst 0, 1, 0, 0), (282, .istore 5, 2, 0, 0), (284, .iload 5, 2, 0, 0), (286, .aload_n 1, 1, 0, 0), (287, .iconst 0, 1, 0, 0), (288, .invokevirtual 9, 3, 60, 1), (291, .if_icmp .ge 56, 3, 347, 0), (294, .iload_n 3, 1, 0, 0), (295, .ifCond .eq 52, 3, 347, 0), (298, .iload 4, 2, 0, 0), (300, .ifCond .lt 47, 3, 347, 0), (303, .aload_n 1, 1, 0, 0), (304, .iconst 4, 1, 0, 0), (305, .invokevirtual 9, 3, 60, 1), (308, .istore 6, 2, 0, 0), (310, .iload 5, 2, 0, 0), (312, .aload_n 1, 1, 0, 0), (313, .iload 5, 2, 0, 0), (315, .iload 6, 2, 0, 0), (317, .invokevirtual 22, 3, 74, 2), (320, .isub, 1, 0, 0), (321, .iload 4, 2, 0, 0), (323, .aload_n 1, 1, 0, 0), (324, .iload 4, 2, 0, 0), (326, .iload 6, 2, 0, 0), (328, .invokevirtual 22, 3, 74, 2), (331, .isub, 1, 0, 0), (332, .if_icmp .gt 7, 3, 339, 0), (335, .iconst 1, 1, 0, 0), (336, .goto 4, 3, 340, 0), (339, .iconst 0, 1, 0, 0), (340, .istore_n 3, 1, 0, 0), (341, .iinc 5 1, 3, 0, 0), (344, .goto (-60), 3, 284, 0), (347, .aload_n 1, 1, 0, 0), (348, .bipush 10, 2, 0, 0), (350, .invokevirtual 9, 3, 60, 1), (353, .istore 5, 2, 0, 0), (355, .iload_n 3, 1, 0, 0), (356, .ifCond .eq 30, 3, 386, 0), (359, .iload 5, 2, 0, 0), (361, .ifCond .le 25, 3, 386, 0), (364, .aload_n 1, 1, 0, 0), (365, .invokevirtual 53, 3, 70, 0), (368, .iload 5, 2, 0, 0), (370, .iconst 1, 1, 0, 0), (371, .isub, 1, 0, 0), (372, .if_icmp .ne 14, 3, 386, 0), (375, .aload_n 1, 1, 0, 0), (376, .invokestatic 49, 3, 80, 1), (379, .ifCond .eq 7, 3, 386, 0), (382, .iconst 1, 1, 0, 0), (383, .goto 4, 3, 387, 0), (386, .iconst 0, 1, 0, 0), (387, .ireturn, 1, 0, 0)]
def zcode (y : Nat) : List (Nat × Instr × Nat × Nat × Nat) := (bif Nat.ble y 41 then (bif Nat.ble y 20 then (bif Nat.ble y 10 then (bif Nat.ble y 5 then (bif Nat.ble y 2 then (bif Nat.ble y 1 then (bif Nat.ble y 0 then zc0 else zc1) else zc2) else (bif Nat.ble y 4 then (bif Nat.ble y 3 then zc3 else zc4) else zc5)) else (bif Nat.ble y 8 then (bif Nat.ble y 7 then (bif Nat.ble y 6 then zc6 else zc7) else zc8) else (bif Nat.ble y 9 then zc9 else zc10))) else (bif Nat.ble y 15 then (bif Nat.ble y 13 then (bif Nat.ble y 12 then (bif Nat.ble y 11 then zc11 else zc12) else zc13) else (bif Nat.ble y 14 then zc14 else zc15)) else (bif Nat.ble y 18 then (bif Nat.ble y 17 then (bif Nat.ble y 16 then zc16 else zc17) else zc18) else (bif Nat.ble y 19 then zc19 else zc20)))) else (bif Nat.ble y 31 then (bif Nat.ble y 26 then (bif Nat.ble y 23 then (bif Nat.ble y 22 then (bif Nat.ble y 21 then zc21 else zc22) else zc23) else (bif Nat.ble y 25 then (bif Nat.ble y 24 then zc24 else zc25) else zc26)) else (bif Nat.ble y 29 then (bif Nat.ble y 28 then (bif Nat.ble y 27 then zc27 else zc28) else zc29) else (bif Nat.ble y 30 then zc30 else zc31))) else (bif Nat.ble y 36 then (bif Nat.ble y 34 then (bif Nat.ble y 33 then (bif Nat.ble y 32 then zc32 else zc33) else zc34) else (bif Nat.ble y 35 then zc35 else zc36)) else (bif Nat.ble y 39 then (bif Nat.ble y 38 then (bif Nat.ble y 37 then zc37 else zc38) else zc39) else (bif Nat.ble y 40 then zc40 else zc41))))) else (bif Nat.ble y 62 then (bif Nat.ble y 52 then (bif Nat.ble y 47 then (bif Nat.ble y 44 then (bif Nat.ble y 43 then (bif Nat.ble y 42 then zc42 else zc43) else zc44) else (bif Nat.ble y 46 then (bif Nat.ble y 45 then zc45 else zc46) else zc47)) else (bif Nat.ble y 50 then (bif Nat.ble y 49 then (bif Nat.ble y 48 then zc48 else zc49) else zc50) else (bif Nat.ble y 51 then zc51 else zc52))) else (bif Nat.ble y 57 then (bif Nat.ble y 55 then (bif Nat.ble y 54 then (bif Nat.ble y 53 then zc53 else zc54) else zc55) else (bif Nat.ble y 56 then zc56 else zc57)) else (bif Nat.ble y 60 then (bif Nat.ble y 59 then (bif Nat.ble y 58 then zc58 else zc59) else zc60) else (bif Nat.ble y 61 then zc61 else zc62)))) else (bif Nat.ble y 72 then (bif Nat.ble y 67 then (bif Nat.ble y 65 then (bif Nat.ble y 64 then (bif Nat.ble y 63 then zc63 else zc64) else zc65) else (bif Nat.ble y 66 then zc66 else zc67)) else (bif Nat.ble y 70 then (bif Nat.ble y 69 then (bif Nat.ble y 68 then zc68 else zc69) else zc70) else (bif Nat.ble y 71 then zc71 else zc72))) else (bif Nat.ble y 77 then (bif Nat.ble y 75 then (bif Nat.ble y 74 then (bif Nat.ble y 73 then zc73 else zc74) else zc75) else (bif Nat.ble y 76 then zc76 else zc77)) else (bif Nat.ble y 80 then (bif Nat.ble y 79 then (bif Nat.ble y 78 then zc78 else zc79) else zc80) else (bif Nat.ble y 81 then zc81 else zc82))))))
def zb (y : Nat) : ByteArray := (bif Nat.ble y 41 then (bif Nat.ble y 20 then (bif Nat.ble y 10 then (bif Nat.ble y 5 then (bif Nat.ble y 2 then (bif Nat.ble y 1 then (bif Nat.ble y 0 then cX0_init else cX0_get) else cX0_put) else (bif Nat.ble y 4 then (bif Nat.ble y 3 then cX0_copyFrom else cX1_init) else cX1_startAnew)) else (bif Nat.ble y 8 then (bif Nat.ble y 7 then (bif Nat.ble y 6 then cX1_hasCrew else cX1_hasDay) else cX1_hasRace) else (bif Nat.ble y 9 then cX1_divisions else cX1_divisionOf))) else (bif Nat.ble y 15 then (bif Nat.ble y 13 then (bif Nat.ble y 12 then (bif Nat.ble y 11 then cX1_putAt else cX1_starters) else cX1_starterAt) else (bif Nat.ble y 14 then cX1_startNumber else cX1_isStarter)) else (bif Nat.ble y 18 then (bif Nat.ble y 17 then (bif Nat.ble y 16 then cX1_reasonAgainst else cX1_span) else cX1_withThoseThatNeed) else (bif Nat.ble y 19 then cX1_neededBy else cX1_liesWithin)))) else (bif Nat.ble y 31 then (bif Nat.ble y 26 then (bif Nat.ble y 23 then (bif Nat.ble y 22 then (bif Nat.ble y 21 then cX1_endRace else cX1_exchange) else cX1_endDay) else (bif Nat.ble y 25 then (bif Nat.ble y 24 then cX1_notePlaces else cX1_placeAfter) else cX1_daysRisen)) else (bif Nat.ble y 29 then (bif Nat.ble y 28 then (bif Nat.ble y 27 then cX1_daysFallen else cX1_award) else cX1_bestRiser) else (bif Nat.ble y 30 then cX1_copyFrom else cX2_init))) else (bif Nat.ble y 36 then (bif Nat.ble y 34 then (bif Nat.ble y 33 then (bif Nat.ble y 32 then cX2_foretell else cX2_foretellWith) else cX2_findNext) else (bif Nat.ble y 35 then cX2_add else cX2_timeOf)) else (bif Nat.ble y 39 then (bif Nat.ble y 38 then (bif Nat.ble y 37 then cX3_init else cX3_keep) else cX3_moveOldestToEnd) else (bif Nat.ble y 40 then cX3_latest else cX3_dropLatest))))) else (bif Nat.ble y 62 then (bif Nat.ble y 52 then (bif Nat.ble y 47 then (bif Nat.ble y 44 then (bif Nat.ble y 43 then (bif Nat.ble y 42 then cX4_init else cX4_empty) else cX4_add) else (bif Nat.ble y 46 then (bif Nat.ble y 45 then cX4_madeBy else cX4_madeOn) else cX4_countOf)) else (bif Nat.ble y 50 then (bif Nat.ble y 49 then (bif Nat.ble y 48 then cX4_follow else cX4_copyFrom) else cX5_init) else (bif Nat.ble y 51 then cX5_has else cX5_add))) else (bif Nat.ble y 57 then (bif Nat.ble y 55 then (bif Nat.ble y 54 then (bif Nat.ble y 53 then cX5_isOut else cX5_takeBack) else cX5_copyFrom) else (bif Nat.ble y 56 then cX6_init else cX7_init)) else (bif Nat.ble y 60 then (bif Nat.ble y 59 then (bif Nat.ble y 58 then cX7_begin else cX7_setSpeed) else cX7_count) else (bif Nat.ble y 61 then cX7_crew else cX7_outFlag)))) else (bif Nat.ble y 72 then (bif Nat.ble y 67 then (bif Nat.ble y 65 then (bif Nat.ble y 64 then (bif Nat.ble y 63 then cX7_at else cX7_starter) else cX7_bump) else (bif Nat.ble y 66 then cX7_why else cX7_bumped)) else (bif Nat.ble y 70 then (bif Nat.ble y 69 then (bif Nat.ble y 68 then cX7_rerow else cX7_finish) else cX7_undo) else (bif Nat.ble y 71 then cX7_foretold else cX7_row))) else (bif Nat.ble y 77 then (bif Nat.ble y 75 then (bif Nat.ble y 74 then (bif Nat.ble y 73 then cX7_floatBits else cX7_place) else cX7_again) else (bif Nat.ble y 76 then cX7_bestRise else cJ6_bitCount_0f7a4)) else (bif Nat.ble y 80 then (bif Nat.ble y 79 then (bif Nat.ble y 78 then cJ9_min_7cf53 else cL_cell) else cL_holds) else (bif Nat.ble y 81 then cL_raced else cL_law))))))
def zname (y : Nat) : MethodName := (bif Nat.ble y 41 then (bif Nat.ble y 20 then (bif Nat.ble y 10 then (bif Nat.ble y 5 then (bif Nat.ble y 2 then (bif Nat.ble y 1 then (bif Nat.ble y 0 then yX0_init else yX0_get) else yX0_put) else (bif Nat.ble y 4 then (bif Nat.ble y 3 then yX0_copyFrom else yX1_init) else yX1_startAnew)) else (bif Nat.ble y 8 then (bif Nat.ble y 7 then (bif Nat.ble y 6 then yX1_hasCrew else yX1_hasDay) else yX1_hasRace) else (bif Nat.ble y 9 then yX1_divisions else yX1_divisionOf))) else (bif Nat.ble y 15 then (bif Nat.ble y 13 then (bif Nat.ble y 12 then (bif Nat.ble y 11 then yX1_putAt else yX1_starters) else yX1_starterAt) else (bif Nat.ble y 14 then yX1_startNumber else yX1_isStarter)) else (bif Nat.ble y 18 then (bif Nat.ble y 17 then (bif Nat.ble y 16 then yX1_reasonAgainst else yX1_span) else yX1_withThoseThatNeed) else (bif Nat.ble y 19 then yX1_neededBy else yX1_liesWithin)))) else (bif Nat.ble y 31 then (bif Nat.ble y 26 then (bif Nat.ble y 23 then (bif Nat.ble y 22 then (bif Nat.ble y 21 then yX1_endRace else yX1_exchange) else yX1_endDay) else (bif Nat.ble y 25 then (bif Nat.ble y 24 then yX1_notePlaces else yX1_placeAfter) else yX1_daysRisen)) else (bif Nat.ble y 29 then (bif Nat.ble y 28 then (bif Nat.ble y 27 then yX1_daysFallen else yX1_award) else yX1_bestRiser) else (bif Nat.ble y 30 then yX1_copyFrom else yX2_init))) else (bif Nat.ble y 36 then (bif Nat.ble y 34 then (bif Nat.ble y 33 then (bif Nat.ble y 32 then yX2_foretell else yX2_foretellWith) else yX2_findNext) else (bif Nat.ble y 35 then yX2_add else yX2_timeOf)) else (bif Nat.ble y 39 then (bif Nat.ble y 38 then (bif Nat.ble y 37 then yX3_init else yX3_keep) else yX3_moveOldestToEnd) else (bif Nat.ble y 40 then yX3_latest else yX3_dropLatest))))) else (bif Nat.ble y 62 then (bif Nat.ble y 52 then (bif Nat.ble y 47 then (bif Nat.ble y 44 then (bif Nat.ble y 43 then (bif Nat.ble y 42 then yX4_init else yX4_empty) else yX4_add) else (bif Nat.ble y 46 then (bif Nat.ble y 45 then yX4_madeBy else yX4_madeOn) else yX4_countOf)) else (bif Nat.ble y 50 then (bif Nat.ble y 49 then (bif Nat.ble y 48 then yX4_follow else yX4_copyFrom) else yX5_init) else (bif Nat.ble y 51 then yX5_has else yX5_add))) else (bif Nat.ble y 57 then (bif Nat.ble y 55 then (bif Nat.ble y 54 then (bif Nat.ble y 53 then yX5_isOut else yX5_takeBack) else yX5_copyFrom) else (bif Nat.ble y 56 then yX6_init else yX7_init)) else (bif Nat.ble y 60 then (bif Nat.ble y 59 then (bif Nat.ble y 58 then yX7_begin else yX7_setSpeed) else yX7_count) else (bif Nat.ble y 61 then yX7_crew else yX7_outFlag)))) else (bif Nat.ble y 72 then (bif Nat.ble y 67 then (bif Nat.ble y 65 then (bif Nat.ble y 64 then (bif Nat.ble y 63 then yX7_at else yX7_starter) else yX7_bump) else (bif Nat.ble y 66 then yX7_why else yX7_bumped)) else (bif Nat.ble y 70 then (bif Nat.ble y 69 then (bif Nat.ble y 68 then yX7_rerow else yX7_finish) else yX7_undo) else (bif Nat.ble y 71 then yX7_foretold else yX7_row))) else (bif Nat.ble y 77 then (bif Nat.ble y 75 then (bif Nat.ble y 74 then (bif Nat.ble y 73 then yX7_floatBits else yX7_place) else yX7_again) else (bif Nat.ble y 76 then yX7_bestRise else yJ6_bitCount_0f7a4)) else (bif Nat.ble y 80 then (bif Nat.ble y 79 then (bif Nat.ble y 78 then yJ9_min_7cf53 else yL_cell) else yL_holds) else (bif Nat.ble y 81 then yL_raced else yL_law))))))
def zml (y : Nat) : Nat := (bif Nat.ble y 41 then (bif Nat.ble y 20 then (bif Nat.ble y 10 then (bif Nat.ble y 5 then (bif Nat.ble y 2 then (bif Nat.ble y 1 then (bif Nat.ble y 0 then 2 else 2) else 3) else (bif Nat.ble y 4 then (bif Nat.ble y 3 then 2 else 1) else 5)) else (bif Nat.ble y 8 then (bif Nat.ble y 7 then (bif Nat.ble y 6 then 2 else 2) else 1) else (bif Nat.ble y 9 then 1 else 2))) else (bif Nat.ble y 15 then (bif Nat.ble y 13 then (bif Nat.ble y 12 then (bif Nat.ble y 11 then 3 else 1) else 2) else (bif Nat.ble y 14 then 3 else 2)) else (bif Nat.ble y 18 then (bif Nat.ble y 17 then (bif Nat.ble y 16 then 7 else 2) else 4) else (bif Nat.ble y 19 then 4 else 4)))) else (bif Nat.ble y 31 then (bif Nat.ble y 26 then (bif Nat.ble y 23 then (bif Nat.ble y 22 then (bif Nat.ble y 21 then 5 else 5) else 1) else (bif Nat.ble y 25 then (bif Nat.ble y 24 then 2 else 3) else 4)) else (bif Nat.ble y 29 then (bif Nat.ble y 28 then (bif Nat.ble y 27 then 4 else 2) else 6) else (bif Nat.ble y 30 then 2 else 1))) else (bif Nat.ble y 36 then (bif Nat.ble y 34 then (bif Nat.ble y 33 then (bif Nat.ble y 32 then 2 else 6) else 13) else (bif Nat.ble y 35 then 5 else 2)) else (bif Nat.ble y 39 then (bif Nat.ble y 38 then (bif Nat.ble y 37 then 2 else 3) else 3) else (bif Nat.ble y 40 then 1 else 1))))) else (bif Nat.ble y 62 then (bif Nat.ble y 52 then (bif Nat.ble y 47 then (bif Nat.ble y 44 then (bif Nat.ble y 43 then (bif Nat.ble y 42 then 1 else 1) else 5) else (bif Nat.ble y 46 then (bif Nat.ble y 45 then 2 else 2) else 5)) else (bif Nat.ble y 50 then (bif Nat.ble y 49 then (bif Nat.ble y 48 then 5 else 2) else 1) else (bif Nat.ble y 51 then 2 else 3))) else (bif Nat.ble y 57 then (bif Nat.ble y 55 then (bif Nat.ble y 54 then (bif Nat.ble y 53 then 3 else 4) else 2) else (bif Nat.ble y 56 then 1 else 1)) else (bif Nat.ble y 60 then (bif Nat.ble y 59 then (bif Nat.ble y 58 then 4 else 4) else 2) else (bif Nat.ble y 61 then 3 else 2)))) else (bif Nat.ble y 72 then (bif Nat.ble y 67 then (bif Nat.ble y 65 then (bif Nat.ble y 64 then (bif Nat.ble y 63 then 2 else 2) else 3) else (bif Nat.ble y 66 then 3 else 3)) else (bif Nat.ble y 70 then (bif Nat.ble y 69 then (bif Nat.ble y 68 then 3 else 1) else 2) else (bif Nat.ble y 71 then 3 else 2))) else (bif Nat.ble y 77 then (bif Nat.ble y 75 then (bif Nat.ble y 74 then (bif Nat.ble y 73 then 5 else 3) else 3) else (bif Nat.ble y 76 then 1 else 1)) else (bif Nat.ble y 80 then (bif Nat.ble y 79 then (bif Nat.ble y 78 then 2 else 2) else 9) else (bif Nat.ble y 81 then 12 else 7))))))
def zrt (y : Nat) : Option FieldType := (bif Nat.ble y 41 then (bif Nat.ble y 20 then (bif Nat.ble y 10 then (bif Nat.ble y 5 then (bif Nat.ble y 2 then (bif Nat.ble y 1 then (bif Nat.ble y 0 then none else (some .int)) else none) else (bif Nat.ble y 4 then (bif Nat.ble y 3 then none else none) else none)) else (bif Nat.ble y 8 then (bif Nat.ble y 7 then (bif Nat.ble y 6 then (some .boolean) else (some .boolean)) else (some .boolean)) else (bif Nat.ble y 9 then (some .int) else (some .int)))) else (bif Nat.ble y 15 then (bif Nat.ble y 13 then (bif Nat.ble y 12 then (bif Nat.ble y 11 then none else (some .int)) else (some .int)) else (bif Nat.ble y 14 then (some .int) else (some .boolean))) else (bif Nat.ble y 18 then (bif Nat.ble y 17 then (bif Nat.ble y 16 then (some .int) else (some .int)) else (some .int)) else (bif Nat.ble y 19 then (some .int) else (some .boolean))))) else (bif Nat.ble y 31 then (bif Nat.ble y 26 then (bif Nat.ble y 23 then (bif Nat.ble y 22 then (bif Nat.ble y 21 then (some .int) else none) else none) else (bif Nat.ble y 25 then (bif Nat.ble y 24 then none else (some .int)) else (some .int))) else (bif Nat.ble y 29 then (bif Nat.ble y 28 then (bif Nat.ble y 27 then (some .int) else (some .int)) else (some .int)) else (bif Nat.ble y 30 then none else none))) else (bif Nat.ble y 36 then (bif Nat.ble y 34 then (bif Nat.ble y 33 then (bif Nat.ble y 32 then none else none) else (some .boolean)) else (bif Nat.ble y 35 then none else (some .double))) else (bif Nat.ble y 39 then (bif Nat.ble y 38 then (bif Nat.ble y 37 then none else none) else none) else (bif Nat.ble y 40 then (some (.object "BumpsChart$Chart")) else none))))) else (bif Nat.ble y 62 then (bif Nat.ble y 52 then (bif Nat.ble y 47 then (bif Nat.ble y 44 then (bif Nat.ble y 43 then (bif Nat.ble y 42 then none else none) else none) else (bif Nat.ble y 46 then (bif Nat.ble y 45 then (some .int) else (some .int)) else (some .int))) else (bif Nat.ble y 50 then (bif Nat.ble y 49 then (bif Nat.ble y 48 then (some .int) else none) else none) else (bif Nat.ble y 51 then (some .boolean) else none))) else (bif Nat.ble y 57 then (bif Nat.ble y 55 then (bif Nat.ble y 54 then (bif Nat.ble y 53 then (some .boolean) else none) else none) else (bif Nat.ble y 56 then none else none)) else (bif Nat.ble y 60 then (bif Nat.ble y 59 then (bif Nat.ble y 58 then (some .int) else (some .int)) else (some .int)) else (bif Nat.ble y 61 then (some .int) else (some .int))))) else (bif Nat.ble y 72 then (bif Nat.ble y 67 then (bif Nat.ble y 65 then (bif Nat.ble y 64 then (bif Nat.ble y 63 then (some .int) else (some .int)) else (some .int)) else (bif Nat.ble y 66 then (some .int) else (some .int))) else (bif Nat.ble y 70 then (bif Nat.ble y 69 then (bif Nat.ble y 68 then (some .int) else (some .int)) else (some .int)) else (bif Nat.ble y 71 then (some .int) else (some .int)))) else (bif Nat.ble y 77 then (bif Nat.ble y 75 then (bif Nat.ble y 74 then (bif Nat.ble y 73 then (some .int) else (some .int)) else (some .int)) else (bif Nat.ble y 76 then (some .int) else (some .int))) else (bif Nat.ble y 80 then (bif Nat.ble y 79 then (bif Nat.ble y 78 then (some .int) else (some .int)) else (some .boolean)) else (bif Nat.ble y 81 then (some .boolean) else (some .boolean)))))))
def zown (y : Nat) : Nat := (bif Nat.ble y 41 then (bif Nat.ble y 20 then (bif Nat.ble y 10 then (bif Nat.ble y 5 then (bif Nat.ble y 2 then (bif Nat.ble y 1 then (bif Nat.ble y 0 then 0 else 0) else 0) else (bif Nat.ble y 4 then (bif Nat.ble y 3 then 0 else 1) else 1)) else (bif Nat.ble y 8 then (bif Nat.ble y 7 then (bif Nat.ble y 6 then 1 else 1) else 1) else (bif Nat.ble y 9 then 1 else 1))) else (bif Nat.ble y 15 then (bif Nat.ble y 13 then (bif Nat.ble y 12 then (bif Nat.ble y 11 then 1 else 1) else 1) else (bif Nat.ble y 14 then 1 else 1)) else (bif Nat.ble y 18 then (bif Nat.ble y 17 then (bif Nat.ble y 16 then 1 else 1) else 1) else (bif Nat.ble y 19 then 1 else 1)))) else (bif Nat.ble y 31 then (bif Nat.ble y 26 then (bif Nat.ble y 23 then (bif Nat.ble y 22 then (bif Nat.ble y 21 then 1 else 1) else 1) else (bif Nat.ble y 25 then (bif Nat.ble y 24 then 1 else 1) else 1)) else (bif Nat.ble y 29 then (bif Nat.ble y 28 then (bif Nat.ble y 27 then 1 else 1) else 1) else (bif Nat.ble y 30 then 1 else 2))) else (bif Nat.ble y 36 then (bif Nat.ble y 34 then (bif Nat.ble y 33 then (bif Nat.ble y 32 then 2 else 2) else 2) else (bif Nat.ble y 35 then 2 else 2)) else (bif Nat.ble y 39 then (bif Nat.ble y 38 then (bif Nat.ble y 37 then 3 else 3) else 3) else (bif Nat.ble y 40 then 3 else 3))))) else (bif Nat.ble y 62 then (bif Nat.ble y 52 then (bif Nat.ble y 47 then (bif Nat.ble y 44 then (bif Nat.ble y 43 then (bif Nat.ble y 42 then 4 else 4) else 4) else (bif Nat.ble y 46 then (bif Nat.ble y 45 then 4 else 4) else 4)) else (bif Nat.ble y 50 then (bif Nat.ble y 49 then (bif Nat.ble y 48 then 4 else 4) else 5) else (bif Nat.ble y 51 then 5 else 5))) else (bif Nat.ble y 57 then (bif Nat.ble y 55 then (bif Nat.ble y 54 then (bif Nat.ble y 53 then 5 else 5) else 5) else (bif Nat.ble y 56 then 6 else 7)) else (bif Nat.ble y 60 then (bif Nat.ble y 59 then (bif Nat.ble y 58 then 7 else 7) else 7) else (bif Nat.ble y 61 then 7 else 7)))) else (bif Nat.ble y 72 then (bif Nat.ble y 67 then (bif Nat.ble y 65 then (bif Nat.ble y 64 then (bif Nat.ble y 63 then 7 else 7) else 7) else (bif Nat.ble y 66 then 7 else 7)) else (bif Nat.ble y 70 then (bif Nat.ble y 69 then (bif Nat.ble y 68 then 7 else 7) else 7) else (bif Nat.ble y 71 then 7 else 7))) else (bif Nat.ble y 77 then (bif Nat.ble y 75 then (bif Nat.ble y 74 then (bif Nat.ble y 73 then 7 else 7) else 7) else (bif Nat.ble y 76 then 7 else 8)) else (bif Nat.ble y 80 then (bif Nat.ble y 79 then (bif Nat.ble y 78 then 9 else 11) else 11) else (bif Nat.ble y 81 then 11 else 11))))))
def zini (y : Nat) : Bool := (bif Nat.ble y 41 then (bif Nat.ble y 20 then (bif Nat.ble y 10 then (bif Nat.ble y 5 then (bif Nat.ble y 2 then (bif Nat.ble y 1 then (bif Nat.ble y 0 then true else false) else false) else (bif Nat.ble y 4 then (bif Nat.ble y 3 then false else true) else false)) else (bif Nat.ble y 8 then (bif Nat.ble y 7 then (bif Nat.ble y 6 then false else false) else false) else (bif Nat.ble y 9 then false else false))) else (bif Nat.ble y 15 then (bif Nat.ble y 13 then (bif Nat.ble y 12 then (bif Nat.ble y 11 then false else false) else false) else (bif Nat.ble y 14 then false else false)) else (bif Nat.ble y 18 then (bif Nat.ble y 17 then (bif Nat.ble y 16 then false else false) else false) else (bif Nat.ble y 19 then false else false)))) else (bif Nat.ble y 31 then (bif Nat.ble y 26 then (bif Nat.ble y 23 then (bif Nat.ble y 22 then (bif Nat.ble y 21 then false else false) else false) else (bif Nat.ble y 25 then (bif Nat.ble y 24 then false else false) else false)) else (bif Nat.ble y 29 then (bif Nat.ble y 28 then (bif Nat.ble y 27 then false else false) else false) else (bif Nat.ble y 30 then false else true))) else (bif Nat.ble y 36 then (bif Nat.ble y 34 then (bif Nat.ble y 33 then (bif Nat.ble y 32 then false else false) else false) else (bif Nat.ble y 35 then false else false)) else (bif Nat.ble y 39 then (bif Nat.ble y 38 then (bif Nat.ble y 37 then true else false) else false) else (bif Nat.ble y 40 then false else false))))) else (bif Nat.ble y 62 then (bif Nat.ble y 52 then (bif Nat.ble y 47 then (bif Nat.ble y 44 then (bif Nat.ble y 43 then (bif Nat.ble y 42 then true else false) else false) else (bif Nat.ble y 46 then (bif Nat.ble y 45 then false else false) else false)) else (bif Nat.ble y 50 then (bif Nat.ble y 49 then (bif Nat.ble y 48 then false else false) else true) else (bif Nat.ble y 51 then false else false))) else (bif Nat.ble y 57 then (bif Nat.ble y 55 then (bif Nat.ble y 54 then (bif Nat.ble y 53 then false else false) else false) else (bif Nat.ble y 56 then true else true)) else (bif Nat.ble y 60 then (bif Nat.ble y 59 then (bif Nat.ble y 58 then false else false) else false) else (bif Nat.ble y 61 then false else false)))) else (bif Nat.ble y 72 then (bif Nat.ble y 67 then (bif Nat.ble y 65 then (bif Nat.ble y 64 then (bif Nat.ble y 63 then false else false) else false) else (bif Nat.ble y 66 then false else false)) else (bif Nat.ble y 70 then (bif Nat.ble y 69 then (bif Nat.ble y 68 then false else false) else false) else (bif Nat.ble y 71 then false else false))) else (bif Nat.ble y 77 then (bif Nat.ble y 75 then (bif Nat.ble y 74 then (bif Nat.ble y 73 then false else false) else false) else (bif Nat.ble y 76 then false else false)) else (bif Nat.ble y 80 then (bif Nat.ble y 79 then (bif Nat.ble y 78 then false else false) else false) else (bif Nat.ble y 81 then false else false))))))
def zrank (y : Nat) : Nat := (bif Nat.ble y 41 then (bif Nat.ble y 20 then (bif Nat.ble y 10 then (bif Nat.ble y 5 then (bif Nat.ble y 2 then (bif Nat.ble y 1 then (bif Nat.ble y 0 then 1 else 0) else 0) else (bif Nat.ble y 4 then (bif Nat.ble y 3 then 1 else 3) else 2)) else (bif Nat.ble y 8 then (bif Nat.ble y 7 then (bif Nat.ble y 6 then 0 else 0) else 0) else (bif Nat.ble y 9 then 0 else 1))) else (bif Nat.ble y 15 then (bif Nat.ble y 13 then (bif Nat.ble y 12 then (bif Nat.ble y 11 then 1 else 1) else 1) else (bif Nat.ble y 14 then 2 else 3)) else (bif Nat.ble y 18 then (bif Nat.ble y 17 then (bif Nat.ble y 16 then 3 else 1) else 3) else (bif Nat.ble y 19 then 2 else 1)))) else (bif Nat.ble y 31 then (bif Nat.ble y 26 then (bif Nat.ble y 23 then (bif Nat.ble y 22 then (bif Nat.ble y 21 then 3 else 2) else 2) else (bif Nat.ble y 25 then (bif Nat.ble y 24 then 1 else 1) else 2)) else (bif Nat.ble y 29 then (bif Nat.ble y 28 then (bif Nat.ble y 27 then 2 else 3) else 2) else (bif Nat.ble y 30 then 3 else 2))) else (bif Nat.ble y 36 then (bif Nat.ble y 34 then (bif Nat.ble y 33 then (bif Nat.ble y 32 then 4 else 3) else 2) else (bif Nat.ble y 35 then 1 else 0)) else (bif Nat.ble y 39 then (bif Nat.ble y 38 then (bif Nat.ble y 37 then 4 else 4) else 0) else (bif Nat.ble y 40 then 0 else 0))))) else (bif Nat.ble y 62 then (bif Nat.ble y 52 then (bif Nat.ble y 47 then (bif Nat.ble y 44 then (bif Nat.ble y 43 then (bif Nat.ble y 42 then 2 else 0) else 1) else (bif Nat.ble y 46 then (bif Nat.ble y 45 then 2 else 2) else 1)) else (bif Nat.ble y 50 then (bif Nat.ble y 49 then (bif Nat.ble y 48 then 1 else 2) else 2) else (bif Nat.ble y 51 then 0 else 1))) else (bif Nat.ble y 57 then (bif Nat.ble y 55 then (bif Nat.ble y 54 then (bif Nat.ble y 53 then 1 else 2) else 2) else (bif Nat.ble y 56 then 3 else 5)) else (bif Nat.ble y 60 then (bif Nat.ble y 59 then (bif Nat.ble y 58 then 5 else 5) else 2) else (bif Nat.ble y 61 then 4 else 2)))) else (bif Nat.ble y 72 then (bif Nat.ble y 67 then (bif Nat.ble y 65 then (bif Nat.ble y 64 then (bif Nat.ble y 63 then 1 else 2) else 5) else (bif Nat.ble y 66 then 4 else 2)) else (bif Nat.ble y 70 then (bif Nat.ble y 69 then (bif Nat.ble y 68 then 5 else 5) else 4) else (bif Nat.ble y 71 then 5 else 5))) else (bif Nat.ble y 77 then (bif Nat.ble y 75 then (bif Nat.ble y 74 then (bif Nat.ble y 73 then 0 else 2) else 2) else (bif Nat.ble y 76 then 3 else 0)) else (bif Nat.ble y 80 then (bif Nat.ble y 79 then (bif Nat.ble y 78 then 0 else 0) else 5) else (bif Nat.ble y 81 then 6 else 7))))))
def zneed (y : Nat) : Nat := (bif Nat.ble y 41 then (bif Nat.ble y 20 then (bif Nat.ble y 10 then (bif Nat.ble y 5 then (bif Nat.ble y 2 then (bif Nat.ble y 1 then (bif Nat.ble y 0 then 20 else 0) else 0) else (bif Nat.ble y 4 then (bif Nat.ble y 3 then 48 else 61) else 44)) else (bif Nat.ble y 8 then (bif Nat.ble y 7 then (bif Nat.ble y 6 then 0 else 0) else 0) else (bif Nat.ble y 9 then 0 else 21))) else (bif Nat.ble y 15 then (bif Nat.ble y 13 then (bif Nat.ble y 12 then (bif Nat.ble y 11 then 22 else 21) else 21) else (bif Nat.ble y 14 then 41 else 63)) else (bif Nat.ble y 18 then (bif Nat.ble y 17 then (bif Nat.ble y 16 then 63 else 21) else 67) else (bif Nat.ble y 19 then 44 else 21)))) else (bif Nat.ble y 31 then (bif Nat.ble y 26 then (bif Nat.ble y 23 then (bif Nat.ble y 22 then (bif Nat.ble y 21 then 68 else 44) else 43) else (bif Nat.ble y 25 then (bif Nat.ble y 24 then 22 else 21) else 43)) else (bif Nat.ble y 29 then (bif Nat.ble y 28 then (bif Nat.ble y 27 then 43 else 66) else 43) else (bif Nat.ble y 30 then 90 else 41))) else (bif Nat.ble y 36 then (bif Nat.ble y 34 then (bif Nat.ble y 33 then (bif Nat.ble y 32 then 103 else 78) else 46) else (bif Nat.ble y 35 then 22 else 0)) else (bif Nat.ble y 39 then (bif Nat.ble y 38 then (bif Nat.ble y 37 then 81 else 111) else 0) else (bif Nat.ble y 40 then 0 else 0))))) else (bif Nat.ble y 62 then (bif Nat.ble y 52 then (bif Nat.ble y 47 then (bif Nat.ble y 44 then (bif Nat.ble y 43 then (bif Nat.ble y 42 then 41 else 0) else 22) else (bif Nat.ble y 46 then (bif Nat.ble y 45 then 45 else 45) else 21)) else (bif Nat.ble y 50 then (bif Nat.ble y 49 then (bif Nat.ble y 48 then 21 else 69) else 41) else (bif Nat.ble y 51 then 0 else 22))) else (bif Nat.ble y 57 then (bif Nat.ble y 55 then (bif Nat.ble y 54 then (bif Nat.ble y 53 then 21 else 44) else 69) else (bif Nat.ble y 56 then 61 else 102)) else (bif Nat.ble y 60 then (bif Nat.ble y 59 then (bif Nat.ble y 58 then 133 else 133) else 41) else (bif Nat.ble y 61 then 87 else 43)))) else (bif Nat.ble y 72 then (bif Nat.ble y 67 then (bif Nat.ble y 65 then (bif Nat.ble y 64 then (bif Nat.ble y 63 then 21 else 42) else 133) else (bif Nat.ble y 66 then 89 else 42)) else (bif Nat.ble y 70 then (bif Nat.ble y 69 then (bif Nat.ble y 68 then 133 else 133) else 111) else (bif Nat.ble y 71 then 124 else 133))) else (bif Nat.ble y 77 then (bif Nat.ble y 75 then (bif Nat.ble y 74 then (bif Nat.ble y 73 then 0 else 43) else 45) else (bif Nat.ble y 76 then 68 else 0)) else (bif Nat.ble y 80 then (bif Nat.ble y 79 then (bif Nat.ble y 78 then 0 else 0) else 109) else (bif Nat.ble y 81 then 155 else 186))))))
def zlaw : Nat := 82
def zN : Nat := 83
def zR (c : Nat) : String := (bif Nat.ble c 5 then (bif Nat.ble c 2 then (bif Nat.ble c 1 then (bif Nat.ble c 0 then RX0 else RX1) else RX2) else (bif Nat.ble c 4 then (bif Nat.ble c 3 then RX3 else RX4) else RX5)) else (bif Nat.ble c 8 then (bif Nat.ble c 7 then (bif Nat.ble c 6 then RX6 else RX7) else RJ6) else (bif Nat.ble c 10 then (bif Nat.ble c 9 then RJ9 else RJ10) else RL)))
def zT (c : Nat) : u_T := (bif Nat.ble c 3 then (bif Nat.ble c 1 then (bif Nat.ble c 0 then TX0 else TX1) else (bif Nat.ble c 2 then TX2 else TX3)) else (bif Nat.ble c 5 then (bif Nat.ble c 4 then TX4 else TX5) else (bif Nat.ble c 6 then TX6 else TX7)))
def zty (c : Nat) : Nat → FieldType := (bif Nat.ble c 3 then (bif Nat.ble c 1 then (bif Nat.ble c 0 then tyX0 else tyX1) else (bif Nat.ble c 2 then tyX2 else tyX3)) else (bif Nat.ble c 5 then (bif Nat.ble c 4 then tyX4 else tyX5) else (bif Nat.ble c 6 then tyX6 else tyX7)))
def znf (c : Nat) : Nat := (bif Nat.ble c 3 then (bif Nat.ble c 1 then (bif Nat.ble c 0 then 1 else 13) else (bif Nat.ble c 2 then 7 else 2)) else (bif Nat.ble c 5 then (bif Nat.ble c 4 then 5 else 3) else (bif Nat.ble c 6 then 9 else 4)))
def zfr (c k : Nat) : Bool := (bif Nat.ble c 3 then (bif Nat.ble c 1 then (bif Nat.ble c 0 then (List.getD [true] k false) else (List.getD [true, true, true, true, true, false, false, false, false, false, false, false, true] k false)) else (bif Nat.ble c 2 then (List.getD [true, true, false, true, true, true, false] k false) else (List.getD [true, false] k false))) else (bif Nat.ble c 5 then (bif Nat.ble c 4 then (List.getD [true, true, true, true, false] k false) else (List.getD [true, true, false] k false)) else (bif Nat.ble c 6 then (List.getD [false, false, false, false, true, true, false, false, false] k false) else (List.getD [true, true, true, true] k false))))
end
section
/-- field links: class, pool index, the field's class, the field, place of the word -/
def zfl : List (Nat × Nat × Nat × Nat × Nat) := [(0, 7, 0, 0, 43), (1, 14, 1, 0, 96), (1, 20, 1, 1, 99), (1, 23, 1, 2, 101), (1, 29, 1, 3, 103), (1, 36, 1, 4, 105), (1, 40, 1, 9, 115), (1, 44, 1, 10, 117), (1, 47, 1, 11, 120), (1, 50, 1, 12, 123), (1, 53, 1, 5, 107), (1, 56, 1, 6, 109), (1, 59, 1, 7, 111), (1, 62, 1, 8, 113), (1, 75, 5, 2, 63), (1, 115, 5, 0, 58), (1, 118, 5, 1, 61), (2, 14, 2, 0, 176), (2, 20, 2, 1, 178), (2, 23, 2, 3, 182), (2, 27, 2, 4, 183), (2, 30, 2, 5, 184), (2, 43, 2, 6, 185), (2, 50, 1, 0, 98), (2, 58, 2, 2, 180), (2, 61, 1, 10, 118), (2, 64, 1, 11, 121), (3, 11, 3, 0, 160), (3, 18, 3, 1, 161), (4, 14, 4, 0, 80), (4, 20, 4, 1, 81), (4, 23, 4, 2, 82), (4, 26, 4, 3, 83), (4, 29, 4, 4, 84), (5, 14, 5, 0, 56), (5, 20, 5, 1, 59), (5, 23, 5, 2, 62), (6, 12, 6, 4, 213), (6, 23, 6, 5, 214), (7, 10, 7, 0, 262), (7, 19, 7, 1, 263), (7, 26, 7, 2, 264), (7, 33, 7, 3, 265), (7, 53, 1, 0, 97), (7, 67, 1, 10, 119), (7, 71, 1, 11, 122), (7, 74, 1, 5, 108), (7, 77, 1, 6, 110), (7, 80, 1, 7, 112), (7, 83, 1, 8, 114), (7, 90, 1, 9, 116), (7, 93, 1, 3, 104), (7, 97, 5, 2, 64), (7, 105, 3, 1, 162), (7, 108, 6, 0, 212), (7, 111, 1, 2, 102), (7, 114, 1, 1, 100), (7, 138, 1, 4, 106), (7, 166, 5, 0, 57), (7, 169, 5, 1, 60), (7, 203, 2, 2, 181), (7, 206, 2, 0, 177), (7, 207, 2, 1, 179)]
/-- virtual calls: class, index, method, arguments, places of link, instanceMethod, selects, initialized -/
def zvl : List (Nat × Nat × Nat × Nat × Nat × Nat × Nat × Nat) := [(1, 65, 2, 2, 238, 239, 240, 14), (1, 69, 11, 2, 242, 244, 0, 13), (1, 72, 24, 0, 246, 248, 1, 13), (1, 78, 43, 0, 254, 255, 256, 16), (1, 81, 9, 0, 258, 259, 260, 13), (1, 85, 1, 1, 250, 251, 252, 14), (1, 89, 8, 0, 338, 331, 332, 13), (1, 99, 6, 1, 466, 321, 322, 13), (1, 103, 12, 0, 467, 335, 336, 13), (1, 106, 14, 1, 462, 463, 464, 13), (1, 109, 53, 1, 528, 474, 475, 15), (1, 112, 13, 1, 529, 364, 365, 13), (1, 121, 19, 1, 551, 553, 9, 13), (1, 124, 20, 2, 555, 557, 10, 13), (1, 128, 17, 1, 400, 401, 402, 13), (1, 131, 44, 4, 404, 405, 406, 16), (1, 135, 22, 2, 409, 411, 5, 13), (1, 138, 23, 0, 413, 415, 6, 13), (1, 141, 25, 2, 437, 426, 427, 13), (1, 144, 26, 1, 490, 479, 480, 13), (1, 147, 27, 1, 491, 483, 484, 13), (1, 150, 3, 1, 295, 296, 297, 14), (1, 154, 55, 1, 305, 306, 307, 15), (1, 157, 49, 1, 310, 311, 312, 16), (2, 33, 33, 3, 358, 359, 360, 18), (2, 37, 12, 0, 362, 335, 336, 13), (2, 46, 13, 1, 363, 364, 365, 13), (2, 51, 1, 1, 367, 251, 252, 14), (2, 54, 2, 2, 368, 239, 240, 14), (2, 67, 34, 2, 369, 371, 3, 18), (2, 71, 35, 3, 373, 375, 4, 18), (3, 22, 39, 0, 283, 285, 2, 17), (3, 25, 40, 0, 287, 288, 289, 17), (3, 29, 30, 1, 291, 292, 293, 13), (4, 33, 2, 2, 408, 239, 240, 14), (4, 37, 47, 2, 496, 498, 8, 16), (4, 41, 1, 1, 500, 251, 252, 14), (4, 45, 3, 1, 314, 296, 297, 14), (5, 27, 2, 2, 395, 239, 240, 14), (5, 31, 1, 1, 477, 251, 252, 14), (5, 35, 52, 2, 563, 392, 393, 15), (5, 38, 3, 1, 309, 296, 297, 14), (7, 37, 5, 3, 234, 235, 236, 13), (7, 41, 38, 1, 279, 280, 281, 17), (7, 45, 9, 0, 315, 259, 260, 13), (7, 49, 6, 1, 320, 321, 322, 13), (7, 57, 1, 1, 324, 251, 252, 14), (7, 63, 2, 2, 325, 239, 240, 14), (7, 86, 8, 0, 330, 331, 332, 13), (7, 102, 12, 0, 334, 335, 336, 13), (7, 117, 10, 1, 454, 455, 456, 13), (7, 120, 15, 1, 458, 459, 460, 13), (7, 123, 14, 1, 468, 463, 464, 13), (7, 126, 62, 1, 469, 471, 7, 12), (7, 129, 26, 1, 478, 479, 480, 13), (7, 132, 27, 1, 482, 483, 484, 13), (7, 135, 28, 1, 486, 487, 488, 13), (7, 142, 45, 1, 492, 493, 494, 16), (7, 147, 46, 1, 501, 502, 503, 16), (7, 150, 53, 1, 473, 474, 475, 15), (7, 153, 13, 1, 377, 364, 365, 13), (7, 156, 16, 3, 524, 525, 526, 13), (7, 160, 52, 2, 391, 392, 393, 15), (7, 163, 51, 1, 538, 539, 540, 15), (7, 172, 17, 1, 542, 401, 402, 13), (7, 175, 18, 1, 547, 548, 549, 13), (7, 178, 54, 1, 559, 560, 561, 15), (7, 187, 21, 0, 396, 397, 398, 13), (7, 190, 40, 0, 344, 288, 289, 17), (7, 194, 30, 1, 345, 292, 293, 13), (7, 197, 41, 0, 346, 347, 348, 17), (7, 200, 32, 1, 354, 355, 356, 18), (7, 208, 36, 1, 378, 379, 380, 18), (7, 229, 7, 1, 421, 422, 423, 13), (7, 232, 25, 2, 425, 426, 427, 13), (7, 236, 48, 2, 509, 510, 511, 16), (7, 239, 29, 0, 433, 434, 435, 13), (11, 9, 60, 1, 326, 327, 328, 12), (11, 15, 63, 1, 446, 447, 448, 12), (11, 18, 61, 2, 450, 451, 452, 12), (11, 22, 74, 2, 417, 418, 419, 12), (11, 25, 75, 2, 505, 506, 507, 12), (11, 28, 64, 1, 513, 514, 515, 12), (11, 37, 66, 2, 520, 521, 522, 12), (11, 40, 65, 2, 530, 531, 532, 12), (11, 43, 67, 2, 534, 535, 536, 12), (11, 46, 68, 1, 543, 544, 545, 12), (11, 53, 70, 0, 340, 341, 342, 12), (11, 57, 69, 0, 570, 571, 572, 12), (11, 61, 58, 3, 275, 276, 277, 12), (11, 65, 59, 2, 316, 317, 318, 12), (11, 68, 71, 2, 350, 351, 352, 12), (11, 71, 72, 0, 387, 388, 389, 12), (11, 78, 76, 0, 429, 430, 431, 12)]
def zsl : List (Nat × Nat × Nat × Nat × Nat × Nat × Nat) := [(0, 13, 78, 2, 299, 300, 20), (1, 93, 78, 2, 339, 300, 20), (7, 182, 77, 1, 564, 565, 22), (7, 212, 73, 1, 382, 383, 12), (11, 31, 79, 2, 438, 439, 11), (11, 49, 80, 1, 443, 444, 11), (11, 74, 81, 3, 517, 518, 11)]
/-- constructors: the same class's or package's; and nest mates' private ones -/
def zil : List (Nat × Nat × Nat × Nat × Nat × Nat × Nat) := [(1, 11, 0, 1, 39, 40, 14), (2, 11, 0, 1, 175, 40, 14), (4, 11, 0, 1, 79, 40, 14), (5, 11, 0, 1, 55, 40, 14), (6, 20, 0, 1, 211, 40, 14), (7, 18, 37, 0, 153, 154, 17), (11, 60, 57, 0, 25, 26, 12)]
def znl : List (Nat × Nat × Nat × Nat × Nat × Nat × Nat) := [(1, 28, 50, 0, 50, 51, 15), (1, 35, 42, 0, 74, 75, 16), (3, 17, 4, 0, 159, 34, 13), (6, 11, 50, 0, 209, 51, 15), (7, 9, 4, 0, 33, 34, 13), (7, 25, 31, 0, 170, 171, 18), (7, 32, 56, 0, 204, 205, 19)]
def zol : List (Nat × Nat × Nat) := [(0, 1, 42), (1, 3, 36), (2, 3, 173), (3, 3, 156), (4, 3, 77), (5, 3, 53), (6, 3, 207), (7, 1, 28)]
def zal : List (Nat × Nat × Nat) := [(0, 19, 302)]
def zwl : List (Nat × Nat × Nat) := []
/-- class links: class, index, the class, places of link, instantiable, initialized -/
def zkl : List (Nat × Nat × Nat × Nat × Nat × Nat) := [(1, 9, 0, 37, 38, 14), (1, 26, 5, 48, 49, 15), (1, 33, 4, 72, 73, 16), (2, 9, 0, 174, 38, 14), (3, 9, 1, 157, 32, 13), (4, 9, 0, 78, 38, 14), (5, 9, 0, 54, 38, 14), (6, 9, 5, 208, 49, 15), (6, 18, 0, 210, 38, 14), (7, 7, 1, 31, 32, 13), (7, 16, 3, 151, 152, 17), (7, 23, 2, 168, 169, 18), (7, 30, 6, 202, 203, 19), (11, 10, 7, 23, 24, 12)]
def zkl_int : List (Nat × Nat × Int × Nat) := [(7, 228, (-2147483648), 386), (8, 265, (1431655765), 567), (8, 266, (858993459), 568), (8, 267, (252645135), 569), (11, 7, (15485959), 441), (11, 8, (2147483647), 442)]
def zkl_flt : List (Nat × Nat × UInt32 × Nat) := [(7, 227, 1258291200, 385)]
theorem zlay0 : u_ws RX0 TX0 1 = [44].filterMap (fun i => lw_tbl[i]?) := by decide +kernel
theorem zlay1 : u_ws RX1 TX1 13 = [124, 126, 128, 130, 132, 134, 136, 138, 140, 142, 144, 146, 148].filterMap (fun i => lw_tbl[i]?) := by decide +kernel
theorem zlay2 : u_ws RX2 TX2 7 = [186, 188, 190, 192, 194, 196, 198].filterMap (fun i => lw_tbl[i]?) := by decide +kernel
theorem zlay3 : u_ws RX3 TX3 2 = [163, 165].filterMap (fun i => lw_tbl[i]?) := by decide +kernel
theorem zlay4 : u_ws RX4 TX4 5 = [85, 87, 89, 91, 93].filterMap (fun i => lw_tbl[i]?) := by decide +kernel
theorem zlay5 : u_ws RX5 TX5 3 = [65, 67, 69].filterMap (fun i => lw_tbl[i]?) := by decide +kernel
theorem zlay6 : u_ws RX6 TX6 9 = [215, 217, 219, 221, 223, 225, 227, 229, 231].filterMap (fun i => lw_tbl[i]?) := by decide +kernel
theorem zlay7 : u_ws RX7 TX7 4 = [266, 268, 270, 272].filterMap (fun i => lw_tbl[i]?) := by decide +kernel
def zcp : List Nat := [41, 253, 241, 298, 35, 237, 323, 424, 333, 261, 457, 245, 337, 366, 465, 461, 527, 403, 550, 554, 558, 399, 412, 416, 249, 428, 481, 485, 489, 436, 294, 172, 357, 361, 372, 376, 381, 155, 282, 286, 290, 349, 76, 257, 407, 495, 504, 499, 512, 313, 52, 541, 394, 476, 562, 308, 206, 27, 278, 319, 329, 453, 472, 449, 516, 533, 523, 537, 546, 573, 343, 353, 390, 384, 420, 508, 432, 566, 301, 440, 445, 519]
theorem zvl_ok : zvl.all (fun q => decide (lw_tbl[q.2.2.2.2.1]? = some (.methodLink (zR q.1) q.2.1 (zname q.2.2.1))) && decide (lw_tbl[q.2.2.2.2.2.1]? = some (.instanceMethod (zname q.2.2.1))) && decide (lw_tbl[q.2.2.2.2.2.2.1]? = some (.selects (zname q.2.2.1).cls (zname q.2.2.1) (zname q.2.2.1))) && decide (lw_tbl[q.2.2.2.2.2.2.2]? = some (.initialized (zname q.2.2.1).cls)) && decide ((zname q.2.2.1).cls ≠ "java/lang/invoke/MethodHandle" ∧ (zname q.2.2.1).cls ≠ "java/lang/invoke/VarHandle" ∧ (parseMethodDescriptor (zname q.2.2.1).desc).map (fun d => d.parameters.length) = some q.2.2.2.1)) = true := by decide +kernel
theorem zsl_ok : zsl.all (fun q => decide (lw_tbl[q.2.2.2.2.1]? = some (.methodLink (zR q.1) q.2.1 (zname q.2.2.1))) && decide (lw_tbl[q.2.2.2.2.2.1]? = some (.static (zname q.2.2.1))) && decide (lw_tbl[q.2.2.2.2.2.2]? = some (.initialized (zname q.2.2.1).cls)) && decide ((zname q.2.2.1).cls ≠ "java/lang/invoke/MethodHandle" ∧ (zname q.2.2.1).cls ≠ "java/lang/invoke/VarHandle" ∧ (parseMethodDescriptor (zname q.2.2.1).desc).map (fun d => d.parameters.length) = some q.2.2.2.1)) = true := by decide +kernel
theorem zil_ok : zil.all (fun q => decide (lw_tbl[q.2.2.2.2.1]? = some (.methodLink (zR q.1) q.2.1 (zname q.2.2.1))) && decide (lw_tbl[q.2.2.2.2.2.1]? = some (.instanceMethod (zname q.2.2.1))) && decide (lw_tbl[q.2.2.2.2.2.2]? = some (.initialized (zname q.2.2.1).cls)) && decide ((zname q.2.2.1).name = "<init>") && decide (zrt q.2.2.1 = none) && decide ((zname q.2.2.1).cls ≠ "java/lang/invoke/MethodHandle" ∧ (zname q.2.2.1).cls ≠ "java/lang/invoke/VarHandle" ∧ (parseMethodDescriptor (zname q.2.2.1).desc).map (fun d => d.parameters.length) = some q.2.2.2.1)) = true := by decide +kernel
theorem znl_ok : znl.all (fun q => decide (lw_tbl[q.2.2.2.2.1]? = some (.methodLinkNest (zR q.1) q.2.1 (zname q.2.2.1) "BumpsChart")) && decide (lw_tbl[q.2.2.2.2.2.1]? = some (.instanceMethod (zname q.2.2.1))) && decide (lw_tbl[q.2.2.2.2.2.2]? = some (.initialized (zname q.2.2.1).cls)) && decide ((zname q.2.2.1).name = "<init>") && decide (zrt q.2.2.1 = none) && decide ((zname q.2.2.1).cls ≠ "java/lang/invoke/MethodHandle" ∧ (zname q.2.2.1).cls ≠ "java/lang/invoke/VarHandle" ∧ (parseMethodDescriptor (zname q.2.2.1).desc).map (fun d => d.parameters.length) = some q.2.2.2.1)) = true := by decide +kernel
theorem zfl_ok : zfl.all (fun q => decide (lw_tbl[q.2.2.2.2]? = some (.fieldLink (zR q.1) q.2.1 (zT q.2.2.1 q.2.2.2.1).1 (zT q.2.2.1 q.2.2.2.1).2.1 (zT q.2.2.1 q.2.2.2.1).2.2.1)) && decide (q.2.2.1 < 8) && decide (q.2.2.2.1 < znf q.2.2.1)) = true := by decide +kernel
theorem zkl_ok : zkl.all (fun q => decide (lw_tbl[q.2.2.2.1]? = some (.classLink (zR q.1) q.2.1 (zR q.2.2.1))) && decide (lw_tbl[q.2.2.2.2.1]? = some (.instantiable (zR q.2.2.1) (znf q.2.2.1))) && decide (lw_tbl[q.2.2.2.2.2]? = some (.initialized (zR q.2.2.1))) && decide (q.2.2.1 < 8)) = true := by decide +kernel
theorem zki_ok : zkl_int.all (fun q => decide (lw_tbl[q.2.2.2]? = some (.constant (zR q.1) q.2.1 (Int32.ofInt q.2.2.1))) && decide (-2147483648 ≤ q.2.2.1 ∧ q.2.2.1 ≤ 2147483647)) = true := by decide +kernel
theorem zkf_ok : zkl_flt.all (fun q => decide (lw_tbl[q.2.2.2]? = some (.constantFloat (zR q.1) q.2.1 q.2.2.1))) = true := by decide +kernel
theorem zol_ok : zol.all (fun q => decide (lw_tbl[q.2.2]? = some (.methodLink (zR q.1) q.2.1 objectInit))) = true := by decide +kernel
theorem zal_ok : zal.all (fun q => decide (lw_tbl[q.2.2]? = some (.methodLink (zR q.1) q.2.1 arraycopyName))) = true := by decide +kernel
theorem zs_oi : lw_tbl[29]? = some (.instanceMethod objectInit) := by decide +kernel
set_option maxRecDepth 20000 in
theorem zs_oc : Cond.code objectInit ⟨#[0xb1]⟩ 1 none ∈ lw_tbl := List.mem_of_getElem? (i := 30) rfl
theorem zs_arrInt : lw_tbl[47]? = some (.arrayClass .int) := by decide +kernel
theorem zs_arrDouble : lw_tbl[201]? = some (.arrayClass .double) := by decide +kernel
theorem zs_over : lw_tbl[158]? = some (.arrayOver (.object "BumpsChart$Chart")) := by decide +kernel
theorem zs_cs : lw_tbl[303]? = some (.static arraycopyName) := by decide +kernel
theorem zs_cn : lw_tbl[304]? = some (.native arraycopyName) := by decide +kernel
theorem zs_si : lw_tbl[21]? = some (.initialized "java/lang/System") := by decide +kernel
set_option maxRecDepth 20000 in
theorem zcw0 : Cond.code yX0_init cX0_init 2 none ∈ lw_tbl := List.mem_of_getElem? (i := 41) rfl
set_option maxRecDepth 20000 in
theorem zcw1 : Cond.code yX0_get cX0_get 2 (some .int) ∈ lw_tbl := List.mem_of_getElem? (i := 253) rfl
set_option maxRecDepth 20000 in
theorem zcw2 : Cond.code yX0_put cX0_put 3 none ∈ lw_tbl := List.mem_of_getElem? (i := 241) rfl
set_option maxRecDepth 20000 in
theorem zcw3 : Cond.code yX0_copyFrom cX0_copyFrom 2 none ∈ lw_tbl := List.mem_of_getElem? (i := 298) rfl
set_option maxRecDepth 20000 in
theorem zcw4 : Cond.code yX1_init cX1_init 1 none ∈ lw_tbl := List.mem_of_getElem? (i := 35) rfl
set_option maxRecDepth 20000 in
theorem zcw5 : Cond.code yX1_startAnew cX1_startAnew 5 none ∈ lw_tbl := List.mem_of_getElem? (i := 237) rfl
set_option maxRecDepth 20000 in
theorem zcw6 : Cond.code yX1_hasCrew cX1_hasCrew 2 (some .boolean) ∈ lw_tbl := List.mem_of_getElem? (i := 323) rfl
set_option maxRecDepth 20000 in
theorem zcw7 : Cond.code yX1_hasDay cX1_hasDay 2 (some .boolean) ∈ lw_tbl := List.mem_of_getElem? (i := 424) rfl
set_option maxRecDepth 20000 in
theorem zcw8 : Cond.code yX1_hasRace cX1_hasRace 1 (some .boolean) ∈ lw_tbl := List.mem_of_getElem? (i := 333) rfl
set_option maxRecDepth 20000 in
theorem zcw9 : Cond.code yX1_divisions cX1_divisions 1 (some .int) ∈ lw_tbl := List.mem_of_getElem? (i := 261) rfl
set_option maxRecDepth 20000 in
theorem zcw10 : Cond.code yX1_divisionOf cX1_divisionOf 2 (some .int) ∈ lw_tbl := List.mem_of_getElem? (i := 457) rfl
set_option maxRecDepth 20000 in
theorem zcw11 : Cond.code yX1_putAt cX1_putAt 3 none ∈ lw_tbl := List.mem_of_getElem? (i := 245) rfl
set_option maxRecDepth 20000 in
theorem zcw12 : Cond.code yX1_starters cX1_starters 1 (some .int) ∈ lw_tbl := List.mem_of_getElem? (i := 337) rfl
set_option maxRecDepth 20000 in
theorem zcw13 : Cond.code yX1_starterAt cX1_starterAt 2 (some .int) ∈ lw_tbl := List.mem_of_getElem? (i := 366) rfl
set_option maxRecDepth 20000 in
theorem zcw14 : Cond.code yX1_startNumber cX1_startNumber 3 (some .int) ∈ lw_tbl := List.mem_of_getElem? (i := 465) rfl
set_option maxRecDepth 20000 in
theorem zcw15 : Cond.code yX1_isStarter cX1_isStarter 2 (some .boolean) ∈ lw_tbl := List.mem_of_getElem? (i := 461) rfl
set_option maxRecDepth 20000 in
theorem zcw16 : Cond.code yX1_reasonAgainst cX1_reasonAgainst 7 (some .int) ∈ lw_tbl := List.mem_of_getElem? (i := 527) rfl
set_option maxRecDepth 20000 in
theorem zcw17 : Cond.code yX1_span cX1_span 2 (some .int) ∈ lw_tbl := List.mem_of_getElem? (i := 403) rfl
set_option maxRecDepth 20000 in
theorem zcw18 : Cond.code yX1_withThoseThatNeed cX1_withThoseThatNeed 4 (some .int) ∈ lw_tbl := List.mem_of_getElem? (i := 550) rfl
set_option maxRecDepth 20000 in
theorem zcw19 : Cond.code yX1_neededBy cX1_neededBy 4 (some .int) ∈ lw_tbl := List.mem_of_getElem? (i := 554) rfl
set_option maxRecDepth 20000 in
theorem zcw20 : Cond.code yX1_liesWithin cX1_liesWithin 4 (some .boolean) ∈ lw_tbl := List.mem_of_getElem? (i := 558) rfl
set_option maxRecDepth 20000 in
theorem zcw21 : Cond.code yX1_endRace cX1_endRace 5 (some .int) ∈ lw_tbl := List.mem_of_getElem? (i := 399) rfl
set_option maxRecDepth 20000 in
theorem zcw22 : Cond.code yX1_exchange cX1_exchange 5 none ∈ lw_tbl := List.mem_of_getElem? (i := 412) rfl
set_option maxRecDepth 20000 in
theorem zcw23 : Cond.code yX1_endDay cX1_endDay 1 none ∈ lw_tbl := List.mem_of_getElem? (i := 416) rfl
set_option maxRecDepth 20000 in
theorem zcw24 : Cond.code yX1_notePlaces cX1_notePlaces 2 none ∈ lw_tbl := List.mem_of_getElem? (i := 249) rfl
set_option maxRecDepth 20000 in
theorem zcw25 : Cond.code yX1_placeAfter cX1_placeAfter 3 (some .int) ∈ lw_tbl := List.mem_of_getElem? (i := 428) rfl
set_option maxRecDepth 20000 in
theorem zcw26 : Cond.code yX1_daysRisen cX1_daysRisen 4 (some .int) ∈ lw_tbl := List.mem_of_getElem? (i := 481) rfl
set_option maxRecDepth 20000 in
theorem zcw27 : Cond.code yX1_daysFallen cX1_daysFallen 4 (some .int) ∈ lw_tbl := List.mem_of_getElem? (i := 485) rfl
set_option maxRecDepth 20000 in
theorem zcw28 : Cond.code yX1_award cX1_award 2 (some .int) ∈ lw_tbl := List.mem_of_getElem? (i := 489) rfl
set_option maxRecDepth 20000 in
theorem zcw29 : Cond.code yX1_bestRiser cX1_bestRiser 6 (some .int) ∈ lw_tbl := List.mem_of_getElem? (i := 436) rfl
set_option maxRecDepth 20000 in
theorem zcw30 : Cond.code yX1_copyFrom cX1_copyFrom 2 none ∈ lw_tbl := List.mem_of_getElem? (i := 294) rfl
set_option maxRecDepth 20000 in
theorem zcw31 : Cond.code yX2_init cX2_init 1 none ∈ lw_tbl := List.mem_of_getElem? (i := 172) rfl
set_option maxRecDepth 20000 in
theorem zcw32 : Cond.code yX2_foretell cX2_foretell 2 none ∈ lw_tbl := List.mem_of_getElem? (i := 357) rfl
set_option maxRecDepth 20000 in
theorem zcw33 : Cond.code yX2_foretellWith cX2_foretellWith 6 none ∈ lw_tbl := List.mem_of_getElem? (i := 361) rfl
set_option maxRecDepth 20000 in
theorem zcw34 : Cond.code yX2_findNext cX2_findNext 13 (some .boolean) ∈ lw_tbl := List.mem_of_getElem? (i := 372) rfl
set_option maxRecDepth 20000 in
theorem zcw35 : Cond.code yX2_add cX2_add 5 none ∈ lw_tbl := List.mem_of_getElem? (i := 376) rfl
set_option maxRecDepth 20000 in
theorem zcw36 : Cond.code yX2_timeOf cX2_timeOf 2 (some .double) ∈ lw_tbl := List.mem_of_getElem? (i := 381) rfl
set_option maxRecDepth 20000 in
theorem zcw37 : Cond.code yX3_init cX3_init 2 none ∈ lw_tbl := List.mem_of_getElem? (i := 155) rfl
set_option maxRecDepth 20000 in
theorem zcw38 : Cond.code yX3_keep cX3_keep 3 none ∈ lw_tbl := List.mem_of_getElem? (i := 282) rfl
set_option maxRecDepth 20000 in
theorem zcw39 : Cond.code yX3_moveOldestToEnd cX3_moveOldestToEnd 3 none ∈ lw_tbl := List.mem_of_getElem? (i := 286) rfl
set_option maxRecDepth 20000 in
theorem zcw40 : Cond.code yX3_latest cX3_latest 1 (some (.object "BumpsChart$Chart")) ∈ lw_tbl := List.mem_of_getElem? (i := 290) rfl
set_option maxRecDepth 20000 in
theorem zcw41 : Cond.code yX3_dropLatest cX3_dropLatest 1 none ∈ lw_tbl := List.mem_of_getElem? (i := 349) rfl
set_option maxRecDepth 20000 in
theorem zcw42 : Cond.code yX4_init cX4_init 1 none ∈ lw_tbl := List.mem_of_getElem? (i := 76) rfl
set_option maxRecDepth 20000 in
theorem zcw43 : Cond.code yX4_empty cX4_empty 1 none ∈ lw_tbl := List.mem_of_getElem? (i := 257) rfl
set_option maxRecDepth 20000 in
theorem zcw44 : Cond.code yX4_add cX4_add 5 none ∈ lw_tbl := List.mem_of_getElem? (i := 407) rfl
set_option maxRecDepth 20000 in
theorem zcw45 : Cond.code yX4_madeBy cX4_madeBy 2 (some .int) ∈ lw_tbl := List.mem_of_getElem? (i := 495) rfl
set_option maxRecDepth 20000 in
theorem zcw46 : Cond.code yX4_madeOn cX4_madeOn 2 (some .int) ∈ lw_tbl := List.mem_of_getElem? (i := 504) rfl
set_option maxRecDepth 20000 in
theorem zcw47 : Cond.code yX4_countOf cX4_countOf 5 (some .int) ∈ lw_tbl := List.mem_of_getElem? (i := 499) rfl
set_option maxRecDepth 20000 in
theorem zcw48 : Cond.code yX4_follow cX4_follow 5 (some .int) ∈ lw_tbl := List.mem_of_getElem? (i := 512) rfl
set_option maxRecDepth 20000 in
theorem zcw49 : Cond.code yX4_copyFrom cX4_copyFrom 2 none ∈ lw_tbl := List.mem_of_getElem? (i := 313) rfl
set_option maxRecDepth 20000 in
theorem zcw50 : Cond.code yX5_init cX5_init 1 none ∈ lw_tbl := List.mem_of_getElem? (i := 52) rfl
set_option maxRecDepth 20000 in
theorem zcw51 : Cond.code yX5_has cX5_has 2 (some .boolean) ∈ lw_tbl := List.mem_of_getElem? (i := 541) rfl
set_option maxRecDepth 20000 in
theorem zcw52 : Cond.code yX5_add cX5_add 3 none ∈ lw_tbl := List.mem_of_getElem? (i := 394) rfl
set_option maxRecDepth 20000 in
theorem zcw53 : Cond.code yX5_isOut cX5_isOut 3 (some .boolean) ∈ lw_tbl := List.mem_of_getElem? (i := 476) rfl
set_option maxRecDepth 20000 in
theorem zcw54 : Cond.code yX5_takeBack cX5_takeBack 4 none ∈ lw_tbl := List.mem_of_getElem? (i := 562) rfl
set_option maxRecDepth 20000 in
theorem zcw55 : Cond.code yX5_copyFrom cX5_copyFrom 2 none ∈ lw_tbl := List.mem_of_getElem? (i := 308) rfl
set_option maxRecDepth 20000 in
theorem zcw56 : Cond.code yX6_init cX6_init 1 none ∈ lw_tbl := List.mem_of_getElem? (i := 206) rfl
set_option maxRecDepth 20000 in
theorem zcw57 : Cond.code yX7_init cX7_init 1 none ∈ lw_tbl := List.mem_of_getElem? (i := 27) rfl
set_option maxRecDepth 20000 in
theorem zcw58 : Cond.code yX7_begin cX7_begin 4 (some .int) ∈ lw_tbl := List.mem_of_getElem? (i := 278) rfl
set_option maxRecDepth 20000 in
theorem zcw59 : Cond.code yX7_setSpeed cX7_setSpeed 4 (some .int) ∈ lw_tbl := List.mem_of_getElem? (i := 319) rfl
set_option maxRecDepth 20000 in
theorem zcw60 : Cond.code yX7_count cX7_count 2 (some .int) ∈ lw_tbl := List.mem_of_getElem? (i := 329) rfl
set_option maxRecDepth 20000 in
theorem zcw61 : Cond.code yX7_crew cX7_crew 3 (some .int) ∈ lw_tbl := List.mem_of_getElem? (i := 453) rfl
set_option maxRecDepth 20000 in
theorem zcw62 : Cond.code yX7_outFlag cX7_outFlag 2 (some .int) ∈ lw_tbl := List.mem_of_getElem? (i := 472) rfl
set_option maxRecDepth 20000 in
theorem zcw63 : Cond.code yX7_at cX7_at 2 (some .int) ∈ lw_tbl := List.mem_of_getElem? (i := 449) rfl
set_option maxRecDepth 20000 in
theorem zcw64 : Cond.code yX7_starter cX7_starter 2 (some .int) ∈ lw_tbl := List.mem_of_getElem? (i := 516) rfl
set_option maxRecDepth 20000 in
theorem zcw65 : Cond.code yX7_bump cX7_bump 3 (some .int) ∈ lw_tbl := List.mem_of_getElem? (i := 533) rfl
set_option maxRecDepth 20000 in
theorem zcw66 : Cond.code yX7_why cX7_why 3 (some .int) ∈ lw_tbl := List.mem_of_getElem? (i := 523) rfl
set_option maxRecDepth 20000 in
theorem zcw67 : Cond.code yX7_bumped cX7_bumped 3 (some .int) ∈ lw_tbl := List.mem_of_getElem? (i := 537) rfl
set_option maxRecDepth 20000 in
theorem zcw68 : Cond.code yX7_rerow cX7_rerow 3 (some .int) ∈ lw_tbl := List.mem_of_getElem? (i := 546) rfl
set_option maxRecDepth 20000 in
theorem zcw69 : Cond.code yX7_finish cX7_finish 1 (some .int) ∈ lw_tbl := List.mem_of_getElem? (i := 573) rfl
set_option maxRecDepth 20000 in
theorem zcw70 : Cond.code yX7_undo cX7_undo 2 (some .int) ∈ lw_tbl := List.mem_of_getElem? (i := 343) rfl
set_option maxRecDepth 20000 in
theorem zcw71 : Cond.code yX7_foretold cX7_foretold 3 (some .int) ∈ lw_tbl := List.mem_of_getElem? (i := 353) rfl
set_option maxRecDepth 20000 in
theorem zcw72 : Cond.code yX7_row cX7_row 2 (some .int) ∈ lw_tbl := List.mem_of_getElem? (i := 390) rfl
set_option maxRecDepth 20000 in
theorem zcw73 : Cond.code yX7_floatBits cX7_floatBits 5 (some .int) ∈ lw_tbl := List.mem_of_getElem? (i := 384) rfl
set_option maxRecDepth 20000 in
theorem zcw74 : Cond.code yX7_place cX7_place 3 (some .int) ∈ lw_tbl := List.mem_of_getElem? (i := 420) rfl
set_option maxRecDepth 20000 in
theorem zcw75 : Cond.code yX7_again cX7_again 3 (some .int) ∈ lw_tbl := List.mem_of_getElem? (i := 508) rfl
set_option maxRecDepth 20000 in
theorem zcw76 : Cond.code yX7_bestRise cX7_bestRise 1 (some .int) ∈ lw_tbl := List.mem_of_getElem? (i := 432) rfl
set_option maxRecDepth 20000 in
theorem zcw77 : Cond.code yJ6_bitCount_0f7a4 cJ6_bitCount_0f7a4 1 (some .int) ∈ lw_tbl := List.mem_of_getElem? (i := 566) rfl
set_option maxRecDepth 20000 in
theorem zcw78 : Cond.code yJ9_min_7cf53 cJ9_min_7cf53 2 (some .int) ∈ lw_tbl := List.mem_of_getElem? (i := 301) rfl
set_option maxRecDepth 20000 in
theorem zcw79 : Cond.code yL_cell cL_cell 2 (some .int) ∈ lw_tbl := List.mem_of_getElem? (i := 440) rfl
set_option maxRecDepth 20000 in
theorem zcw80 : Cond.code yL_holds cL_holds 9 (some .boolean) ∈ lw_tbl := List.mem_of_getElem? (i := 445) rfl
set_option maxRecDepth 20000 in
theorem zcw81 : Cond.code yL_raced cL_raced 12 (some .boolean) ∈ lw_tbl := List.mem_of_getElem? (i := 519) rfl
end
section
def zfind (pc : Nat) : List (Nat × Instr × Nat × Nat × Nat) → Option (Instr × Nat × Nat × Nat)
  | [] => none
  | e :: t => bif Nat.beq e.1 pc then some e.2 else zfind pc t
def zi (y pc : Nat) : Option (Instr × Nat × Nat × Nat) := zfind pc (zcode y)
def zrm (y a : Nat) : Bool := decide (zrank a + 1 ≤ zrank y) && decide (8 + (zml a + 11) + zneed a ≤ zneed y) && decide (a < zlaw) && plainFor (zname a)
/-- what a row of the code table says beyond the instruction itself -/
def zaux (y pc : Nat) (i : Instr) (len a b : Nat) : Bool := match i with
  | .aload_n _ => Nat.beq len 1 | .iload_n _ => Nat.beq len 1 | .fload_n _ => Nat.beq len 1 | .dload_n _ => Nat.beq len 1
  | .iload _ => Nat.beq len 2 | .dload _ => Nat.beq len 2
  | .istore_n k => Nat.beq len 1 && decide ((k : Nat) < zml y) | .astore_n k => Nat.beq len 1 && decide ((k : Nat) < zml y) | .fstore_n k => Nat.beq len 1 && decide ((k : Nat) < zml y)
  | .istore k => Nat.beq len 2 && decide (k < zml y) | .dstore k => Nat.beq len 2 && decide (k + 1 < zml y)
  | .iinc k _ => Nat.beq len 3 && decide (k < zml y)
  | .irem => Nat.beq len 1
  | .iconst n => Nat.beq len 1 && decide (-2147483648 ≤ n ∧ n ≤ 2147483647)
  | .bipush n => Nat.beq len 2 && decide ((Int8.ofInt n).toInt32 = Int32.ofInt n) && decide (-2147483648 ≤ n ∧ n ≤ 2147483647)
  | .sipush n => Nat.beq len 3 && decide ((Int16.ofInt n).toInt32 = Int32.ofInt n) && decide (-2147483648 ≤ n ∧ n ≤ 2147483647)
  | .getfield idx => Nat.beq len 3 && zfl.any (fun q => decide (q.1 = zown y ∧ q.2.1 = idx ∧ q.2.2.1 = a ∧ q.2.2.2.1 = b))
  | .putfield idx => Nat.beq len 3 && zfl.any (fun q => decide (q.1 = zown y ∧ q.2.1 = idx ∧ q.2.2.1 = a ∧ q.2.2.2.1 = b))
  | .goto off => Nat.beq len 3 && decide ((pc : Int) + off = (a : Int))
  | .ifnull off => Nat.beq len 3 && decide ((pc : Int) + off = (a : Int))
  | .ifnonnull off => Nat.beq len 3 && decide ((pc : Int) + off = (a : Int))
  | .ifCond _ off => Nat.beq len 3 && decide ((pc : Int) + off = (a : Int))
  | .if_icmp _ off => Nat.beq len 3 && decide ((pc : Int) + off = (a : Int))
  | .tableswitch d lo hi offs => decide (0 ≤ d) && offs.toList.all (fun o => decide (0 ≤ o)) && decide ((offs.toList.length : Int) = hi - lo + 1)
  | .lookupswitch d ps => decide (0 ≤ d) && ps.toList.all (fun o => decide (0 ≤ o.2)) && (ps.toList.zip (ps.toList.drop 1)).all (fun (a, next) => a.1 < next.1)
  | .newarray _ => Nat.beq len 2
  | .anewarray idx => Nat.beq len 3 && Nat.beq a 1 && zkl.any (fun q => decide (q.1 = zown y ∧ q.2.1 = idx ∧ q.2.2.1 = a))
  | .new idx => Nat.beq len 3 && zkl.any (fun q => decide (q.1 = zown y ∧ q.2.1 = idx ∧ q.2.2.1 = a))
  | .ldc idx => Nat.beq len 2 && (zkl_int.any (fun q => decide (q.1 = zown y ∧ q.2.1 = idx)) || zkl_flt.any (fun q => decide (q.1 = zown y ∧ q.2.1 = idx)))
  | .ldc_w idx => Nat.beq len 3 && zkl_int.any (fun q => decide (q.1 = zown y ∧ q.2.1 = idx))
  | .invokevirtual idx => Nat.beq len 3 && decide (zown a < 8) && zrm y a && zvl.any (fun q => decide (q.1 = zown y ∧ q.2.1 = idx ∧ q.2.2.1 = a ∧ q.2.2.2.1 = b))
  | .invokestatic idx => Nat.beq len 3 && (bif Nat.beq a 1000 then zal.any (fun q => decide (q.1 = zown y ∧ q.2.1 = idx)) && decide (1 ≤ zrank y) && decide (8 + 40 ≤ zneed y) else zrm y a && zsl.any (fun q => decide (q.1 = zown y ∧ q.2.1 = idx ∧ q.2.2.1 = a ∧ q.2.2.2.1 = b)))
  | .invokespecial idx => Nat.beq len 3 && (bif Nat.beq a 1002 then zol.any (fun q => decide (q.1 = zown y ∧ q.2.1 = idx)) && decide (1 ≤ zrank y) && decide (8 + 12 ≤ zneed y) else decide (zown a < 8) && zrm y a && (zil.any (fun q => decide (q.1 = zown y ∧ q.2.1 = idx ∧ q.2.2.1 = a ∧ q.2.2.2.1 = b)) || znl.any (fun q => decide (q.1 = zown y ∧ q.2.1 = idx ∧ q.2.2.1 = a ∧ q.2.2.2.1 = b))))
  | _ => Nat.beq len 1
def zchk (y : Nat) : Bool := (zcode y).all (fun e => decide (decode (zb y) e.1 = .ok (e.2.1, e.2.2.1)) && zaux y e.1 e.2.1 e.2.2.1 e.2.2.2.1 e.2.2.2.2)
theorem zfind_mem {pc : Nat} {v : Instr × Nat × Nat × Nat} : ∀ {l : List (Nat × Instr × Nat × Nat × Nat)}, zfind pc l = some v → (pc, v) ∈ l
  | [], h => by simp [zfind] at h
  | e :: t, h => by
    unfold zfind at h
    by_cases hq : e.1 = pc
    · subst hq
      simp at h
      subst h
      exact List.mem_cons_self
    · have : Nat.beq e.1 pc = false := by
        cases hb : Nat.beq e.1 pc with
        | false => rfl
        | true => exact absurd (Nat.eq_of_beq_eq_true hb) hq
      rw [this] at h
      exact List.mem_cons_of_mem _ (zfind_mem h)
theorem zchk_spec {y pc : Nat} {i : Instr} {len a b : Nat} (hc : zchk y = true) (h : zi y pc = some (i, len, a, b)) : decode (zb y) pc = .ok (i, len) ∧ zaux y pc i len a b = true := by
  have h1 := List.all_eq_true.mp hc _ (zfind_mem h)
  simp only [Bool.and_eq_true, decide_eq_true_eq] at h1
  exact h1
theorem zck0 : zchk 0 = true := by decide +kernel
theorem zck1 : zchk 1 = true := by decide +kernel
theorem zck2 : zchk 2 = true := by decide +kernel
theorem zck3 : zchk 3 = true := by decide +kernel
theorem zck4 : zchk 4 = true := by decide +kernel
theorem zck5 : zchk 5 = true := by decide +kernel
theorem zck6 : zchk 6 = true := by decide +kernel
theorem zck7 : zchk 7 = true := by decide +kernel
theorem zck8 : zchk 8 = true := by decide +kernel
theorem zck9 : zchk 9 = true := by decide +kernel
theorem zck10 : zchk 10 = true := by decide +kernel
theorem zck11 : zchk 11 = true := by decide +kernel
theorem zck12 : zchk 12 = true := by decide +kernel
theorem zck13 : zchk 13 = true := by decide +kernel
theorem zck14 : zchk 14 = true := by decide +kernel
theorem zck15 : zchk 15 = true := by decide +kernel
theorem zck16 : zchk 16 = true := by decide +kernel
theorem zck17 : zchk 17 = true := by decide +kernel
theorem zck18 : zchk 18 = true := by decide +kernel
theorem zck19 : zchk 19 = true := by decide +kernel
theorem zck20 : zchk 20 = true := by decide +kernel
theorem zck21 : zchk 21 = true := by decide +kernel
theorem zck22 : zchk 22 = true := by decide +kernel
theorem zck23 : zchk 23 = true := by decide +kernel
theorem zck24 : zchk 24 = true := by decide +kernel
theorem zck25 : zchk 25 = true := by decide +kernel
theorem zck26 : zchk 26 = true := by decide +kernel
theorem zck27 : zchk 27 = true := by decide +kernel
theorem zck28 : zchk 28 = true := by decide +kernel
theorem zck29 : zchk 29 = true := by decide +kernel
theorem zck30 : zchk 30 = true := by decide +kernel
theorem zck31 : zchk 31 = true := by decide +kernel
theorem zck32 : zchk 32 = true := by decide +kernel
theorem zck33 : zchk 33 = true := by decide +kernel
theorem zck34 : zchk 34 = true := by decide +kernel
theorem zck35 : zchk 35 = true := by decide +kernel
theorem zck36 : zchk 36 = true := by decide +kernel
theorem zck37 : zchk 37 = true := by decide +kernel
theorem zck38 : zchk 38 = true := by decide +kernel
theorem zck39 : zchk 39 = true := by decide +kernel
theorem zck40 : zchk 40 = true := by decide +kernel
theorem zck41 : zchk 41 = true := by decide +kernel
theorem zck42 : zchk 42 = true := by decide +kernel
theorem zck43 : zchk 43 = true := by decide +kernel
theorem zck44 : zchk 44 = true := by decide +kernel
theorem zck45 : zchk 45 = true := by decide +kernel
theorem zck46 : zchk 46 = true := by decide +kernel
theorem zck47 : zchk 47 = true := by decide +kernel
theorem zck48 : zchk 48 = true := by decide +kernel
theorem zck49 : zchk 49 = true := by decide +kernel
theorem zck50 : zchk 50 = true := by decide +kernel
theorem zck51 : zchk 51 = true := by decide +kernel
theorem zck52 : zchk 52 = true := by decide +kernel
theorem zck53 : zchk 53 = true := by decide +kernel
theorem zck54 : zchk 54 = true := by decide +kernel
theorem zck55 : zchk 55 = true := by decide +kernel
theorem zck56 : zchk 56 = true := by decide +kernel
theorem zck57 : zchk 57 = true := by decide +kernel
theorem zck58 : zchk 58 = true := by decide +kernel
theorem zck59 : zchk 59 = true := by decide +kernel
theorem zck60 : zchk 60 = true := by decide +kernel
theorem zck61 : zchk 61 = true := by decide +kernel
theorem zck62 : zchk 62 = true := by decide +kernel
theorem zck63 : zchk 63 = true := by decide +kernel
theorem zck64 : zchk 64 = true := by decide +kernel
theorem zck65 : zchk 65 = true := by decide +kernel
theorem zck66 : zchk 66 = true := by decide +kernel
theorem zck67 : zchk 67 = true := by decide +kernel
theorem zck68 : zchk 68 = true := by decide +kernel
theorem zck69 : zchk 69 = true := by decide +kernel
theorem zck70 : zchk 70 = true := by decide +kernel
theorem zck71 : zchk 71 = true := by decide +kernel
theorem zck72 : zchk 72 = true := by decide +kernel
theorem zck73 : zchk 73 = true := by decide +kernel
theorem zck74 : zchk 74 = true := by decide +kernel
theorem zck75 : zchk 75 = true := by decide +kernel
theorem zck76 : zchk 76 = true := by decide +kernel
theorem zck77 : zchk 77 = true := by decide +kernel
theorem zck78 : zchk 78 = true := by decide +kernel
theorem zck79 : zchk 79 = true := by decide +kernel
theorem zck80 : zchk 80 = true := by decide +kernel
theorem zck81 : zchk 81 = true := by decide +kernel
theorem zck82 : zchk 82 = true := by decide +kernel
theorem zck : ∀ y, y < 83 → zchk y = true := lt_s (lt_s (lt_s (lt_s (lt_s (lt_s (lt_s (lt_s (lt_s (lt_s (lt_s (lt_s (lt_s (lt_s (lt_s (lt_s (lt_s (lt_s (lt_s (lt_s (lt_s (lt_s (lt_s (lt_s (lt_s (lt_s (lt_s (lt_s (lt_s (lt_s (lt_s (lt_s (lt_s (lt_s (lt_s (lt_s (lt_s (lt_s (lt_s (lt_s (lt_s (lt_s (lt_s (lt_s (lt_s (lt_s (lt_s (lt_s (lt_s (lt_s (lt_s (lt_s (lt_s (lt_s (lt_s (lt_s (lt_s (lt_s (lt_s (lt_s (lt_s (lt_s (lt_s (lt_s (lt_s (lt_s (lt_s (lt_s (lt_s (lt_s (lt_s (lt_s (lt_s (lt_s (lt_s (lt_s (lt_s (lt_s (lt_s (lt_s (lt_s (lt_s (lt_s (lt_0) zck0) zck1) zck2) zck3) zck4) zck5) zck6) zck7) zck8) zck9) zck10) zck11) zck12) zck13) zck14) zck15) zck16) zck17) zck18) zck19) zck20) zck21) zck22) zck23) zck24) zck25) zck26) zck27) zck28) zck29) zck30) zck31) zck32) zck33) zck34) zck35) zck36) zck37) zck38) zck39) zck40) zck41) zck42) zck43) zck44) zck45) zck46) zck47) zck48) zck49) zck50) zck51) zck52) zck53) zck54) zck55) zck56) zck57) zck58) zck59) zck60) zck61) zck62) zck63) zck64) zck65) zck66) zck67) zck68) zck69) zck70) zck71) zck72) zck73) zck74) zck75) zck76) zck77) zck78) zck79) zck80) zck81) zck82
end
section
/-! ===== the pure machine: values, states, steps ===== -/
abbrev zV : Type := Int ⊕ (Nat ⊕ (UInt32 ⊕ UInt64))
abbrev vi (x : Int) : zV := .inl x
abbrev vr (r : Nat) : zV := .inr (.inl r)
abbrev vf (x : UInt32) : zV := .inr (.inr (.inl x))
abbrev vd (x : UInt64) : zV := .inr (.inr (.inr x))
abbrev zL : Type := List (Nat × zV)
abbrev zI : Type := Nat → Int → Int
abbrev zP : Type := Nat → Int → Nat
abbrev zD : Type := Nat → Int → UInt64
abbrev zS : Type := zI × (zP × (zD × Nat))
abbrev zr (x : Int) : Prop := -2147483648 ≤ x ∧ x ≤ 2147483647
def zup (I : zI) (r : Nat) (k v : Int) : zI := fun r' k' => if r' = r ∧ k' = k then v else I r' k'
def zupP (I : zP) (r : Nat) (k : Int) (v : Nat) : zP := fun r' k' => if r' = r ∧ k' = k then v else I r' k'
def zupD (I : zD) (r : Nat) (k : Int) (v : UInt64) : zD := fun r' k' => if r' = r ∧ k' = k then v else I r' k'
/-- what each object is: the number of its class, or 10 (ints), 11 (chars), 12 (booleans), 13 (doubles), 14 (charts); how many places -/
def zshp : List (Nat × Nat) := [(99, 0), (7, 4), (1, 13), (0, 1), (10, 24), (0, 1), (10, 24), (0, 1), (10, 24), (5, 3), (0, 1), (10, 4), (0, 1), (10, 4), (4, 5), (0, 1), (10, 96), (0, 1), (10, 96), (0, 1), (10, 96), (0, 1), (10, 96), (0, 1), (10, 168), (3, 2), (14, 4), (1, 13), (0, 1), (10, 24), (0, 1), (10, 24), (0, 1), (10, 24), (5, 3), (0, 1), (10, 4), (0, 1), (10, 4), (4, 5), (0, 1), (10, 96), (0, 1), (10, 96), (0, 1), (10, 96), (0, 1), (10, 96), (0, 1), (10, 168), (1, 13), (0, 1), (10, 24), (0, 1), (10, 24), (0, 1), (10, 24), (5, 3), (0, 1), (10, 4), (0, 1), (10, 4), (4, 5), (0, 1), (10, 96), (0, 1), (10, 96), (0, 1), (10, 96), (0, 1), (10, 96), (0, 1), (10, 168), (1, 13), (0, 1), (10, 24), (0, 1), (10, 24), (0, 1), (10, 24), (5, 3), (0, 1), (10, 4), (0, 1), (10, 4), (4, 5), (0, 1), (10, 96), (0, 1), (10, 96), (0, 1), (10, 96), (0, 1), (10, 96), (0, 1), (10, 168), (1, 13), (0, 1), (10, 24), (0, 1), (10, 24), (0, 1), (10, 24), (5, 3), (0, 1), (10, 4), (0, 1), (10, 4), (4, 5), (0, 1), (10, 96), (0, 1), (10, 96), (0, 1), (10, 96), (0, 1), (10, 96), (0, 1), (10, 168), (2, 7), (0, 1), (10, 4), (0, 1), (10, 4), (13, 4), (0, 1), (10, 9), (0, 1), (10, 9), (6, 9), (5, 3), (0, 1), (10, 4), (0, 1), (10, 4), (0, 1), (10, 80)]
/-- the one method that reads the script -/
def zsc : Nat := 79
def zsh (r : Nat) : Nat × Nat := zshp.getD r (99, 0)
def zob (r k c : Nat) : Bool := Nat.beq (zsh r).1 k && Nat.blt r c
def zcat : zV → Nat
  | .inr (.inr (.inr _)) => 2
  | _ => 1
def zlk (k : Nat) : zL → Option zV
  | [] => none
  | q :: t => bif Nat.beq q.1 k then some q.2 else zlk k t
def zset1 (k : Nat) (v : zV) (L : zL) : zL := (k, v) :: L.filter (fun q => !(q.1 == k) && !(q.1 + 1 == k && zcat q.2 == 2))
def zset2 (k : Nat) (v : zV) (L : zL) : zL := (k, v) :: L.filter (fun q => !(q.1 == k) && (!(q.1 == k + 1) && !(q.1 + 1 == k && zcat q.2 == 2)))
def zargs : Nat → List zV → zL
  | _, [] => []
  | i, v :: vs => (i, v) :: zargs (if zcat v = 2 then i + 2 else i + 1) vs
def zcats (st : List zV) : Nat := (st.map zcat).sum
abbrev zfresh (σ : zS) : Prop := ∀ j, σ.1 σ.2.2.2 j = 0 ∧ σ.2.1 σ.2.2.2 j = 0 ∧ σ.2.2.1 σ.2.2.2 j = 0
def zkind : ArrayType → Nat
  | .int => 10 | .double => 13 | _ => 99
abbrev zNx : Type := Option (Option Prop × (Nat × (zL × (List zV × zS))))
def zldc (own idx : Nat) : Option zV := match zkl_int.find? (fun q => Nat.beq q.1 own && Nat.beq q.2.1 idx) with
  | some q => some (vi q.2.2.1)
  | none => match zkl_flt.find? (fun q => Nat.beq q.1 own && Nat.beq q.2.1 idx) with
    | some q => some (vf q.2.2.1)
    | none => none
/-- one step of an instruction that is no branch on values, call or return: what must hold (if anything), and the next frame and state -/
def zx (y : Nat) (i : Instr) (len a b pc : Nat) (L : zL) (st : List zV) (σ : zS) : zNx := match i with
  | .aload_n k => match zlk k.val L with
    | some (.inr (.inl r)) => some (none, pc + 1, L, vr r :: st, σ)
    | _ => none
  | .iload_n k => match zlk k.val L with
    | some (.inl x) => some (none, pc + 1, L, vi x :: st, σ)
    | _ => none
  | .iload k => match zlk k L with
    | some (.inl x) => some (none, pc + 2, L, vi x :: st, σ)
    | _ => none
  | .fload_n k => match zlk k.val L with
    | some (.inr (.inr (.inl x))) => some (none, pc + 1, L, vf x :: st, σ)
    | _ => none
  | .dload_n k => match zlk k.val L with
    | some (.inr (.inr (.inr x))) => some (none, pc + 1, L, vd x :: st, σ)
    | _ => none
  | .dload k => match zlk k L with
    | some (.inr (.inr (.inr x))) => some (none, pc + 2, L, vd x :: st, σ)
    | _ => none
  | .istore_n k => match st with
    | .inl x :: r => some (none, pc + 1, zset1 k.val (vi x) L, r, σ)
    | _ => none
  | .istore k => match st with
    | .inl x :: r => some (none, pc + 2, zset1 k (vi x) L, r, σ)
    | _ => none
  | .astore_n k => match st with
    | .inr (.inl x) :: r => some (none, pc + 1, zset1 k.val (vr x) L, r, σ)
    | _ => none
  | .fstore_n k => match st with
    | .inr (.inr (.inl x)) :: r => some (none, pc + 1, zset1 k.val (vf x) L, r, σ)
    | _ => none
  | .dstore k => match st with
    | .inr (.inr (.inr x)) :: r => some (none, pc + 2, zset2 k (vd x) L, r, σ)
    | _ => none
  | .iinc k n => match zlk k L with
    | some (.inl x) => some (some (zr (x + n)), pc + 3, zset1 k (vi (x + n)) L, st, σ)
    | _ => none
  | .iconst n => some (none, pc + 1, L, vi n :: st, σ)
  | .bipush n => some (none, pc + 2, L, vi n :: st, σ)
  | .sipush n => some (none, pc + 3, L, vi n :: st, σ)
  | .fconst k => match k with
    | 0 => some (none, pc + 1, L, vf FP.fconst0 :: st, σ)
    | 1 => some (none, pc + 1, L, vf FP.fconst1 :: st, σ)
    | 2 => some (none, pc + 1, L, vf FP.fconst2 :: st, σ)
  | .dconst k => match k with
    | 0 => some (none, pc + 1, L, vd FP.dconst0 :: st, σ)
    | 1 => none
  | .ldc idx => match zldc (zown y) idx with
    | some v => some (none, pc + 2, L, v :: st, σ)
    | none => none
  | .ldc_w idx => match zldc (zown y) idx with
    | some (.inl x) => some (none, pc + 3, L, vi x :: st, σ)
    | _ => none
  | .iadd => match st with
    | .inl q :: .inl p :: r => some (some (zr (p + q)), pc + 1, L, vi (p + q) :: r, σ)
    | _ => none
  | .isub => match st with
    | .inl q :: .inl p :: r => some (some (zr (p - q)), pc + 1, L, vi (p - q) :: r, σ)
    | _ => none
  | .imul => match st with
    | .inl q :: .inl p :: r => some (some (zr (p * q)), pc + 1, L, vi (p * q) :: r, σ)
    | _ => none
  | .idiv => match st with
    | .inl q :: .inl p :: r => some (some (0 ≤ p ∧ 0 < q), pc + 1, L, vi (p / q) :: r, σ)
    | _ => none
  | .irem => match st with
    | .inl q :: .inl p :: r => some (some (0 ≤ p ∧ 0 < q), pc + 1, L, vi (p % q) :: r, σ)
    | _ => none
  | .ishl => match st with
    | .inl q :: .inl p :: r => some (none, pc + 1, L, vi (Int32.ofInt p <<< (Int32.ofInt q &&& 31)).toInt :: r, σ)
    | _ => none
  | .ishr => match st with
    | .inl q :: .inl p :: r => some (none, pc + 1, L, vi (Int32.ofInt p >>> (Int32.ofInt q &&& 31)).toInt :: r, σ)
    | _ => none
  | .iushr => match st with
    | .inl q :: .inl p :: r => some (none, pc + 1, L, vi ((Int32.ofInt p).toUInt32 >>> ((Int32.ofInt q).toUInt32 &&& Int32.toUInt32 31)).toInt32.toInt :: r, σ)
    | _ => none
  | .ior => match st with
    | .inl q :: .inl p :: r => some (none, pc + 1, L, vi (Int32.ofInt p ||| Int32.ofInt q).toInt :: r, σ)
    | _ => none
  | .iand => match st with
    | .inl q :: .inl p :: r => some (none, pc + 1, L, vi (Int32.ofInt p &&& Int32.ofInt q).toInt :: r, σ)
    | _ => none
  | .i2c => match st with
    | .inl p :: r => some (some (0 ≤ p ∧ p ≤ 65535), pc + 1, L, vi p :: r, σ)
    | _ => none
  | .i2d => match st with
    | .inl p :: r => some (none, pc + 1, L, vd (FP.i2d (Int32.ofInt p)) :: r, σ)
    | _ => none
  | .d2f => match st with
    | .inr (.inr (.inr p)) :: r => some (some (vf_n32 (FP.d2f p)), pc + 1, L, vf (FP.d2f p) :: r, σ)
    | _ => none
  | .ddiv => match st with
    | .inr (.inr (.inr q)) :: .inr (.inr (.inr p)) :: r => some (some (vf_n64 (FP.ddiv p q)), pc + 1, L, vd (FP.ddiv p q) :: r, σ)
    | _ => none
  | .dmul => match st with
    | .inr (.inr (.inr q)) :: .inr (.inr (.inr p)) :: r => some (some (vf_n64 (FP.dmul p q)), pc + 1, L, vd (FP.dmul p q) :: r, σ)
    | _ => none
  | .dsub => match st with
    | .inr (.inr (.inr q)) :: .inr (.inr (.inr p)) :: r => some (some (vf_n64 (FP.dsub p q)), pc + 1, L, vd (FP.dsub p q) :: r, σ)
    | _ => none
  | .fdiv => match st with
    | .inr (.inr (.inl q)) :: .inr (.inr (.inl p)) :: r => some (some (vf_n32 (FP.fdiv p q)), pc + 1, L, vf (FP.fdiv p q) :: r, σ)
    | _ => none
  | .fmul => match st with
    | .inr (.inr (.inl q)) :: .inr (.inr (.inl p)) :: r => some (some (vf_n32 (FP.fmul p q)), pc + 1, L, vf (FP.fmul p q) :: r, σ)
    | _ => none
  | .fsub => match st with
    | .inr (.inr (.inl q)) :: .inr (.inr (.inl p)) :: r => some (some (vf_n32 (FP.fsub p q)), pc + 1, L, vf (FP.fsub p q) :: r, σ)
    | _ => none
  | .fneg => match st with
    | .inr (.inr (.inl p)) :: r => some (none, pc + 1, L, vf (FP.fneg p) :: r, σ)
    | _ => none
  | .f2i => match st with
    | .inr (.inr (.inl p)) :: r => some (none, pc + 1, L, vi (FP.f2i p).toInt :: r, σ)
    | _ => none
  | .fcmp op => match st with
    | .inr (.inr (.inl q)) :: .inr (.inr (.inl p)) :: r => some (none, pc + 1, L, vi (Op.cmpValue (FP.fcmp p q) op).toInt :: r, σ)
    | _ => none
  | .dcmp op => match st with
    | .inr (.inr (.inr q)) :: .inr (.inr (.inr p)) :: r => some (none, pc + 1, L, vi (Op.cmpValue (FP.dcmp p q) op).toInt :: r, σ)
    | _ => none
  | .dup => match st with
    | v :: r => bif Nat.beq (zcat v) 1 then some (none, pc + 1, L, v :: v :: r, σ) else none
    | _ => none
  | .dup2 => match st with
    | v :: w :: r => bif Nat.beq (zcat v) 1 && Nat.beq (zcat w) 1 then some (none, pc + 1, L, v :: w :: v :: w :: r, σ) else none
    | _ => none
  | .pop => match st with
    | v :: r => bif Nat.beq (zcat v) 1 then some (none, pc + 1, L, r, σ) else none
    | _ => none
  | .goto _ => some (none, a, L, st, σ)
  | .ifnull _ => match st with
    | .inr (.inl q) :: r => match q with
      | 0 => some (none, a, L, r, σ)
      | _ + 1 => some (none, pc + 3, L, r, σ)
    | _ => none
  | .ifnonnull _ => match st with
    | .inr (.inl q) :: r => match q with
      | 0 => some (none, pc + 3, L, r, σ)
      | _ + 1 => some (none, a, L, r, σ)
    | _ => none
  | .aconst_null => some (none, pc + 1, L, vr 0 :: st, σ)
  | .getfield _ => match st with
    | .inr (.inl q) :: r => bif zob q a σ.2.2.2 then some (none, pc + 3, L, (bif zfr a b then vr (σ.2.1 q b) else vi (σ.1 q b)) :: r, σ) else none
    | _ => none
  | .putfield _ => match st with
    | .inl x :: .inr (.inl q) :: r => bif zob q a σ.2.2.2 && !zfr a b && !(zT a b).2.2.2 then some (none, pc + 3, L, r, (zup σ.1 q b x, σ.2)) else none
    | .inr (.inl x) :: .inr (.inl q) :: r => bif zob q a σ.2.2.2 && zfr a b && (zT a b).2.2.2 && zini y && Nat.beq (zown y) a then some (none, pc + 3, L, r, (σ.1, zupP σ.2.1 q b x, σ.2.2)) else none
    | _ => none
  | .arraylength => match st with
    | .inr (.inl q) :: r => bif Nat.beq q 1000 && Nat.beq y zsc then some (none, pc + 1, L, vi (σ.1 1000 (-1)) :: r, σ) else bif Nat.ble 10 (zsh q).1 && Nat.ble (zsh q).1 14 && Nat.blt q σ.2.2.2 then some (none, pc + 1, L, vi ((zsh q).2 : Nat) :: r, σ) else none
    | _ => none
  | .iaload => match st with
    | .inl j :: .inr (.inl q) :: r => bif Nat.beq q 1000 && Nat.beq y zsc then some (some (0 ≤ j ∧ j < σ.1 1000 (-1)), pc + 1, L, vi (σ.1 1000 j) :: r, σ) else bif zob q 10 σ.2.2.2 then some (some (0 ≤ j ∧ j < ((zsh q).2 : Nat)), pc + 1, L, vi (σ.1 q j) :: r, σ) else none
    | _ => none
  | .daload => match st with
    | .inl j :: .inr (.inl q) :: r => bif zob q 13 σ.2.2.2 then some (some (0 ≤ j ∧ j < ((zsh q).2 : Nat)), pc + 1, L, vd (σ.2.2.1 q j) :: r, σ) else none
    | _ => none
  | .aaload => match st with
    | .inl j :: .inr (.inl q) :: r => bif zob q 14 σ.2.2.2 then some (some (0 ≤ j ∧ j < ((zsh q).2 : Nat)), pc + 1, L, vr (σ.2.1 q j) :: r, σ) else none
    | _ => none
  | .iastore => match st with
    | .inl x :: .inl j :: .inr (.inl q) :: r => bif zob q 10 σ.2.2.2 then some (some (0 ≤ j ∧ j < ((zsh q).2 : Nat)), pc + 1, L, r, (zup σ.1 q j x, σ.2)) else none
    | _ => none
  | .dastore => match st with
    | .inr (.inr (.inr x)) :: .inl j :: .inr (.inl q) :: r => bif zob q 13 σ.2.2.2 then some (some (0 ≤ j ∧ j < ((zsh q).2 : Nat)), pc + 1, L, r, (σ.1, σ.2.1, zupD σ.2.2.1 q j x, σ.2.2.2)) else none
    | _ => none
  | .aastore => match st with
    | .inr (.inl x) :: .inl j :: .inr (.inl q) :: r => bif zob q 14 σ.2.2.2 then some (some ((0 ≤ j ∧ j < ((zsh q).2 : Nat)) ∧ zob x 1 σ.2.2.2 = true), pc + 1, L, r, (σ.1, zupP σ.2.1 q j x, σ.2.2)) else none
    | _ => none
  | .newarray t => match st with
    | .inl n :: r => bif Nat.beq (zsh σ.2.2.2).1 (zkind t) && Nat.ble (zkind t) 13 then some (some (n = ((zsh σ.2.2.2).2 : Nat) ∧ zfresh σ), pc + 2, L, vr σ.2.2.2 :: r, (σ.1, σ.2.1, σ.2.2.1, σ.2.2.2 + 1)) else none
    | _ => none
  | .anewarray _ => match st with
    | .inl n :: r => bif Nat.beq (zsh σ.2.2.2).1 14 then some (some (n = ((zsh σ.2.2.2).2 : Nat) ∧ zfresh σ), pc + 3, L, vr σ.2.2.2 :: r, (σ.1, σ.2.1, σ.2.2.1, σ.2.2.2 + 1)) else none
    | _ => none
  | .new _ => bif Nat.beq (zsh σ.2.2.2).1 a && Nat.beq (zsh σ.2.2.2).2 (znf a) then some (some (zfresh σ), pc + 3, L, vr σ.2.2.2 :: st, (σ.1, σ.2.1, σ.2.2.1, σ.2.2.2 + 1)) else none
  | .invokespecial _ => match st with
    | .inr (.inl q) :: r => bif Nat.beq a 1002 && Nat.blt 0 q && Nat.ble (zcats r) 8 then some (none, pc + 3, L, r, σ) else none
    | _ => none
  | .invokestatic _ => bif Nat.beq a 1000 then (match st with
      | .inl n :: .inl dp :: .inr (.inl q1) :: .inl sp :: .inr (.inl q0) :: r => bif zob q0 10 σ.2.2.2 && zob q1 10 σ.2.2.2 && Nat.ble (zcats r) 8 then some (some (0 ≤ sp ∧ 0 ≤ dp ∧ 0 ≤ n ∧ sp + n ≤ ((zsh q0).2 : Nat) ∧ dp + n ≤ ((zsh q1).2 : Nat)), pc + 3, L, r, (fun r' k => if r' = q1 ∧ dp ≤ k ∧ k < dp + n then σ.1 q0 (sp + (k - dp)) else σ.1 r' k, σ.2)) else none
      | _ => none) else none
  | .tableswitch d lo hi offs => match st with
    | .inl x :: r => some (none, (if x < lo ∨ hi < x then pc + d.toNat else pc + (offs.toList.getD (x - lo).toNat d).toNat), L, r, σ)
    | _ => none
  | .lookupswitch d ps => match st with
    | .inl x :: r => some (none, pc + (Op.lookupswitch.offset ps.toList d x).toNat, L, r, σ)
    | _ => none
  | _ => none
def zst (y pc : Nat) (L : zL) (st : List zV) (σ : zS) : zNx := match zi y pc with
  | some (i, len, a, b) => zx y i len a b pc L st σ
  | none => none
/-- a branch on values: the condition, where to, where else, the stack behind it -/
def zcd (c : Jvm.ClassFile.Cond) (p q : Int) : Prop := match c with
  | .eq => p = q | .ne => ¬ p = q | .lt => p < q | .ge => q ≤ p | .gt => q < p | .le => p ≤ q
def zbr (y pc : Nat) (st : List zV) : Option (Prop × (Nat × (Nat × List zV))) := match zi y pc with
  | some (.ifCond c _, _, a, _) => match st with
    | .inl p :: r => some (zcd c p 0, a, pc + 3, r)
    | _ => none
  | some (.if_icmp c _, _, a, _) => match st with
    | .inl q :: .inl p :: r => some (zcd c p q, a, pc + 3, r)
    | _ => none
  | _ => none
/-- a call: the method, its arguments, the rest of the stack, what must hold of the receiver -/
def zcl (y pc : Nat) (st : List zV) (σ : zS) : Option (Nat × (List zV × List zV)) := match zi y pc with
  | some (.invokevirtual _, _, a, b) => match st.drop b with
    | .inr (.inl q) :: r => bif zob q (zown a) σ.2.2.2 && Nat.ble (zcats r) 8 && Nat.beq (st.take b).length b && Nat.ble (1 + zcats (st.take b)) (zml a) then some (a, vr q :: (st.take b).reverse, r) else none
    | _ => none
  | some (.invokestatic _, _, a, b) => bif Nat.blt a 1000 && Nat.ble (zcats (st.drop b)) 8 && Nat.beq (st.take b).length b && Nat.ble (zcats (st.take b)) (zml a) then some (a, (st.take b).reverse, st.drop b) else none
  | some (.invokespecial _, _, a, b) => match st.drop b with
    | .inr (.inl q) :: r => bif Nat.blt a 1000 && zob q (zown a) σ.2.2.2 && Nat.ble (zcats r) 8 && Nat.beq (st.take b).length b && Nat.ble (1 + zcats (st.take b)) (zml a) then some (a, vr q :: (st.take b).reverse, r) else none
    | _ => none
  | _ => none
/-- a return -/
def zre (y pc : Nat) (st : List zV) : Option (Option zV) := match zi y pc with
  | some (.ireturn, _) => match st with
    | [.inl x] => match zrt y with
      | some .int => some (some (vi x))
      | some .boolean => bif decide (x = 0) || decide (x = 1) then some (some (vi x)) else none
      | _ => none
    | _ => none
  | some (.dreturn, _) => match st with
    | [.inr (.inr (.inr x))] => match zrt y with
      | some .double => some (some (vd x))
      | _ => none
    | _ => none
  | some (.areturn, _) => match st with
    | [.inr (.inl x)] => match zrt y with
      | some (.object _) => some (some (vr x))
      | _ => none
    | _ => none
  | some (.return_, _) => match st with
    | [] => match zrt y with
      | none => some none
      | _ => none
    | _ => none
  | _ => none
/-- states that differ in nothing that is there -/
def zeq (σ τ : zS) : Prop := σ.2.2.2 = τ.2.2.2 ∧ (∀ j, τ.1 1000 j = σ.1 1000 j) ∧ ∀ r, r < σ.2.2.2 → ∀ j : Nat, j < (zsh r).2 → τ.1 r j = σ.1 r j ∧ τ.2.1 r j = σ.2.1 r j ∧ τ.2.2.1 r j = σ.2.2.1 r j
abbrev zRel : Type := Nat → Nat → zL → List zV → zS → Option zV → zS → Prop
def zCl (X : zRel) : Prop :=
  (∀ y pc L st σ g pc1 L1 st1 σ1 r τ, zst y pc L st σ = some (g, pc1, L1, st1, σ1) → (∀ P, g = some P → P) → X y pc1 L1 st1 σ1 r τ → X y pc L st σ r τ) ∧
  (∀ y pc L st σ c t f st1 r τ, zbr y pc st = some (c, t, f, st1) → (c → X y t L st1 σ r τ) → (¬ c → X y f L st1 σ r τ) → X y pc L st σ r τ) ∧
  (∀ y pc L st σ a As rest v σ1 r τ, zcl y pc st σ = some (a, As, rest) → X a 0 (zargs 0 As) [] σ v σ1 → X y (pc + 3) L (v.toList ++ rest) σ1 r τ → X y pc L st σ r τ) ∧
  (∀ y pc L st σ r, zre y pc st = some r → X y pc L st σ r σ) ∧
  (∀ y pc L L1 st σ r τ, (∀ q ∈ L1, q ∈ L) → X y pc L1 st σ r τ → X y pc L st σ r τ) ∧
  (∀ y pc L st σ σ1 r τ, zeq σ σ1 → X y pc L st σ1 r τ → X y pc L st σ r τ)
/-- from this frame and state the method comes to its end with this answer and state -/
def zRuns (y pc : Nat) (L : zL) (st : List zV) (σ : zS) (r : Option zV) (τ : zS) : Prop := ∀ X : zRel, zCl X → X y pc L st σ r τ
/-- a method at its start -/
abbrev zMet (y : Nat) (As : List zV) (σ : zS) (r : Option zV) (τ : zS) : Prop := zRuns y 0 (zargs 0 As) [] σ r τ
end
section
/-! ===== the pure machine against the machine ===== -/
def zvr : zV → Prop
  | .inl x => zr x
  | _ => True
def zad (base b r : Nat) : Nat := if r = 1000 then b else base + (r - 1)
def zrf (base b r : Nat) : Option Nat := if r = 0 then none else some (zad base b r)
def zcv (base b : Nat) : zV → Value
  | .inl x => .int (Int32.ofInt x)
  | .inr (.inl r) => va_rf (zrf base b r)
  | .inr (.inr (.inl f)) => .float f
  | .inr (.inr (.inr d)) => .double d
abbrev zcq (base b : Nat) (q : Nat × zV) : Nat × Value := (q.1, zcv base b q.2)
def zfv (base b : Nat) (σ : zS) (r ci k : Nat) : Value := bif zfr ci k then va_rf (zrf base b (σ.2.1 r k)) else .int (Int32.ofInt (σ.1 r k))
def zE (cA : Nat → ClassId) (base b : Nat) (σ : zS) (r : Nat) : va_E :=
  if (zsh r).1 < 8 then .inr ((zsh r).1, (List.range (zsh r).2).map (zfv base b σ r (zsh r).1))
  else if (zsh r).1 = 13 then .inl (cA 13, ((zsh r).2, .inr (.inr (.inr (.inl (fun j => σ.2.2.1 r j))))))
  else if (zsh r).1 = 14 then .inl (cA 14, ((zsh r).2, .inr (.inr (.inr (.inr (fun j => zrf base b (σ.2.1 r j)))))))
  else .inl (cA (zsh r).1, ((zsh r).2, .inl (fun j => Int32.ofInt (σ.1 r j))))
def zws (cA : Nat → ClassId) (base b : Nat) (σ : zS) : va_W := (List.range (σ.2.2.2 - 1)).map (fun k => (base + k, zE cA base b σ (k + 1)))
def ztys (cA : Nat → ClassId) : List (ClassId × FieldType) := [(cA 10, .int), (cA 13, .double), (cA 14, .object RX1)]
def zsz (c : Nat) : Nat := ((List.range c).map (fun r => (zsh r).2)).sum
def lw_good : List Cond := lw_tbl.filter goodWord
/-- the words that a caller hands on itself -/
def zisn : Cond → Bool
  | .methodLinkNest _ _ _ _ => true
  | .arrayOver _ => true
  | _ => false
/-- the numbers that are there are ints -/
def zRg (σ : zS) : Prop := ∀ r, r < σ.2.2.2 → ∀ j : Nat, j < (zsh r).2 → zr (σ.1 r j)
def zH (cA : Nat → ClassId) (D : va_G) (base b Lx : Nat) (xs : Nat → Int32) (s : State) (σ : zS) (H : Heap) (locs : List Loc) (cells : Nat) : Prop :=
  1 ≤ σ.2.2.2 ∧ H.size = base + (σ.2.2.2 - 1) ∧ va_P D vwCl (zws cA base b σ) H ∧ zRg σ ∧ (σ.1 1000 (-1) = Lx ∧ ∀ j : Nat, j < Lx → σ.1 1000 j = (xs j).toInt) ∧ va_S (fun q => base ≤ q) s.heap H locs ∧ s.heap.size + cells = base + (σ.2.2.2 - 1)
/-- what stays the same through a method's body -/
def zCx (p : Program) (R : Room) (s : State) (m : MethodId) (args : Array Value) (meth : Method) (c : Code) (cA : Nat → ClassId) (D : va_G) (base b Lx : Nat) (xs : Nat → Int32) (y : Nat) : Prop :=
  p.tables.exec = Jvm.exec ∧ c.code = zb y ∧ c.maxLocals = zml y ∧ s.vm.findClass (zR (zown y)) = some m.cls ∧ (∀ w ∈ lw_good, w.before args s = true) ∧ (zini y = true → meth.name = "<init>") ∧ va_K D vwCl (ztys cA) s ∧ zrank y ≤ R.frames ∧ zneed y ≤ R.locals ∧ (∀ w ∈ lw_tbl, zisn w = true → va_Nw w s) ∧ y < zN ∧ Lx ≤ 260 ∧ (b < base ∧ va_X b Lx xs s s.heap) ∧ base ≤ s.heap.size
theorem zcat_cv {base b : Nat} (v : zV) : (zcv base b v).category = zcat v := by
  rcases v with x | r | f | d
  · rfl
  · show (va_rf (zrf base b r)).category = 1
    cases zrf base b r <;> rfl
  · rfl
  · rfl
theorem zcv_0 {base b : Nat} : zcv base b (vr 0) = .null := rfl
theorem zcv_r {base b r : Nat} (h : r ≠ 0) : zcv base b (vr r) = .ref (zad base b r) := by
  show va_rf (zrf base b r) = _
  rw [zrf, if_neg h]; rfl
theorem zset1_map {base b k : Nat} {v : zV} {L : zL} : (k, zcv base b v) :: (L.map (zcq base b)).filter (fun q => !(q.1 == k) && !(q.1 + 1 == k && q.2.category == 2)) = (zset1 k v L).map (zcq base b) := by
  simp [zset1, List.filter_map, Function.comp_def, zcat_cv]
theorem zset2_map {base b k : Nat} {v : zV} {L : zL} : (k, zcv base b v) :: (L.map (zcq base b)).filter (fun q => !(q.1 == k) && (!(q.1 == k + 1) && !(q.1 + 1 == k && q.2.category == 2))) = (zset2 k v L).map (zcq base b) := by
  simp [zset2, List.filter_map, Function.comp_def, zcat_cv]
theorem zset1_r {k : Nat} {v : zV} {L : zL} (h : ∀ q ∈ L, zvr q.2) (hv : zvr v) : ∀ q ∈ zset1 k v L, zvr q.2 := by
  intro q hq
  rcases List.mem_cons.mp hq with rfl | hq
  · exact hv
  · exact h q ((List.mem_filter.mp hq).1)
theorem zset2_r {k : Nat} {v : zV} {L : zL} (h : ∀ q ∈ L, zvr q.2) (hv : zvr v) : ∀ q ∈ zset2 k v L, zvr q.2 := by
  intro q hq
  rcases List.mem_cons.mp hq with rfl | hq
  · exact hv
  · exact h q ((List.mem_filter.mp hq).1)
theorem zlk_mem {k : Nat} {v : zV} : ∀ {L : zL}, zlk k L = some v → (k, v) ∈ L
  | [], h => by simp [zlk] at h
  | q :: t, h => by
    unfold zlk at h
    by_cases hq : q.1 = k
    · subst hq
      simp at h
      subst h
      exact List.mem_cons_self
    · have : Nat.beq q.1 k = false := by
        cases hb : Nat.beq q.1 k with
        | false => rfl
        | true => exact absurd (Nat.eq_of_beq_eq_true hb) hq
      rw [this] at h
      exact List.mem_cons_of_mem _ (zlk_mem h)
theorem zlk_lv {ls : Array Slot} {n base b k : Nat} {v : zV} {L : zL} (hl : lv_has ls n (L.map (zcq base b))) (h : zlk k L = some v) : ls[k]? = some (.val (zcv base b v)) := hl.2.2 (k, zcv base b v) (List.mem_map.mpr ⟨(k, v), zlk_mem h, rfl⟩)
theorem zws_get {cA : Nat → ClassId} {base b r : Nat} {σ : zS} (h1 : 1 ≤ r) (h2 : r < σ.2.2.2) : (zws cA base b σ)[r - 1]? = some (base + (r - 1), zE cA base b σ r) := by
  rw [zws, List.getElem?_map, List.getElem?_range (by omega)]
  simp only [Option.map_some]
  rw [show r - 1 + 1 = r by omega]
theorem zws_at {cA : Nat → ClassId} {base b k : Nat} {σ : zS} {q : Nat × va_E} (h : (zws cA base b σ)[k]? = some q) : k < σ.2.2.2 - 1 ∧ q = (base + k, zE cA base b σ (k + 1)) := by
  have hl := (List.getElem?_eq_some_iff.mp h).1
  have hk : k < σ.2.2.2 - 1 := by simpa [zws] using hl
  rw [zws, List.getElem?_map, List.getElem?_range hk] at h
  exact ⟨hk, (Option.some.inj h).symm⟩
theorem zws_len {cA : Nat → ClassId} {base b : Nat} {σ : zS} : (zws cA base b σ).length = σ.2.2.2 - 1 := by simp [zws]
theorem zws_D {cA : Nat → ClassId} {base b : Nat} {σ : zS} : va_D (fun q => base ≤ q) (zws cA base b σ) := by
  refine ⟨fun i j p q hi hj he => ?_, fun k q h => ?_⟩
  · obtain ⟨-, rfl⟩ := zws_at hi
    obtain ⟨-, rfl⟩ := zws_at hj
    have : base + i = base + j := he
    omega
  · obtain ⟨-, rfl⟩ := zws_at h
    exact Nat.le_add_right _ _
theorem zE_congr {cA : Nat → ClassId} {base b r : Nat} {σ τ : zS} (h1 : σ.1 r = τ.1 r) (h2 : σ.2.1 r = τ.2.1 r) (h3 : σ.2.2.1 r = τ.2.2.1 r) : zE cA base b σ r = zE cA base b τ r := by
  unfold zE zfv
  rw [h1, h2, h3]
theorem zws_set {cA : Nat → ClassId} {base b r : Nat} {σ τ : zS} {E : va_E} (h1 : 1 ≤ r) (h2 : r < σ.2.2.2) (hc : τ.2.2.2 = σ.2.2.2) (hE : zE cA base b τ r = E) (ho : ∀ q, q ≠ r → zE cA base b τ q = zE cA base b σ q) : (zws cA base b σ).set (r - 1) (base + (r - 1), E) = zws cA base b τ := by
  apply List.ext_getElem?
  intro k
  by_cases hk : k = r - 1
  · subst hk
    rw [List.getElem?_set_self (by rw [zws_len]; omega), zws_get h1 (by rw [hc]; exact h2), hE]
  · rw [List.getElem?_set_ne (Ne.symm hk)]
    by_cases hl : k < σ.2.2.2 - 1
    · rw [zws, List.getElem?_map, List.getElem?_range hl, zws, List.getElem?_map, List.getElem?_range (by rw [hc]; exact hl)]
      simp only [Option.map_some]
      rw [ho (k + 1) (by omega)]
    · rw [List.getElem?_eq_none (by rw [zws_len]; omega), List.getElem?_eq_none (by rw [zws_len, hc]; omega)]
theorem zws_push {cA : Nat → ClassId} {base b : Nat} {σ τ : zS} {E : va_E} (h1 : 1 ≤ σ.2.2.2) (hc : τ.2.2.2 = σ.2.2.2 + 1) (hE : zE cA base b τ σ.2.2.2 = E) (ho : ∀ q, q ≠ σ.2.2.2 → zE cA base b τ q = zE cA base b σ q) : zws cA base b σ ++ [(base + (σ.2.2.2 - 1), E)] = zws cA base b τ := by
  have e : τ.2.2.2 - 1 = (σ.2.2.2 - 1) + 1 := by omega
  rw [zws, zws, e, List.range_succ, List.map_append]
  congr 1
  · apply List.map_congr_left
    intro k hk
    rw [List.mem_range] at hk
    rw [ho (k + 1) (by omega)]
  · simp only [List.map_cons, List.map_nil]
    rw [show σ.2.2.2 - 1 + 1 = σ.2.2.2 by omega, hE]
theorem zob_spec {r k c : Nat} (h : zob r k c = true) (hk : k ≠ 99) : (zsh r).1 = k ∧ r < c ∧ 1 ≤ r ∧ r ≠ 1000 := by
  unfold zob at h
  simp only [Bool.and_eq_true] at h
  have h1 := Nat.eq_of_beq_eq_true h.1
  have h2 : r < c := by simpa using h.2
  refine ⟨h1, h2, ?_, ?_⟩
  · rcases Nat.eq_zero_or_pos r with rfl | h
    · exact absurd h1.symm (by simpa [zsh, zshp] using hk)
    · exact h
  · rintro rfl
    exact hk h1.symm
theorem zad_of {base b r : Nat} (h : r ≠ 1000) : zad base b r = base + (r - 1) := by rw [zad, if_neg h]
theorem zcv_o {base b r : Nat} (h : 1 ≤ r) (h2 : r ≠ 1000) : zcv base b (vr r) = .ref (base + (r - 1)) := by rw [zcv_r (by omega), zad_of h2]
theorem zr_of (x : Int32) : zr x.toInt := by
  have h1 := x.toInt_lt
  have h2 := x.le_toInt
  exact ⟨by omega, by omega⟩
theorem zti {x : Int} (h : zr x) : (Int32.ofInt x).toInt = x := Int32.toInt_ofInt_of_le (by have := h.1; omega) (by have := h.2; omega)
theorem zit (x : Int32) : Int32.ofInt x.toInt = x := Int32.ofInt_toInt x
theorem z_lt {x y : Int} (hx : zr x) (hy : zr y) : Int32.ofInt x < Int32.ofInt y ↔ x < y := by rw [Int32.lt_iff_toInt_lt, zti hx, zti hy]
theorem z_le {x y : Int} (hx : zr x) (hy : zr y) : Int32.ofInt x ≤ Int32.ofInt y ↔ x ≤ y := by rw [Int32.le_iff_toInt_le, zti hx, zti hy]
theorem z_eq {x y : Int} (hx : zr x) (hy : zr y) : Int32.ofInt x = Int32.ofInt y ↔ x = y := ⟨fun h => by rw [← zti hx, ← zti hy, h], fun h => by rw [h]⟩
theorem z_in {j : Int} {n : Nat} (h0 : 0 ≤ j) (h1 : j < n) (hn : n < 2137483648) : vp_in (Int32.ofInt j) n ∧ (Int32.ofInt j).toNatClampNeg = j.toNat := by
  obtain ⟨k, rfl⟩ : ∃ k : Nat, j = k := ⟨j.toNat, by omega⟩
  have hk : k < n := by omega
  have e : Int32.ofInt (k : Int) = nI k := rfl
  rw [e]
  exact ⟨vp_in_nI hk (by omega), by rw [nI_clamp (by omega)]; rfl⟩
theorem zsh_le : ∀ r, (zsh r).2 ≤ 168 := by
  intro r
  rw [zsh, List.getD_eq_getElem?_getD]
  cases h : zshp[r]? with
  | none => simp
  | some q =>
    have : ∀ q ∈ zshp, q.2 ≤ 168 := by decide +kernel
    simpa using this q (List.mem_of_getElem? h)
theorem zsh_nk : ∀ r, (zsh r).1 ≠ 11 ∧ (zsh r).1 ≠ 12 := by
  intro r
  rw [zsh, List.getD_eq_getElem?_getD]
  cases h : zshp[r]? with
  | none => simp
  | some q =>
    have : ∀ q ∈ zshp, q.1 ≠ 11 ∧ q.1 ≠ 12 := by decide +kernel
    simpa using this q (List.mem_of_getElem? h)
theorem zrg_at {σ : zS} {q : Nat} {j : Int} (h : zRg σ) (hq : q < σ.2.2.2) (h0 : 0 ≤ j) (h1 : j < ((zsh q).2 : Nat)) : zr (σ.1 q j) := by
  obtain ⟨k, rfl⟩ : ∃ k : Nat, j = k := ⟨j.toNat, by omega⟩
  exact h q hq k (by omega)
theorem zgood {w : Cond} (h : w ∈ lw_tbl) (hg : goodWord w = true) : w ∈ lw_good := List.mem_filter.mpr ⟨h, hg⟩
theorem zgi {w : Cond} {i : Nat} (h : lw_tbl[i]? = some w) (hg : goodWord w = true) : w ∈ lw_good := zgood (List.mem_of_getElem? h) hg
theorem zsz_s (c : Nat) : zsz (c + 1) = zsz c + (zsh c).2 := by
  simp [zsz, List.range_succ]
theorem zsz_mono {c d : Nat} (h : c ≤ d) : zsz c ≤ zsz d := by
  induction d with
  | zero => rw [Nat.le_zero.mp h]; exact Nat.le_refl _
  | succ d ih =>
    rcases Nat.lt_or_eq_of_le h with h1 | h1
    · rw [zsz_s]
      exact Nat.le_trans (ih (by omega)) (Nat.le_add_right _ _)
    · rw [h1]; exact Nat.le_refl _
theorem zlay : ∀ c, c < 8 → ∀ w ∈ u_ws (zR c) (zT c) (znf c), w ∈ lw_tbl
  | 0, _ => fun w hw => by
    have hw : w ∈ u_ws RX0 TX0 1 := hw
    rw [zlay0] at hw
    obtain ⟨i, -, hi⟩ := List.mem_filterMap.mp hw
    exact List.mem_of_getElem? hi
  | 1, _ => fun w hw => by
    have hw : w ∈ u_ws RX1 TX1 13 := hw
    rw [zlay1] at hw
    obtain ⟨i, -, hi⟩ := List.mem_filterMap.mp hw
    exact List.mem_of_getElem? hi
  | 2, _ => fun w hw => by
    have hw : w ∈ u_ws RX2 TX2 7 := hw
    rw [zlay2] at hw
    obtain ⟨i, -, hi⟩ := List.mem_filterMap.mp hw
    exact List.mem_of_getElem? hi
  | 3, _ => fun w hw => by
    have hw : w ∈ u_ws RX3 TX3 2 := hw
    rw [zlay3] at hw
    obtain ⟨i, -, hi⟩ := List.mem_filterMap.mp hw
    exact List.mem_of_getElem? hi
  | 4, _ => fun w hw => by
    have hw : w ∈ u_ws RX4 TX4 5 := hw
    rw [zlay4] at hw
    obtain ⟨i, -, hi⟩ := List.mem_filterMap.mp hw
    exact List.mem_of_getElem? hi
  | 5, _ => fun w hw => by
    have hw : w ∈ u_ws RX5 TX5 3 := hw
    rw [zlay5] at hw
    obtain ⟨i, -, hi⟩ := List.mem_filterMap.mp hw
    exact List.mem_of_getElem? hi
  | 6, _ => fun w hw => by
    have hw : w ∈ u_ws RX6 TX6 9 := hw
    rw [zlay6] at hw
    obtain ⟨i, -, hi⟩ := List.mem_filterMap.mp hw
    exact List.mem_of_getElem? hi
  | 7, _ => fun w hw => by
    have hw : w ∈ u_ws RX7 TX7 4 := hw
    rw [zlay7] at hw
    obtain ⟨i, -, hi⟩ := List.mem_filterMap.mp hw
    exact List.mem_of_getElem? hi
  | n + 8, h => absurd h (by omega)
theorem zuw : ∀ c, c < 8 → ∀ w ∈ u_ws (zR c) (zT c) (znf c), w ∈ lw_good := fun c hc w hw => zgood (zlay c hc w hw) (by
  obtain ⟨k, -, rfl⟩ := List.mem_map.mp hw
  unfold u_lay
  split <;> rfl)
theorem zvw : ∀ c, c < 8 → vwCl[c]? = some (zR c, zT c, znf c)
  | 0, _ => rfl
  | 1, _ => rfl
  | 2, _ => rfl
  | 3, _ => rfl
  | 4, _ => rfl
  | 5, _ => rfl
  | 6, _ => rfl
  | 7, _ => rfl
  | n + 8, h => absurd h (by omega)
theorem zty_ok : ∀ c, c < 8 → ∀ k, k < znf c → parseFieldDescriptor (zT c k).2.2.1 = some (zty c k)
  | 0, _ => tyX0_ok
  | 1, _ => tyX1_ok
  | 2, _ => tyX2_ok
  | 3, _ => tyX3_ok
  | 4, _ => tyX4_ok
  | 5, _ => tyX5_ok
  | 6, _ => tyX6_ok
  | 7, _ => tyX7_ok
  | n + 8, h => absurd h (by omega)
theorem znm : ∀ c, c < 8 → ∀ a, a < znf c → ∀ b, b < znf c → a ≠ b → (zT c a).2.1 ≠ (zT c b).2.1
  | 0, _ => nmX0
  | 1, _ => nmX1
  | 2, _ => nmX2
  | 3, _ => nmX3
  | 4, _ => nmX4
  | 5, _ => nmX5
  | 6, _ => nmX6
  | 7, _ => nmX7
  | n + 8, h => absurd h (by omega)
theorem ztf : ∀ c, c < 8 → ∀ k, k < znf c → (zfr c k = false → zty c k = .int) ∧ (zfr c k = true → (∃ C, zty c k = .object C) ∨ ∃ t, zty c k = .array t) := by
  intro c hc k hk
  have h : (List.range 8).all (fun c => (List.range (znf c)).all (fun k => match zfr c k, zty c k with | false, .int => true | true, .object _ => true | true, .array _ => true | _, _ => false)) = true := by decide +kernel
  have h1 := List.all_eq_true.mp h c (List.mem_range.mpr hc)
  have h2 := List.all_eq_true.mp h1 k (List.mem_range.mpr hk)
  revert h2
  cases zfr c k <;> cases zty c k <;> simp
theorem zshn : ∀ r, (zsh r).1 < 8 → (zsh r).2 = znf (zsh r).1 := by
  intro r hr
  by_cases h : r < 137
  · have h0 : (List.range 137).all (fun r => decide ((zsh r).1 < 8 → (zsh r).2 = znf (zsh r).1)) = true := by decide +kernel
    have h1 := List.all_eq_true.mp h0 r (List.mem_range.mpr h)
    exact (decide_eq_true_eq.mp h1) hr
  · have : zsh r = (99, 0) := by
      rw [zsh, List.getD_eq_getElem?_getD, List.getElem?_eq_none (by show 137 ≤ r; omega)]; rfl
    rw [this] at hr
    exact absurd hr (by decide)
end
section
abbrev zW (p : Program) (l : Launch) (e : Env) (R : Room) (s : State) (m : MethodId) (args : Array Value) (below : List Frame) (meth : Method) (c : Code) (base b : Nat) (H : Heap) (locs : List Loc) (cells slots : Nat) (Q : State → Prop) (pc : Nat) (ls : Array Slot) (st : List zV) : Prop :=
  W p l e R s m args below meth c H locs cells slots Q (F0 m pc ls (st.map (zcv base b)))
/-- what comes behind a step -/
abbrev zK (p : Program) (l : Launch) (e : Env) (R : Room) (s : State) (m : MethodId) (args : Array Value) (below : List Frame) (meth : Method) (c : Code) (cA : Nat → ClassId) (D : va_G) (base b Lx : Nat) (xs : Nat → Int32) (y : Nat) (cells slots : Nat) (Q : State → Prop) (σ : zS) (pc1 : Nat) (L1 : zL) (st1 : List zV) (σ1 : zS) : Prop :=
  ∀ (ls1 : Array Slot) (H1 : Heap) (locs1 : List Loc), zH cA D base b Lx xs s σ1 H1 locs1 (cells + (σ1.2.2.2 - σ.2.2.2)) → (∀ q ∈ L1, zvr q.2) → (∀ v ∈ st1, zvr v) → lv_has ls1 (zml y) (L1.map (zcq base b)) → zW p l e R s m args below meth c base b H1 locs1 (cells + (σ1.2.2.2 - σ.2.2.2)) (slots + (zsz σ1.2.2.2 - zsz σ.2.2.2)) Q pc1 ls1 st1
theorem zk0 {p : Program} {l : Launch} {e : Env} {R : Room} {s : State} {m : MethodId} {args : Array Value} {below : List Frame} {meth : Method} {c : Code} {cA : Nat → ClassId} {D : va_G} {base b Lx : Nat} {xs : Nat → Int32} {y : Nat} {H : Heap} {locs : List Loc} {cells slots : Nat} {Q : State → Prop} {ls : Array Slot} {σ : zS} {pc1 : Nat} {L1 : zL} {st1 : List zV} (kk : zK p l e R s m args below meth c cA D base b Lx xs y cells slots Q σ pc1 L1 st1 σ) (hH : zH cA D base b Lx xs s σ H locs cells) (hL : ∀ q ∈ L1, zvr q.2) (hS : ∀ v ∈ st1, zvr v) (hl : lv_has ls (zml y) (L1.map (zcq base b))) : zW p l e R s m args below meth c base b H locs cells slots Q pc1 ls st1 := by
  have h := kk ls H locs (by simpa only [Nat.sub_self, Nat.add_zero] using hH) hL hS hl
  simpa only [Nat.sub_self, Nat.add_zero] using h
theorem zkc {p : Program} {l : Launch} {e : Env} {R : Room} {s : State} {m : MethodId} {args : Array Value} {below : List Frame} {meth : Method} {c : Code} {cA : Nat → ClassId} {D : va_G} {base b Lx : Nat} {xs : Nat → Int32} {y : Nat} {H : Heap} {locs : List Loc} {cells slots : Nat} {Q : State → Prop} {ls : Array Slot} {σ σ1 : zS} {pc1 : Nat} {L1 : zL} {st1 : List zV} (kk : zK p l e R s m args below meth c cA D base b Lx xs y cells slots Q σ pc1 L1 st1 σ1) (hc : σ1.2.2.2 = σ.2.2.2) (hH : zH cA D base b Lx xs s σ1 H locs cells) (hL : ∀ q ∈ L1, zvr q.2) (hS : ∀ v ∈ st1, zvr v) (hl : lv_has ls (zml y) (L1.map (zcq base b))) : zW p l e R s m args below meth c base b H locs cells slots Q pc1 ls st1 := by
  have h := kk ls H locs (by rw [hc]; simpa only [Nat.sub_self, Nat.add_zero] using hH) hL hS hl
  rw [hc] at h
  simpa only [Nat.sub_self, Nat.add_zero] using h
theorem zcons {P : zV → Prop} {v : zV} {r : List zV} (hv : P v) (hr : ∀ w ∈ r, P w) : ∀ w ∈ v :: r, P w := fun w h => (List.mem_cons.mp h).elim (fun e => e ▸ hv) (hr w)
theorem zct {P : zV → Prop} {v : zV} {r : List zV} (h : ∀ w ∈ v :: r, P w) : ∀ w ∈ r, P w := fun w hw => h w (List.mem_cons_of_mem _ hw)
theorem zch {P : zV → Prop} {v : zV} {r : List zV} (h : ∀ w ∈ v :: r, P w) : P v := h v List.mem_cons_self
theorem zlen {pc n len : Nat} {bs : ByteArray} {i : Instr} (hd : decode bs pc = .ok (i, len)) (h : Nat.beq len n = true) : decode bs pc = .ok (i, n) := by
  rw [← Nat.eq_of_beq_eq_true h]; exact hd
set_option maxHeartbeats 1000000 in
theorem zs_iload_n {p : Program} {l : Launch} {e : Env} {R : Room} {s : State} {m : MethodId} {args : Array Value} {below : List Frame} {meth : Method} {c : Code} {cA : Nat → ClassId} {D : va_G} {base b Lx : Nat} {xs : Nat → Int32} {y : Nat} {H : Heap} {locs : List Loc} {cells slots : Nat} {Q : State → Prop} {ls : Array Slot} {pc len ia ib pc1 : Nat} {L L1 : zL} {st st1 : List zV} {σ σ1 : zS} {g : Option Prop} {k : Fin 4} (C : zCx p R s m args meth c cA D base b Lx xs y) (hH : zH cA D base b Lx xs s σ H locs cells) (hL : ∀ q ∈ L, zvr q.2) (hS : ∀ v ∈ st, zvr v) (hl : lv_has ls (zml y) (L.map (zcq base b))) (hd : decode (zb y) pc = .ok (.iload_n k, len)) (ha : zaux y pc (.iload_n k) len ia ib = true) (h : zx y (.iload_n k) len ia ib pc L st σ = some (g, pc1, L1, st1, σ1)) (hg : ∀ P, g = some P → P) (hrc : cells + (σ1.2.2.2 - σ.2.2.2) ≤ R.cells) (hrs : slots + (zsz σ1.2.2.2 - zsz σ.2.2.2) ≤ R.slots)
    (kk : zK p l e R s m args below meth c cA D base b Lx xs y cells slots Q σ pc1 L1 st1 σ1) : zW p l e R s m args below meth c base b H locs cells slots Q pc ls st := by
  simp only [zx] at h
  split at h
  · next v hv =>
    simp only [Option.some.injEq, Prod.mk.injEq] at h
    obtain ⟨rfl, rfl, rfl, rfl, rfl⟩ := h
    have hq := zlk_lv hl hv
    refine lv_iload_n C.1 C.2.1 (zlen hd ha) rfl hq ?_
    exact zk0 kk hH hL (zcons (hL _ (zlk_mem hv)) hS) hl
  · cases h
set_option maxHeartbeats 1000000 in
theorem zs_iload {p : Program} {l : Launch} {e : Env} {R : Room} {s : State} {m : MethodId} {args : Array Value} {below : List Frame} {meth : Method} {c : Code} {cA : Nat → ClassId} {D : va_G} {base b Lx : Nat} {xs : Nat → Int32} {y : Nat} {H : Heap} {locs : List Loc} {cells slots : Nat} {Q : State → Prop} {ls : Array Slot} {pc len ia ib pc1 : Nat} {L L1 : zL} {st st1 : List zV} {σ σ1 : zS} {g : Option Prop} {k : Nat} (C : zCx p R s m args meth c cA D base b Lx xs y) (hH : zH cA D base b Lx xs s σ H locs cells) (hL : ∀ q ∈ L, zvr q.2) (hS : ∀ v ∈ st, zvr v) (hl : lv_has ls (zml y) (L.map (zcq base b))) (hd : decode (zb y) pc = .ok (.iload k, len)) (ha : zaux y pc (.iload k) len ia ib = true) (h : zx y (.iload k) len ia ib pc L st σ = some (g, pc1, L1, st1, σ1)) (hg : ∀ P, g = some P → P) (hrc : cells + (σ1.2.2.2 - σ.2.2.2) ≤ R.cells) (hrs : slots + (zsz σ1.2.2.2 - zsz σ.2.2.2) ≤ R.slots)
    (kk : zK p l e R s m args below meth c cA D base b Lx xs y cells slots Q σ pc1 L1 st1 σ1) : zW p l e R s m args below meth c base b H locs cells slots Q pc ls st := by
  simp only [zx] at h
  split at h
  · next v hv =>
    simp only [Option.some.injEq, Prod.mk.injEq] at h
    obtain ⟨rfl, rfl, rfl, rfl, rfl⟩ := h
    have hq := zlk_lv hl hv
    refine lv_iload C.1 C.2.1 (zlen hd ha)  hq ?_
    exact zk0 kk hH hL (zcons (hL _ (zlk_mem hv)) hS) hl
  · cases h
set_option maxHeartbeats 1000000 in
theorem zs_fload_n {p : Program} {l : Launch} {e : Env} {R : Room} {s : State} {m : MethodId} {args : Array Value} {below : List Frame} {meth : Method} {c : Code} {cA : Nat → ClassId} {D : va_G} {base b Lx : Nat} {xs : Nat → Int32} {y : Nat} {H : Heap} {locs : List Loc} {cells slots : Nat} {Q : State → Prop} {ls : Array Slot} {pc len ia ib pc1 : Nat} {L L1 : zL} {st st1 : List zV} {σ σ1 : zS} {g : Option Prop} {k : Fin 4} (C : zCx p R s m args meth c cA D base b Lx xs y) (hH : zH cA D base b Lx xs s σ H locs cells) (hL : ∀ q ∈ L, zvr q.2) (hS : ∀ v ∈ st, zvr v) (hl : lv_has ls (zml y) (L.map (zcq base b))) (hd : decode (zb y) pc = .ok (.fload_n k, len)) (ha : zaux y pc (.fload_n k) len ia ib = true) (h : zx y (.fload_n k) len ia ib pc L st σ = some (g, pc1, L1, st1, σ1)) (hg : ∀ P, g = some P → P) (hrc : cells + (σ1.2.2.2 - σ.2.2.2) ≤ R.cells) (hrs : slots + (zsz σ1.2.2.2 - zsz σ.2.2.2) ≤ R.slots)
    (kk : zK p l e R s m args below meth c cA D base b Lx xs y cells slots Q σ pc1 L1 st1 σ1) : zW p l e R s m args below meth c base b H locs cells slots Q pc ls st := by
  simp only [zx] at h
  split at h
  · next v hv =>
    simp only [Option.some.injEq, Prod.mk.injEq] at h
    obtain ⟨rfl, rfl, rfl, rfl, rfl⟩ := h
    have hq := zlk_lv hl hv
    refine lv_fload_n C.1 C.2.1 (zlen hd ha) rfl hq ?_
    exact zk0 kk hH hL (zcons (hL _ (zlk_mem hv)) hS) hl
  · cases h
set_option maxHeartbeats 1000000 in
theorem zs_dload_n {p : Program} {l : Launch} {e : Env} {R : Room} {s : State} {m : MethodId} {args : Array Value} {below : List Frame} {meth : Method} {c : Code} {cA : Nat → ClassId} {D : va_G} {base b Lx : Nat} {xs : Nat → Int32} {y : Nat} {H : Heap} {locs : List Loc} {cells slots : Nat} {Q : State → Prop} {ls : Array Slot} {pc len ia ib pc1 : Nat} {L L1 : zL} {st st1 : List zV} {σ σ1 : zS} {g : Option Prop} {k : Fin 4} (C : zCx p R s m args meth c cA D base b Lx xs y) (hH : zH cA D base b Lx xs s σ H locs cells) (hL : ∀ q ∈ L, zvr q.2) (hS : ∀ v ∈ st, zvr v) (hl : lv_has ls (zml y) (L.map (zcq base b))) (hd : decode (zb y) pc = .ok (.dload_n k, len)) (ha : zaux y pc (.dload_n k) len ia ib = true) (h : zx y (.dload_n k) len ia ib pc L st σ = some (g, pc1, L1, st1, σ1)) (hg : ∀ P, g = some P → P) (hrc : cells + (σ1.2.2.2 - σ.2.2.2) ≤ R.cells) (hrs : slots + (zsz σ1.2.2.2 - zsz σ.2.2.2) ≤ R.slots)
    (kk : zK p l e R s m args below meth c cA D base b Lx xs y cells slots Q σ pc1 L1 st1 σ1) : zW p l e R s m args below meth c base b H locs cells slots Q pc ls st := by
  simp only [zx] at h
  split at h
  · next v hv =>
    simp only [Option.some.injEq, Prod.mk.injEq] at h
    obtain ⟨rfl, rfl, rfl, rfl, rfl⟩ := h
    have hq := zlk_lv hl hv
    refine lv_dload_n C.1 C.2.1 (zlen hd ha) rfl hq ?_
    exact zk0 kk hH hL (zcons (hL _ (zlk_mem hv)) hS) hl
  · cases h
set_option maxHeartbeats 1000000 in
theorem zs_dload {p : Program} {l : Launch} {e : Env} {R : Room} {s : State} {m : MethodId} {args : Array Value} {below : List Frame} {meth : Method} {c : Code} {cA : Nat → ClassId} {D : va_G} {base b Lx : Nat} {xs : Nat → Int32} {y : Nat} {H : Heap} {locs : List Loc} {cells slots : Nat} {Q : State → Prop} {ls : Array Slot} {pc len ia ib pc1 : Nat} {L L1 : zL} {st st1 : List zV} {σ σ1 : zS} {g : Option Prop} {k : Nat} (C : zCx p R s m args meth c cA D base b Lx xs y) (hH : zH cA D base b Lx xs s σ H locs cells) (hL : ∀ q ∈ L, zvr q.2) (hS : ∀ v ∈ st, zvr v) (hl : lv_has ls (zml y) (L.map (zcq base b))) (hd : decode (zb y) pc = .ok (.dload k, len)) (ha : zaux y pc (.dload k) len ia ib = true) (h : zx y (.dload k) len ia ib pc L st σ = some (g, pc1, L1, st1, σ1)) (hg : ∀ P, g = some P → P) (hrc : cells + (σ1.2.2.2 - σ.2.2.2) ≤ R.cells) (hrs : slots + (zsz σ1.2.2.2 - zsz σ.2.2.2) ≤ R.slots)
    (kk : zK p l e R s m args below meth c cA D base b Lx xs y cells slots Q σ pc1 L1 st1 σ1) : zW p l e R s m args below meth c base b H locs cells slots Q pc ls st := by
  simp only [zx] at h
  split at h
  · next v hv =>
    simp only [Option.some.injEq, Prod.mk.injEq] at h
    obtain ⟨rfl, rfl, rfl, rfl, rfl⟩ := h
    have hq := zlk_lv hl hv
    refine lv_dload C.1 C.2.1 (zlen hd ha)  hq ?_
    exact zk0 kk hH hL (zcons (hL _ (zlk_mem hv)) hS) hl
  · cases h
set_option maxHeartbeats 1000000 in
theorem zs_aload_n {p : Program} {l : Launch} {e : Env} {R : Room} {s : State} {m : MethodId} {args : Array Value} {below : List Frame} {meth : Method} {c : Code} {cA : Nat → ClassId} {D : va_G} {base b Lx : Nat} {xs : Nat → Int32} {y : Nat} {H : Heap} {locs : List Loc} {cells slots : Nat} {Q : State → Prop} {ls : Array Slot} {pc len ia ib pc1 : Nat} {L L1 : zL} {st st1 : List zV} {σ σ1 : zS} {g : Option Prop} {k : Fin 4} (C : zCx p R s m args meth c cA D base b Lx xs y) (hH : zH cA D base b Lx xs s σ H locs cells) (hL : ∀ q ∈ L, zvr q.2) (hS : ∀ v ∈ st, zvr v) (hl : lv_has ls (zml y) (L.map (zcq base b))) (hd : decode (zb y) pc = .ok (.aload_n k, len)) (ha : zaux y pc (.aload_n k) len ia ib = true) (h : zx y (.aload_n k) len ia ib pc L st σ = some (g, pc1, L1, st1, σ1)) (hg : ∀ P, g = some P → P) (hrc : cells + (σ1.2.2.2 - σ.2.2.2) ≤ R.cells) (hrs : slots + (zsz σ1.2.2.2 - zsz σ.2.2.2) ≤ R.slots)
    (kk : zK p l e R s m args below meth c cA D base b Lx xs y cells slots Q σ pc1 L1 st1 σ1) : zW p l e R s m args below meth c base b H locs cells slots Q pc ls st := by
  simp only [zx] at h
  split at h
  · next v hv =>
    simp only [Option.some.injEq, Prod.mk.injEq] at h
    obtain ⟨rfl, rfl, rfl, rfl, rfl⟩ := h
    have hq := zlk_lv hl hv
    have kk2 := zk0 kk hH hL (zcons (hL _ (zlk_mem hv)) hS) hl
    by_cases h0 : v = 0
    · subst h0
      exact lv_aload_nN C.1 C.2.1 (zlen hd ha) rfl hq kk2
    · rw [zcv_r h0] at hq
      simp only [zW, List.map_cons, zcv_r h0] at kk2
      exact lv_aload_n C.1 C.2.1 (zlen hd ha) rfl hq kk2
  · cases h
set_option maxHeartbeats 1000000 in
theorem zs_istore_n {p : Program} {l : Launch} {e : Env} {R : Room} {s : State} {m : MethodId} {args : Array Value} {below : List Frame} {meth : Method} {c : Code} {cA : Nat → ClassId} {D : va_G} {base b Lx : Nat} {xs : Nat → Int32} {y : Nat} {H : Heap} {locs : List Loc} {cells slots : Nat} {Q : State → Prop} {ls : Array Slot} {pc len ia ib pc1 : Nat} {L L1 : zL} {st st1 : List zV} {σ σ1 : zS} {g : Option Prop} {k : Fin 4} (C : zCx p R s m args meth c cA D base b Lx xs y) (hH : zH cA D base b Lx xs s σ H locs cells) (hL : ∀ q ∈ L, zvr q.2) (hS : ∀ v ∈ st, zvr v) (hl : lv_has ls (zml y) (L.map (zcq base b))) (hd : decode (zb y) pc = .ok (.istore_n k, len)) (ha : zaux y pc (.istore_n k) len ia ib = true) (h : zx y (.istore_n k) len ia ib pc L st σ = some (g, pc1, L1, st1, σ1)) (hg : ∀ P, g = some P → P) (hrc : cells + (σ1.2.2.2 - σ.2.2.2) ≤ R.cells) (hrs : slots + (zsz σ1.2.2.2 - zsz σ.2.2.2) ≤ R.slots)
    (kk : zK p l e R s m args below meth c cA D base b Lx xs y cells slots Q σ pc1 L1 st1 σ1) : zW p l e R s m args below meth c base b H locs cells slots Q pc ls st := by
  simp only [zx] at h
  split at h
  · next x r =>
    simp only [Option.some.injEq, Prod.mk.injEq] at h
    obtain ⟨rfl, rfl, rfl, rfl, rfl⟩ := h
    simp only [zaux, Bool.and_eq_true, decide_eq_true_eq] at ha
    refine lv_istore_n C.1 C.2.1 (zlen hd ha.1) rfl hl ha.2 (zset1_map (base := base) (b := b) (v := vi x)) (fun ls1 hl1 => ?_)
    exact zk0 kk hH (zset1_r hL (zch hS)) (zct hS) hl1
  · cases h
set_option maxHeartbeats 1000000 in
theorem zs_istore {p : Program} {l : Launch} {e : Env} {R : Room} {s : State} {m : MethodId} {args : Array Value} {below : List Frame} {meth : Method} {c : Code} {cA : Nat → ClassId} {D : va_G} {base b Lx : Nat} {xs : Nat → Int32} {y : Nat} {H : Heap} {locs : List Loc} {cells slots : Nat} {Q : State → Prop} {ls : Array Slot} {pc len ia ib pc1 : Nat} {L L1 : zL} {st st1 : List zV} {σ σ1 : zS} {g : Option Prop} {k : Nat} (C : zCx p R s m args meth c cA D base b Lx xs y) (hH : zH cA D base b Lx xs s σ H locs cells) (hL : ∀ q ∈ L, zvr q.2) (hS : ∀ v ∈ st, zvr v) (hl : lv_has ls (zml y) (L.map (zcq base b))) (hd : decode (zb y) pc = .ok (.istore k, len)) (ha : zaux y pc (.istore k) len ia ib = true) (h : zx y (.istore k) len ia ib pc L st σ = some (g, pc1, L1, st1, σ1)) (hg : ∀ P, g = some P → P) (hrc : cells + (σ1.2.2.2 - σ.2.2.2) ≤ R.cells) (hrs : slots + (zsz σ1.2.2.2 - zsz σ.2.2.2) ≤ R.slots)
    (kk : zK p l e R s m args below meth c cA D base b Lx xs y cells slots Q σ pc1 L1 st1 σ1) : zW p l e R s m args below meth c base b H locs cells slots Q pc ls st := by
  simp only [zx] at h
  split at h
  · next x r =>
    simp only [Option.some.injEq, Prod.mk.injEq] at h
    obtain ⟨rfl, rfl, rfl, rfl, rfl⟩ := h
    simp only [zaux, Bool.and_eq_true, decide_eq_true_eq] at ha
    refine lv_istore C.1 C.2.1 (zlen hd ha.1)  hl ha.2 (zset1_map (base := base) (b := b) (v := vi x)) (fun ls1 hl1 => ?_)
    exact zk0 kk hH (zset1_r hL (zch hS)) (zct hS) hl1
  · cases h
set_option maxHeartbeats 1000000 in
theorem zs_fstore_n {p : Program} {l : Launch} {e : Env} {R : Room} {s : State} {m : MethodId} {args : Array Value} {below : List Frame} {meth : Method} {c : Code} {cA : Nat → ClassId} {D : va_G} {base b Lx : Nat} {xs : Nat → Int32} {y : Nat} {H : Heap} {locs : List Loc} {cells slots : Nat} {Q : State → Prop} {ls : Array Slot} {pc len ia ib pc1 : Nat} {L L1 : zL} {st st1 : List zV} {σ σ1 : zS} {g : Option Prop} {k : Fin 4} (C : zCx p R s m args meth c cA D base b Lx xs y) (hH : zH cA D base b Lx xs s σ H locs cells) (hL : ∀ q ∈ L, zvr q.2) (hS : ∀ v ∈ st, zvr v) (hl : lv_has ls (zml y) (L.map (zcq base b))) (hd : decode (zb y) pc = .ok (.fstore_n k, len)) (ha : zaux y pc (.fstore_n k) len ia ib = true) (h : zx y (.fstore_n k) len ia ib pc L st σ = some (g, pc1, L1, st1, σ1)) (hg : ∀ P, g = some P → P) (hrc : cells + (σ1.2.2.2 - σ.2.2.2) ≤ R.cells) (hrs : slots + (zsz σ1.2.2.2 - zsz σ.2.2.2) ≤ R.slots)
    (kk : zK p l e R s m args below meth c cA D base b Lx xs y cells slots Q σ pc1 L1 st1 σ1) : zW p l e R s m args below meth c base b H locs cells slots Q pc ls st := by
  simp only [zx] at h
  split at h
  · next x r =>
    simp only [Option.some.injEq, Prod.mk.injEq] at h
    obtain ⟨rfl, rfl, rfl, rfl, rfl⟩ := h
    simp only [zaux, Bool.and_eq_true, decide_eq_true_eq] at ha
    refine lv_fstore_n C.1 C.2.1 (zlen hd ha.1) rfl hl ha.2 (zset1_map (base := base) (b := b) (v := vf x)) (fun ls1 hl1 => ?_)
    exact zk0 kk hH (zset1_r hL (zch hS)) (zct hS) hl1
  · cases h
set_option maxHeartbeats 1000000 in
theorem zs_dstore {p : Program} {l : Launch} {e : Env} {R : Room} {s : State} {m : MethodId} {args : Array Value} {below : List Frame} {meth : Method} {c : Code} {cA : Nat → ClassId} {D : va_G} {base b Lx : Nat} {xs : Nat → Int32} {y : Nat} {H : Heap} {locs : List Loc} {cells slots : Nat} {Q : State → Prop} {ls : Array Slot} {pc len ia ib pc1 : Nat} {L L1 : zL} {st st1 : List zV} {σ σ1 : zS} {g : Option Prop} {k : Nat} (C : zCx p R s m args meth c cA D base b Lx xs y) (hH : zH cA D base b Lx xs s σ H locs cells) (hL : ∀ q ∈ L, zvr q.2) (hS : ∀ v ∈ st, zvr v) (hl : lv_has ls (zml y) (L.map (zcq base b))) (hd : decode (zb y) pc = .ok (.dstore k, len)) (ha : zaux y pc (.dstore k) len ia ib = true) (h : zx y (.dstore k) len ia ib pc L st σ = some (g, pc1, L1, st1, σ1)) (hg : ∀ P, g = some P → P) (hrc : cells + (σ1.2.2.2 - σ.2.2.2) ≤ R.cells) (hrs : slots + (zsz σ1.2.2.2 - zsz σ.2.2.2) ≤ R.slots)
    (kk : zK p l e R s m args below meth c cA D base b Lx xs y cells slots Q σ pc1 L1 st1 σ1) : zW p l e R s m args below meth c base b H locs cells slots Q pc ls st := by
  simp only [zx] at h
  split at h
  · next x r =>
    simp only [Option.some.injEq, Prod.mk.injEq] at h
    obtain ⟨rfl, rfl, rfl, rfl, rfl⟩ := h
    simp only [zaux, Bool.and_eq_true, decide_eq_true_eq] at ha
    refine lv_dstore C.1 C.2.1 (zlen hd ha.1)  hl ha.2 (zset2_map (base := base) (b := b) (v := vd x)) (fun ls1 hl1 => ?_)
    exact zk0 kk hH (zset2_r hL (zch hS)) (zct hS) hl1
  · cases h
set_option maxHeartbeats 1000000 in
theorem zs_astore_n {p : Program} {l : Launch} {e : Env} {R : Room} {s : State} {m : MethodId} {args : Array Value} {below : List Frame} {meth : Method} {c : Code} {cA : Nat → ClassId} {D : va_G} {base b Lx : Nat} {xs : Nat → Int32} {y : Nat} {H : Heap} {locs : List Loc} {cells slots : Nat} {Q : State → Prop} {ls : Array Slot} {pc len ia ib pc1 : Nat} {L L1 : zL} {st st1 : List zV} {σ σ1 : zS} {g : Option Prop} {k : Fin 4} (C : zCx p R s m args meth c cA D base b Lx xs y) (hH : zH cA D base b Lx xs s σ H locs cells) (hL : ∀ q ∈ L, zvr q.2) (hS : ∀ v ∈ st, zvr v) (hl : lv_has ls (zml y) (L.map (zcq base b))) (hd : decode (zb y) pc = .ok (.astore_n k, len)) (ha : zaux y pc (.astore_n k) len ia ib = true) (h : zx y (.astore_n k) len ia ib pc L st σ = some (g, pc1, L1, st1, σ1)) (hg : ∀ P, g = some P → P) (hrc : cells + (σ1.2.2.2 - σ.2.2.2) ≤ R.cells) (hrs : slots + (zsz σ1.2.2.2 - zsz σ.2.2.2) ≤ R.slots)
    (kk : zK p l e R s m args below meth c cA D base b Lx xs y cells slots Q σ pc1 L1 st1 σ1) : zW p l e R s m args below meth c base b H locs cells slots Q pc ls st := by
  simp only [zx] at h
  split at h
  · next x r =>
    simp only [Option.some.injEq, Prod.mk.injEq] at h
    obtain ⟨rfl, rfl, rfl, rfl, rfl⟩ := h
    simp only [zaux, Bool.and_eq_true, decide_eq_true_eq] at ha
    by_cases h0 : x = 0
    · subst h0
      refine lv_astore_nN C.1 C.2.1 (zlen hd ha.1) rfl hl ha.2 (zset1_map (base := base) (b := b) (v := vr 0)) (fun ls1 hl1 => ?_)
      exact zk0 kk hH (zset1_r hL (zch hS)) (zct hS) hl1
    · have hm := zset1_map (base := base) (b := b) (k := k.val) (v := vr x) (L := L)
      simp only [zW, List.map_cons, zcv_r h0] at hm ⊢
      refine lv_astore_n C.1 C.2.1 (zlen hd ha.1) rfl hl ha.2 hm (fun ls1 hl1 => ?_)
      exact zk0 kk hH (zset1_r hL (zch hS)) (zct hS) hl1
  · cases h
set_option maxHeartbeats 1000000 in
theorem zs_iinc {p : Program} {l : Launch} {e : Env} {R : Room} {s : State} {m : MethodId} {args : Array Value} {below : List Frame} {meth : Method} {c : Code} {cA : Nat → ClassId} {D : va_G} {base b Lx : Nat} {xs : Nat → Int32} {y : Nat} {H : Heap} {locs : List Loc} {cells slots : Nat} {Q : State → Prop} {ls : Array Slot} {pc len ia ib pc1 : Nat} {L L1 : zL} {st st1 : List zV} {σ σ1 : zS} {g : Option Prop} {k : Nat} {n : Int} (C : zCx p R s m args meth c cA D base b Lx xs y) (hH : zH cA D base b Lx xs s σ H locs cells) (hL : ∀ q ∈ L, zvr q.2) (hS : ∀ v ∈ st, zvr v) (hl : lv_has ls (zml y) (L.map (zcq base b))) (hd : decode (zb y) pc = .ok (.iinc k n, len)) (ha : zaux y pc (.iinc k n) len ia ib = true) (h : zx y (.iinc k n) len ia ib pc L st σ = some (g, pc1, L1, st1, σ1)) (hg : ∀ P, g = some P → P) (hrc : cells + (σ1.2.2.2 - σ.2.2.2) ≤ R.cells) (hrs : slots + (zsz σ1.2.2.2 - zsz σ.2.2.2) ≤ R.slots)
    (kk : zK p l e R s m args below meth c cA D base b Lx xs y cells slots Q σ pc1 L1 st1 σ1) : zW p l e R s m args below meth c base b H locs cells slots Q pc ls st := by
  simp only [zx] at h
  split at h
  · next x hv =>
    simp only [Option.some.injEq, Prod.mk.injEq] at h
    obtain ⟨rfl, rfl, rfl, rfl, rfl⟩ := h
    simp only [zaux, Bool.and_eq_true, decide_eq_true_eq] at ha
    have hm : (k, Value.int (Int32.ofInt x)) ∈ L.map (zcq base b) := List.mem_map.mpr ⟨(k, vi x), zlk_mem hv, rfl⟩
    obtain ⟨i, hi⟩ := List.getElem?_of_mem hm
    refine lv_iinc (k := i) C.1 C.2.1 (zlen hd ha.1) hl hi (v := Int32.ofInt (x + n)) (Int32.ofInt_add x n).symm ha.2 (zset1_map (base := base) (b := b) (v := vi (x + n))) (fun ls1 hl1 => ?_)
    exact zk0 kk hH (zset1_r hL (hg _ rfl)) hS hl1
  · cases h
set_option maxHeartbeats 1000000 in
theorem zs_iconst {p : Program} {l : Launch} {e : Env} {R : Room} {s : State} {m : MethodId} {args : Array Value} {below : List Frame} {meth : Method} {c : Code} {cA : Nat → ClassId} {D : va_G} {base b Lx : Nat} {xs : Nat → Int32} {y : Nat} {H : Heap} {locs : List Loc} {cells slots : Nat} {Q : State → Prop} {ls : Array Slot} {pc len ia ib pc1 : Nat} {L L1 : zL} {st st1 : List zV} {σ σ1 : zS} {g : Option Prop} {n : Int} (C : zCx p R s m args meth c cA D base b Lx xs y) (hH : zH cA D base b Lx xs s σ H locs cells) (hL : ∀ q ∈ L, zvr q.2) (hS : ∀ v ∈ st, zvr v) (hl : lv_has ls (zml y) (L.map (zcq base b))) (hd : decode (zb y) pc = .ok (.iconst n, len)) (ha : zaux y pc (.iconst n) len ia ib = true) (h : zx y (.iconst n) len ia ib pc L st σ = some (g, pc1, L1, st1, σ1)) (hg : ∀ P, g = some P → P) (hrc : cells + (σ1.2.2.2 - σ.2.2.2) ≤ R.cells) (hrs : slots + (zsz σ1.2.2.2 - zsz σ.2.2.2) ≤ R.slots)
    (kk : zK p l e R s m args below meth c cA D base b Lx xs y cells slots Q σ pc1 L1 st1 σ1) : zW p l e R s m args below meth c base b H locs cells slots Q pc ls st := by
  simp only [zx] at h
  simp only [Option.some.injEq, Prod.mk.injEq] at h
  obtain ⟨rfl, rfl, rfl, rfl, rfl⟩ := h
  simp only [zaux, Bool.and_eq_true, decide_eq_true_eq] at ha
  refine lv_iconst C.1 C.2.1 (zlen hd ha.1) (v := Int32.ofInt n) rfl ?_
  exact zk0 kk hH hL (zcons ha.2 hS) hl
set_option maxHeartbeats 1000000 in
theorem zs_bipush {p : Program} {l : Launch} {e : Env} {R : Room} {s : State} {m : MethodId} {args : Array Value} {below : List Frame} {meth : Method} {c : Code} {cA : Nat → ClassId} {D : va_G} {base b Lx : Nat} {xs : Nat → Int32} {y : Nat} {H : Heap} {locs : List Loc} {cells slots : Nat} {Q : State → Prop} {ls : Array Slot} {pc len ia ib pc1 : Nat} {L L1 : zL} {st st1 : List zV} {σ σ1 : zS} {g : Option Prop} {n : Int} (C : zCx p R s m args meth c cA D base b Lx xs y) (hH : zH cA D base b Lx xs s σ H locs cells) (hL : ∀ q ∈ L, zvr q.2) (hS : ∀ v ∈ st, zvr v) (hl : lv_has ls (zml y) (L.map (zcq base b))) (hd : decode (zb y) pc = .ok (.bipush n, len)) (ha : zaux y pc (.bipush n) len ia ib = true) (h : zx y (.bipush n) len ia ib pc L st σ = some (g, pc1, L1, st1, σ1)) (hg : ∀ P, g = some P → P) (hrc : cells + (σ1.2.2.2 - σ.2.2.2) ≤ R.cells) (hrs : slots + (zsz σ1.2.2.2 - zsz σ.2.2.2) ≤ R.slots)
    (kk : zK p l e R s m args below meth c cA D base b Lx xs y cells slots Q σ pc1 L1 st1 σ1) : zW p l e R s m args below meth c base b H locs cells slots Q pc ls st := by
  simp only [zx] at h
  simp only [Option.some.injEq, Prod.mk.injEq] at h
  obtain ⟨rfl, rfl, rfl, rfl, rfl⟩ := h
  simp only [zaux, Bool.and_eq_true, decide_eq_true_eq] at ha
  refine lv_bipush C.1 C.2.1 (zlen hd ha.1.1) (v := Int32.ofInt n) ha.1.2 ?_
  exact zk0 kk hH hL (zcons ha.2 hS) hl
set_option maxHeartbeats 1000000 in
theorem zs_sipush {p : Program} {l : Launch} {e : Env} {R : Room} {s : State} {m : MethodId} {args : Array Value} {below : List Frame} {meth : Method} {c : Code} {cA : Nat → ClassId} {D : va_G} {base b Lx : Nat} {xs : Nat → Int32} {y : Nat} {H : Heap} {locs : List Loc} {cells slots : Nat} {Q : State → Prop} {ls : Array Slot} {pc len ia ib pc1 : Nat} {L L1 : zL} {st st1 : List zV} {σ σ1 : zS} {g : Option Prop} {n : Int} (C : zCx p R s m args meth c cA D base b Lx xs y) (hH : zH cA D base b Lx xs s σ H locs cells) (hL : ∀ q ∈ L, zvr q.2) (hS : ∀ v ∈ st, zvr v) (hl : lv_has ls (zml y) (L.map (zcq base b))) (hd : decode (zb y) pc = .ok (.sipush n, len)) (ha : zaux y pc (.sipush n) len ia ib = true) (h : zx y (.sipush n) len ia ib pc L st σ = some (g, pc1, L1, st1, σ1)) (hg : ∀ P, g = some P → P) (hrc : cells + (σ1.2.2.2 - σ.2.2.2) ≤ R.cells) (hrs : slots + (zsz σ1.2.2.2 - zsz σ.2.2.2) ≤ R.slots)
    (kk : zK p l e R s m args below meth c cA D base b Lx xs y cells slots Q σ pc1 L1 st1 σ1) : zW p l e R s m args below meth c base b H locs cells slots Q pc ls st := by
  simp only [zx] at h
  simp only [Option.some.injEq, Prod.mk.injEq] at h
  obtain ⟨rfl, rfl, rfl, rfl, rfl⟩ := h
  simp only [zaux, Bool.and_eq_true, decide_eq_true_eq] at ha
  refine lv_sipush C.1 C.2.1 (zlen hd ha.1.1) (v := Int32.ofInt n) ha.1.2 ?_
  exact zk0 kk hH hL (zcons ha.2 hS) hl
set_option maxHeartbeats 1000000 in
theorem zs_fconst {p : Program} {l : Launch} {e : Env} {R : Room} {s : State} {m : MethodId} {args : Array Value} {below : List Frame} {meth : Method} {c : Code} {cA : Nat → ClassId} {D : va_G} {base b Lx : Nat} {xs : Nat → Int32} {y : Nat} {H : Heap} {locs : List Loc} {cells slots : Nat} {Q : State → Prop} {ls : Array Slot} {pc len ia ib pc1 : Nat} {L L1 : zL} {st st1 : List zV} {σ σ1 : zS} {g : Option Prop} {k : Fin 3} (C : zCx p R s m args meth c cA D base b Lx xs y) (hH : zH cA D base b Lx xs s σ H locs cells) (hL : ∀ q ∈ L, zvr q.2) (hS : ∀ v ∈ st, zvr v) (hl : lv_has ls (zml y) (L.map (zcq base b))) (hd : decode (zb y) pc = .ok (.fconst k, len)) (ha : zaux y pc (.fconst k) len ia ib = true) (h : zx y (.fconst k) len ia ib pc L st σ = some (g, pc1, L1, st1, σ1)) (hg : ∀ P, g = some P → P) (hrc : cells + (σ1.2.2.2 - σ.2.2.2) ≤ R.cells) (hrs : slots + (zsz σ1.2.2.2 - zsz σ.2.2.2) ≤ R.slots)
    (kk : zK p l e R s m args below meth c cA D base b Lx xs y cells slots Q σ pc1 L1 st1 σ1) : zW p l e R s m args below meth c base b H locs cells slots Q pc ls st := by
  simp only [zx] at h
  split at h
  · simp only [Option.some.injEq, Prod.mk.injEq] at h
    obtain ⟨rfl, rfl, rfl, rfl, rfl⟩ := h
    exact lv_fconst0 C.1 C.2.1 (zlen hd ha) (zk0 kk hH hL (zcons trivial hS) hl)
  · simp only [Option.some.injEq, Prod.mk.injEq] at h
    obtain ⟨rfl, rfl, rfl, rfl, rfl⟩ := h
    exact lv_fconst1 C.1 C.2.1 (zlen hd ha) (zk0 kk hH hL (zcons trivial hS) hl)
  · simp only [Option.some.injEq, Prod.mk.injEq] at h
    obtain ⟨rfl, rfl, rfl, rfl, rfl⟩ := h
    exact lv_fconst2 C.1 C.2.1 (zlen hd ha) (zk0 kk hH hL (zcons trivial hS) hl)
set_option maxHeartbeats 1000000 in
theorem zs_dconst {p : Program} {l : Launch} {e : Env} {R : Room} {s : State} {m : MethodId} {args : Array Value} {below : List Frame} {meth : Method} {c : Code} {cA : Nat → ClassId} {D : va_G} {base b Lx : Nat} {xs : Nat → Int32} {y : Nat} {H : Heap} {locs : List Loc} {cells slots : Nat} {Q : State → Prop} {ls : Array Slot} {pc len ia ib pc1 : Nat} {L L1 : zL} {st st1 : List zV} {σ σ1 : zS} {g : Option Prop} {k : Fin 2} (C : zCx p R s m args meth c cA D base b Lx xs y) (hH : zH cA D base b Lx xs s σ H locs cells) (hL : ∀ q ∈ L, zvr q.2) (hS : ∀ v ∈ st, zvr v) (hl : lv_has ls (zml y) (L.map (zcq base b))) (hd : decode (zb y) pc = .ok (.dconst k, len)) (ha : zaux y pc (.dconst k) len ia ib = true) (h : zx y (.dconst k) len ia ib pc L st σ = some (g, pc1, L1, st1, σ1)) (hg : ∀ P, g = some P → P) (hrc : cells + (σ1.2.2.2 - σ.2.2.2) ≤ R.cells) (hrs : slots + (zsz σ1.2.2.2 - zsz σ.2.2.2) ≤ R.slots)
    (kk : zK p l e R s m args below meth c cA D base b Lx xs y cells slots Q σ pc1 L1 st1 σ1) : zW p l e R s m args below meth c base b H locs cells slots Q pc ls st := by
  simp only [zx] at h
  split at h
  · simp only [Option.some.injEq, Prod.mk.injEq] at h
    obtain ⟨rfl, rfl, rfl, rfl, rfl⟩ := h
    exact lv_dconst0 C.1 C.2.1 (zlen hd ha) (zk0 kk hH hL (zcons trivial hS) hl)
  · cases h
theorem zldc_spec {o i : Nat} {v : zV} (h : zldc o i = some v) : (∃ x, v = vi x ∧ zr x ∧ Cond.constant (zR o) i (Int32.ofInt x) ∈ lw_tbl) ∨ ∃ f, v = vf f ∧ Cond.constantFloat (zR o) i f ∈ lw_tbl := by
  unfold zldc at h
  split at h
  · next q hq =>
    have h1 := List.all_eq_true.mp zki_ok q (List.mem_of_find?_eq_some hq)
    have h2 := List.find?_some hq
    simp only [Bool.and_eq_true, decide_eq_true_eq] at h1 h2
    have e1 := Nat.eq_of_beq_eq_true h2.1
    have e2 := Nat.eq_of_beq_eq_true h2.2
    subst e1; subst e2
    refine Or.inl ⟨q.2.2.1, (Option.some.inj h).symm, h1.2, List.mem_of_getElem? h1.1⟩
  · split at h
    · next q hq =>
      have h1 := List.all_eq_true.mp zkf_ok q (List.mem_of_find?_eq_some hq)
      have h2 := List.find?_some hq
      simp only [Bool.and_eq_true, decide_eq_true_eq] at h1 h2
      have e1 := Nat.eq_of_beq_eq_true h2.1
      have e2 := Nat.eq_of_beq_eq_true h2.2
      subst e1; subst e2
      exact Or.inr ⟨q.2.2.1, (Option.some.inj h).symm, List.mem_of_getElem? h1⟩
    · cases h
set_option maxHeartbeats 1000000 in
theorem zs_ldc {p : Program} {l : Launch} {e : Env} {R : Room} {s : State} {m : MethodId} {args : Array Value} {below : List Frame} {meth : Method} {c : Code} {cA : Nat → ClassId} {D : va_G} {base b Lx : Nat} {xs : Nat → Int32} {y : Nat} {H : Heap} {locs : List Loc} {cells slots : Nat} {Q : State → Prop} {ls : Array Slot} {pc len ia ib pc1 : Nat} {L L1 : zL} {st st1 : List zV} {σ σ1 : zS} {g : Option Prop} {k : Nat} (C : zCx p R s m args meth c cA D base b Lx xs y) (hH : zH cA D base b Lx xs s σ H locs cells) (hL : ∀ q ∈ L, zvr q.2) (hS : ∀ v ∈ st, zvr v) (hl : lv_has ls (zml y) (L.map (zcq base b))) (hd : decode (zb y) pc = .ok (.ldc k, len)) (ha : zaux y pc (.ldc k) len ia ib = true) (h : zx y (.ldc k) len ia ib pc L st σ = some (g, pc1, L1, st1, σ1)) (hg : ∀ P, g = some P → P) (hrc : cells + (σ1.2.2.2 - σ.2.2.2) ≤ R.cells) (hrs : slots + (zsz σ1.2.2.2 - zsz σ.2.2.2) ≤ R.slots)
    (kk : zK p l e R s m args below meth c cA D base b Lx xs y cells slots Q σ pc1 L1 st1 σ1) : zW p l e R s m args below meth c base b H locs cells slots Q pc ls st := by
  simp only [zx] at h
  simp only [zaux, Bool.and_eq_true] at ha
  split at h
  · next v hv =>
    simp only [Option.some.injEq, Prod.mk.injEq] at h
    obtain ⟨rfl, rfl, rfl, rfl, rfl⟩ := h
    rcases zldc_spec hv with ⟨x, rfl, hx, hw⟩ | ⟨f, rfl, hw⟩
    · exact lv_ldc C.1 C.2.1 C.2.2.2.1 (C.2.2.2.2.1 _ (zgood hw rfl)) (zlen hd ha.1) (zk0 kk hH hL (zcons hx hS) hl)
    · exact lv_ldcf C.1 C.2.1 C.2.2.2.1 (C.2.2.2.2.1 _ (zgood hw rfl)) (zlen hd ha.1) (zk0 kk hH hL (zcons trivial hS) hl)
  · cases h
set_option maxHeartbeats 1000000 in
theorem zs_ldc_w {p : Program} {l : Launch} {e : Env} {R : Room} {s : State} {m : MethodId} {args : Array Value} {below : List Frame} {meth : Method} {c : Code} {cA : Nat → ClassId} {D : va_G} {base b Lx : Nat} {xs : Nat → Int32} {y : Nat} {H : Heap} {locs : List Loc} {cells slots : Nat} {Q : State → Prop} {ls : Array Slot} {pc len ia ib pc1 : Nat} {L L1 : zL} {st st1 : List zV} {σ σ1 : zS} {g : Option Prop} {k : Nat} (C : zCx p R s m args meth c cA D base b Lx xs y) (hH : zH cA D base b Lx xs s σ H locs cells) (hL : ∀ q ∈ L, zvr q.2) (hS : ∀ v ∈ st, zvr v) (hl : lv_has ls (zml y) (L.map (zcq base b))) (hd : decode (zb y) pc = .ok (.ldc_w k, len)) (ha : zaux y pc (.ldc_w k) len ia ib = true) (h : zx y (.ldc_w k) len ia ib pc L st σ = some (g, pc1, L1, st1, σ1)) (hg : ∀ P, g = some P → P) (hrc : cells + (σ1.2.2.2 - σ.2.2.2) ≤ R.cells) (hrs : slots + (zsz σ1.2.2.2 - zsz σ.2.2.2) ≤ R.slots)
    (kk : zK p l e R s m args below meth c cA D base b Lx xs y cells slots Q σ pc1 L1 st1 σ1) : zW p l e R s m args below meth c base b H locs cells slots Q pc ls st := by
  simp only [zx] at h
  simp only [zaux, Bool.and_eq_true] at ha
  split at h
  · next v hv =>
    simp only [Option.some.injEq, Prod.mk.injEq] at h
    obtain ⟨rfl, rfl, rfl, rfl, rfl⟩ := h
    rcases zldc_spec hv with ⟨x, he, hx, hw⟩ | ⟨f, he, hw⟩
    · cases he
      exact lv_ldcw C.1 C.2.1 C.2.2.2.1 (C.2.2.2.2.1 _ (zgood hw rfl)) (zlen hd ha.1) (zk0 kk hH hL (zcons hx hS) hl)
    · cases he
  · cases h
set_option maxHeartbeats 1000000 in
theorem zs_iadd {p : Program} {l : Launch} {e : Env} {R : Room} {s : State} {m : MethodId} {args : Array Value} {below : List Frame} {meth : Method} {c : Code} {cA : Nat → ClassId} {D : va_G} {base b Lx : Nat} {xs : Nat → Int32} {y : Nat} {H : Heap} {locs : List Loc} {cells slots : Nat} {Q : State → Prop} {ls : Array Slot} {pc len ia ib pc1 : Nat} {L L1 : zL} {st st1 : List zV} {σ σ1 : zS} {g : Option Prop} (C : zCx p R s m args meth c cA D base b Lx xs y) (hH : zH cA D base b Lx xs s σ H locs cells) (hL : ∀ q ∈ L, zvr q.2) (hS : ∀ v ∈ st, zvr v) (hl : lv_has ls (zml y) (L.map (zcq base b))) (hd : decode (zb y) pc = .ok (.iadd, len)) (ha : zaux y pc (.iadd) len ia ib = true) (h : zx y (.iadd) len ia ib pc L st σ = some (g, pc1, L1, st1, σ1)) (hg : ∀ P, g = some P → P) (hrc : cells + (σ1.2.2.2 - σ.2.2.2) ≤ R.cells) (hrs : slots + (zsz σ1.2.2.2 - zsz σ.2.2.2) ≤ R.slots)
    (kk : zK p l e R s m args below meth c cA D base b Lx xs y cells slots Q σ pc1 L1 st1 σ1) : zW p l e R s m args below meth c base b H locs cells slots Q pc ls st := by
  simp only [zx] at h
  split at h
  · next q p r =>
    simp only [Option.some.injEq, Prod.mk.injEq] at h
    obtain ⟨rfl, rfl, rfl, rfl, rfl⟩ := h
    refine lv_iadd C.1 C.2.1 (zlen hd ha) ?_
    rw [← Int32.ofInt_add]
    exact zk0 kk hH hL (zcons (hg _ rfl) (zct (zct hS))) hl
  · cases h
set_option maxHeartbeats 1000000 in
theorem zs_isub {p : Program} {l : Launch} {e : Env} {R : Room} {s : State} {m : MethodId} {args : Array Value} {below : List Frame} {meth : Method} {c : Code} {cA : Nat → ClassId} {D : va_G} {base b Lx : Nat} {xs : Nat → Int32} {y : Nat} {H : Heap} {locs : List Loc} {cells slots : Nat} {Q : State → Prop} {ls : Array Slot} {pc len ia ib pc1 : Nat} {L L1 : zL} {st st1 : List zV} {σ σ1 : zS} {g : Option Prop} (C : zCx p R s m args meth c cA D base b Lx xs y) (hH : zH cA D base b Lx xs s σ H locs cells) (hL : ∀ q ∈ L, zvr q.2) (hS : ∀ v ∈ st, zvr v) (hl : lv_has ls (zml y) (L.map (zcq base b))) (hd : decode (zb y) pc = .ok (.isub, len)) (ha : zaux y pc (.isub) len ia ib = true) (h : zx y (.isub) len ia ib pc L st σ = some (g, pc1, L1, st1, σ1)) (hg : ∀ P, g = some P → P) (hrc : cells + (σ1.2.2.2 - σ.2.2.2) ≤ R.cells) (hrs : slots + (zsz σ1.2.2.2 - zsz σ.2.2.2) ≤ R.slots)
    (kk : zK p l e R s m args below meth c cA D base b Lx xs y cells slots Q σ pc1 L1 st1 σ1) : zW p l e R s m args below meth c base b H locs cells slots Q pc ls st := by
  simp only [zx] at h
  split at h
  · next q p r =>
    simp only [Option.some.injEq, Prod.mk.injEq] at h
    obtain ⟨rfl, rfl, rfl, rfl, rfl⟩ := h
    refine lv_isub C.1 C.2.1 (zlen hd ha) ?_
    rw [← Int32.ofInt_sub]
    exact zk0 kk hH hL (zcons (hg _ rfl) (zct (zct hS))) hl
  · cases h
set_option maxHeartbeats 1000000 in
theorem zs_imul {p : Program} {l : Launch} {e : Env} {R : Room} {s : State} {m : MethodId} {args : Array Value} {below : List Frame} {meth : Method} {c : Code} {cA : Nat → ClassId} {D : va_G} {base b Lx : Nat} {xs : Nat → Int32} {y : Nat} {H : Heap} {locs : List Loc} {cells slots : Nat} {Q : State → Prop} {ls : Array Slot} {pc len ia ib pc1 : Nat} {L L1 : zL} {st st1 : List zV} {σ σ1 : zS} {g : Option Prop} (C : zCx p R s m args meth c cA D base b Lx xs y) (hH : zH cA D base b Lx xs s σ H locs cells) (hL : ∀ q ∈ L, zvr q.2) (hS : ∀ v ∈ st, zvr v) (hl : lv_has ls (zml y) (L.map (zcq base b))) (hd : decode (zb y) pc = .ok (.imul, len)) (ha : zaux y pc (.imul) len ia ib = true) (h : zx y (.imul) len ia ib pc L st σ = some (g, pc1, L1, st1, σ1)) (hg : ∀ P, g = some P → P) (hrc : cells + (σ1.2.2.2 - σ.2.2.2) ≤ R.cells) (hrs : slots + (zsz σ1.2.2.2 - zsz σ.2.2.2) ≤ R.slots)
    (kk : zK p l e R s m args below meth c cA D base b Lx xs y cells slots Q σ pc1 L1 st1 σ1) : zW p l e R s m args below meth c base b H locs cells slots Q pc ls st := by
  simp only [zx] at h
  split at h
  · next q p r =>
    simp only [Option.some.injEq, Prod.mk.injEq] at h
    obtain ⟨rfl, rfl, rfl, rfl, rfl⟩ := h
    refine lv_imul C.1 C.2.1 (zlen hd ha) ?_
    rw [← Int32.ofInt_mul]
    exact zk0 kk hH hL (zcons (hg _ rfl) (zct (zct hS))) hl
  · cases h
theorem z_div {p q : Int} (hp : zr p) (hq : zr q) (h0 : 0 ≤ p) (h1 : 0 < q) : Int32.ofInt p / Int32.ofInt q = Int32.ofInt (p / q) ∧ zr (p / q) ∧ ¬ Int32.ofInt q = 0 := by
  obtain ⟨a, rfl⟩ : ∃ a : Nat, p = a := ⟨p.toNat, by omega⟩
  obtain ⟨d, rfl⟩ : ∃ d : Nat, q = d := ⟨q.toNat, by omega⟩
  have e := pk_div (a := a) (d := d) (by have := hp.2; omega) (by omega) (by have := hq.2; omega)
  have hle : (a : Int) / d ≤ a := Int.ediv_le_self _ (by omega)
  have hge : (0 : Int) ≤ (a : Int) / d := Int.ediv_nonneg (by omega) (by omega)
  refine ⟨?_, ⟨by omega, by have := hp.2; omega⟩, ?_⟩
  · show nI a / nI d = _
    rw [e]
    rfl
  · exact nI_ne0 (by omega) (by have := hq.2; omega)
set_option maxHeartbeats 1000000 in
theorem zs_idiv {p : Program} {l : Launch} {e : Env} {R : Room} {s : State} {m : MethodId} {args : Array Value} {below : List Frame} {meth : Method} {c : Code} {cA : Nat → ClassId} {D : va_G} {base b Lx : Nat} {xs : Nat → Int32} {y : Nat} {H : Heap} {locs : List Loc} {cells slots : Nat} {Q : State → Prop} {ls : Array Slot} {pc len ia ib pc1 : Nat} {L L1 : zL} {st st1 : List zV} {σ σ1 : zS} {g : Option Prop} (C : zCx p R s m args meth c cA D base b Lx xs y) (hH : zH cA D base b Lx xs s σ H locs cells) (hL : ∀ q ∈ L, zvr q.2) (hS : ∀ v ∈ st, zvr v) (hl : lv_has ls (zml y) (L.map (zcq base b))) (hd : decode (zb y) pc = .ok (.idiv, len)) (ha : zaux y pc (.idiv) len ia ib = true) (h : zx y (.idiv) len ia ib pc L st σ = some (g, pc1, L1, st1, σ1)) (hg : ∀ P, g = some P → P) (hrc : cells + (σ1.2.2.2 - σ.2.2.2) ≤ R.cells) (hrs : slots + (zsz σ1.2.2.2 - zsz σ.2.2.2) ≤ R.slots)
    (kk : zK p l e R s m args below meth c cA D base b Lx xs y cells slots Q σ pc1 L1 st1 σ1) : zW p l e R s m args below meth c base b H locs cells slots Q pc ls st := by
  simp only [zx] at h
  split at h
  · next q p r =>
    simp only [Option.some.injEq, Prod.mk.injEq] at h
    obtain ⟨rfl, rfl, rfl, rfl, rfl⟩ := h
    obtain ⟨h1, h2, h3⟩ := z_div (zch (zct hS)) (zch hS) (hg _ rfl).1 (hg _ rfl).2
    refine lv_idiv C.1 C.2.1 (zlen hd ha) h3 ?_
    rw [h1]
    exact zk0 kk hH hL (zcons h2 (zct (zct hS))) hl
  · cases h
theorem z_rem {p q : Int} (hp : zr p) (hq : zr q) (h0 : 0 ≤ p) (h1 : 0 < q) : Int32.ofInt p - Int32.ofInt p / Int32.ofInt q * Int32.ofInt q = Int32.ofInt (p % q) ∧ zr (p % q) ∧ ¬ Int32.ofInt q = 0 := by
  obtain ⟨a, rfl⟩ : ∃ a : Nat, p = a := ⟨p.toNat, by omega⟩
  obtain ⟨d, rfl⟩ : ∃ d : Nat, q = d := ⟨q.toNat, by omega⟩
  have e := pk_rem (a := a) (d := d) (by have := hp.2; omega) (by omega) (by have := hq.2; omega)
  have hle : (a : Int) % d < d := Int.emod_lt_of_pos _ (by omega)
  have hge : (0 : Int) ≤ (a : Int) % d := Int.emod_nonneg _ (by omega)
  refine ⟨?_, ⟨by omega, by have := hq.2; omega⟩, ?_⟩
  · show nI a - nI a / nI d * nI d = _
    rw [e]
    rfl
  · exact nI_ne0 (by omega) (by have := hq.2; omega)
set_option maxHeartbeats 1000000 in
theorem zs_irem {p : Program} {l : Launch} {e : Env} {R : Room} {s : State} {m : MethodId} {args : Array Value} {below : List Frame} {meth : Method} {c : Code} {cA : Nat → ClassId} {D : va_G} {base b Lx : Nat} {xs : Nat → Int32} {y : Nat} {H : Heap} {locs : List Loc} {cells slots : Nat} {Q : State → Prop} {ls : Array Slot} {pc len ia ib pc1 : Nat} {L L1 : zL} {st st1 : List zV} {σ σ1 : zS} {g : Option Prop} (C : zCx p R s m args meth c cA D base b Lx xs y) (hH : zH cA D base b Lx xs s σ H locs cells) (hL : ∀ q ∈ L, zvr q.2) (hS : ∀ v ∈ st, zvr v) (hl : lv_has ls (zml y) (L.map (zcq base b))) (hd : decode (zb y) pc = .ok (.irem, len)) (ha : zaux y pc (.irem) len ia ib = true) (h : zx y (.irem) len ia ib pc L st σ = some (g, pc1, L1, st1, σ1)) (hg : ∀ P, g = some P → P) (hrc : cells + (σ1.2.2.2 - σ.2.2.2) ≤ R.cells) (hrs : slots + (zsz σ1.2.2.2 - zsz σ.2.2.2) ≤ R.slots)
    (kk : zK p l e R s m args below meth c cA D base b Lx xs y cells slots Q σ pc1 L1 st1 σ1) : zW p l e R s m args below meth c base b H locs cells slots Q pc ls st := by
  simp only [zx] at h
  split at h
  · next q p r =>
    simp only [Option.some.injEq, Prod.mk.injEq] at h
    obtain ⟨rfl, rfl, rfl, rfl, rfl⟩ := h
    obtain ⟨h1, h2, h3⟩ := z_rem (zch (zct hS)) (zch hS) (hg _ rfl).1 (hg _ rfl).2
    refine lv_irem C.1 C.2.1 (zlen hd ha) h3 ?_
    rw [h1]
    exact zk0 kk hH hL (zcons h2 (zct (zct hS))) hl
  · cases h
set_option maxHeartbeats 1000000 in
theorem zs_ishl {p : Program} {l : Launch} {e : Env} {R : Room} {s : State} {m : MethodId} {args : Array Value} {below : List Frame} {meth : Method} {c : Code} {cA : Nat → ClassId} {D : va_G} {base b Lx : Nat} {xs : Nat → Int32} {y : Nat} {H : Heap} {locs : List Loc} {cells slots : Nat} {Q : State → Prop} {ls : Array Slot} {pc len ia ib pc1 : Nat} {L L1 : zL} {st st1 : List zV} {σ σ1 : zS} {g : Option Prop} (C : zCx p R s m args meth c cA D base b Lx xs y) (hH : zH cA D base b Lx xs s σ H locs cells) (hL : ∀ q ∈ L, zvr q.2) (hS : ∀ v ∈ st, zvr v) (hl : lv_has ls (zml y) (L.map (zcq base b))) (hd : decode (zb y) pc = .ok (.ishl, len)) (ha : zaux y pc (.ishl) len ia ib = true) (h : zx y (.ishl) len ia ib pc L st σ = some (g, pc1, L1, st1, σ1)) (hg : ∀ P, g = some P → P) (hrc : cells + (σ1.2.2.2 - σ.2.2.2) ≤ R.cells) (hrs : slots + (zsz σ1.2.2.2 - zsz σ.2.2.2) ≤ R.slots)
    (kk : zK p l e R s m args below meth c cA D base b Lx xs y cells slots Q σ pc1 L1 st1 σ1) : zW p l e R s m args below meth c base b H locs cells slots Q pc ls st := by
  simp only [zx] at h
  split at h
  · next q p r =>
    simp only [Option.some.injEq, Prod.mk.injEq] at h
    obtain ⟨rfl, rfl, rfl, rfl, rfl⟩ := h
    refine lv_ishl C.1 C.2.1 (zlen hd ha) ?_
    have kk2 := zk0 kk hH hL (zcons (zr_of _) (zct (zct hS))) hl
    simp only [zW, List.map_cons, zcv, zit] at kk2
    exact kk2
  · cases h
set_option maxHeartbeats 1000000 in
theorem zs_ishr {p : Program} {l : Launch} {e : Env} {R : Room} {s : State} {m : MethodId} {args : Array Value} {below : List Frame} {meth : Method} {c : Code} {cA : Nat → ClassId} {D : va_G} {base b Lx : Nat} {xs : Nat → Int32} {y : Nat} {H : Heap} {locs : List Loc} {cells slots : Nat} {Q : State → Prop} {ls : Array Slot} {pc len ia ib pc1 : Nat} {L L1 : zL} {st st1 : List zV} {σ σ1 : zS} {g : Option Prop} (C : zCx p R s m args meth c cA D base b Lx xs y) (hH : zH cA D base b Lx xs s σ H locs cells) (hL : ∀ q ∈ L, zvr q.2) (hS : ∀ v ∈ st, zvr v) (hl : lv_has ls (zml y) (L.map (zcq base b))) (hd : decode (zb y) pc = .ok (.ishr, len)) (ha : zaux y pc (.ishr) len ia ib = true) (h : zx y (.ishr) len ia ib pc L st σ = some (g, pc1, L1, st1, σ1)) (hg : ∀ P, g = some P → P) (hrc : cells + (σ1.2.2.2 - σ.2.2.2) ≤ R.cells) (hrs : slots + (zsz σ1.2.2.2 - zsz σ.2.2.2) ≤ R.slots)
    (kk : zK p l e R s m args below meth c cA D base b Lx xs y cells slots Q σ pc1 L1 st1 σ1) : zW p l e R s m args below meth c base b H locs cells slots Q pc ls st := by
  simp only [zx] at h
  split at h
  · next q p r =>
    simp only [Option.some.injEq, Prod.mk.injEq] at h
    obtain ⟨rfl, rfl, rfl, rfl, rfl⟩ := h
    refine lv_ishr C.1 C.2.1 (zlen hd ha) ?_
    have kk2 := zk0 kk hH hL (zcons (zr_of _) (zct (zct hS))) hl
    simp only [zW, List.map_cons, zcv, zit] at kk2
    exact kk2
  · cases h
set_option maxHeartbeats 1000000 in
theorem zs_iushr {p : Program} {l : Launch} {e : Env} {R : Room} {s : State} {m : MethodId} {args : Array Value} {below : List Frame} {meth : Method} {c : Code} {cA : Nat → ClassId} {D : va_G} {base b Lx : Nat} {xs : Nat → Int32} {y : Nat} {H : Heap} {locs : List Loc} {cells slots : Nat} {Q : State → Prop} {ls : Array Slot} {pc len ia ib pc1 : Nat} {L L1 : zL} {st st1 : List zV} {σ σ1 : zS} {g : Option Prop} (C : zCx p R s m args meth c cA D base b Lx xs y) (hH : zH cA D base b Lx xs s σ H locs cells) (hL : ∀ q ∈ L, zvr q.2) (hS : ∀ v ∈ st, zvr v) (hl : lv_has ls (zml y) (L.map (zcq base b))) (hd : decode (zb y) pc = .ok (.iushr, len)) (ha : zaux y pc (.iushr) len ia ib = true) (h : zx y (.iushr) len ia ib pc L st σ = some (g, pc1, L1, st1, σ1)) (hg : ∀ P, g = some P → P) (hrc : cells + (σ1.2.2.2 - σ.2.2.2) ≤ R.cells) (hrs : slots + (zsz σ1.2.2.2 - zsz σ.2.2.2) ≤ R.slots)
    (kk : zK p l e R s m args below meth c cA D base b Lx xs y cells slots Q σ pc1 L1 st1 σ1) : zW p l e R s m args below meth c base b H locs cells slots Q pc ls st := by
  simp only [zx] at h
  split at h
  · next q p r =>
    simp only [Option.some.injEq, Prod.mk.injEq] at h
    obtain ⟨rfl, rfl, rfl, rfl, rfl⟩ := h
    refine lv_iushr C.1 C.2.1 (zlen hd ha) rfl ?_
    have kk2 := zk0 kk hH hL (zcons (zr_of _) (zct (zct hS))) hl
    simp only [zW, List.map_cons, zcv, zit] at kk2
    exact kk2
  · cases h
set_option maxHeartbeats 1000000 in
theorem zs_ior {p : Program} {l : Launch} {e : Env} {R : Room} {s : State} {m : MethodId} {args : Array Value} {below : List Frame} {meth : Method} {c : Code} {cA : Nat → ClassId} {D : va_G} {base b Lx : Nat} {xs : Nat → Int32} {y : Nat} {H : Heap} {locs : List Loc} {cells slots : Nat} {Q : State → Prop} {ls : Array Slot} {pc len ia ib pc1 : Nat} {L L1 : zL} {st st1 : List zV} {σ σ1 : zS} {g : Option Prop} (C : zCx p R s m args meth c cA D base b Lx xs y) (hH : zH cA D base b Lx xs s σ H locs cells) (hL : ∀ q ∈ L, zvr q.2) (hS : ∀ v ∈ st, zvr v) (hl : lv_has ls (zml y) (L.map (zcq base b))) (hd : decode (zb y) pc = .ok (.ior, len)) (ha : zaux y pc (.ior) len ia ib = true) (h : zx y (.ior) len ia ib pc L st σ = some (g, pc1, L1, st1, σ1)) (hg : ∀ P, g = some P → P) (hrc : cells + (σ1.2.2.2 - σ.2.2.2) ≤ R.cells) (hrs : slots + (zsz σ1.2.2.2 - zsz σ.2.2.2) ≤ R.slots)
    (kk : zK p l e R s m args below meth c cA D base b Lx xs y cells slots Q σ pc1 L1 st1 σ1) : zW p l e R s m args below meth c base b H locs cells slots Q pc ls st := by
  simp only [zx] at h
  split at h
  · next q p r =>
    simp only [Option.some.injEq, Prod.mk.injEq] at h
    obtain ⟨rfl, rfl, rfl, rfl, rfl⟩ := h
    refine lv_ior C.1 C.2.1 (zlen hd ha) ?_
    have kk2 := zk0 kk hH hL (zcons (zr_of _) (zct (zct hS))) hl
    simp only [zW, List.map_cons, zcv, zit] at kk2
    exact kk2
  · cases h
set_option maxHeartbeats 1000000 in
theorem zs_iand {p : Program} {l : Launch} {e : Env} {R : Room} {s : State} {m : MethodId} {args : Array Value} {below : List Frame} {meth : Method} {c : Code} {cA : Nat → ClassId} {D : va_G} {base b Lx : Nat} {xs : Nat → Int32} {y : Nat} {H : Heap} {locs : List Loc} {cells slots : Nat} {Q : State → Prop} {ls : Array Slot} {pc len ia ib pc1 : Nat} {L L1 : zL} {st st1 : List zV} {σ σ1 : zS} {g : Option Prop} (C : zCx p R s m args meth c cA D base b Lx xs y) (hH : zH cA D base b Lx xs s σ H locs cells) (hL : ∀ q ∈ L, zvr q.2) (hS : ∀ v ∈ st, zvr v) (hl : lv_has ls (zml y) (L.map (zcq base b))) (hd : decode (zb y) pc = .ok (.iand, len)) (ha : zaux y pc (.iand) len ia ib = true) (h : zx y (.iand) len ia ib pc L st σ = some (g, pc1, L1, st1, σ1)) (hg : ∀ P, g = some P → P) (hrc : cells + (σ1.2.2.2 - σ.2.2.2) ≤ R.cells) (hrs : slots + (zsz σ1.2.2.2 - zsz σ.2.2.2) ≤ R.slots)
    (kk : zK p l e R s m args below meth c cA D base b Lx xs y cells slots Q σ pc1 L1 st1 σ1) : zW p l e R s m args below meth c base b H locs cells slots Q pc ls st := by
  simp only [zx] at h
  split at h
  · next q p r =>
    simp only [Option.some.injEq, Prod.mk.injEq] at h
    obtain ⟨rfl, rfl, rfl, rfl, rfl⟩ := h
    refine lv_iand C.1 C.2.1 (zlen hd ha) ?_
    have kk2 := zk0 kk hH hL (zcons (zr_of _) (zct (zct hS))) hl
    simp only [zW, List.map_cons, zcv, zit] at kk2
    exact kk2
  · cases h
theorem z_i2c {p : Int} (h0 : 0 ≤ p) (h1 : p ≤ 65535) : ((Int32.ofInt p).toUInt32 % 65536).toInt32 = Int32.ofInt p := by
  obtain ⟨a, rfl⟩ : ∃ a : Nat, p = a := ⟨p.toNat, by omega⟩
  show ((nI a).toUInt32 % 65536).toInt32 = nI a
  rw [pk_char, pk_tn (by omega), Nat.mod_eq_of_lt (by omega)]
set_option maxHeartbeats 1000000 in
theorem zs_i2c {p : Program} {l : Launch} {e : Env} {R : Room} {s : State} {m : MethodId} {args : Array Value} {below : List Frame} {meth : Method} {c : Code} {cA : Nat → ClassId} {D : va_G} {base b Lx : Nat} {xs : Nat → Int32} {y : Nat} {H : Heap} {locs : List Loc} {cells slots : Nat} {Q : State → Prop} {ls : Array Slot} {pc len ia ib pc1 : Nat} {L L1 : zL} {st st1 : List zV} {σ σ1 : zS} {g : Option Prop} (C : zCx p R s m args meth c cA D base b Lx xs y) (hH : zH cA D base b Lx xs s σ H locs cells) (hL : ∀ q ∈ L, zvr q.2) (hS : ∀ v ∈ st, zvr v) (hl : lv_has ls (zml y) (L.map (zcq base b))) (hd : decode (zb y) pc = .ok (.i2c, len)) (ha : zaux y pc (.i2c) len ia ib = true) (h : zx y (.i2c) len ia ib pc L st σ = some (g, pc1, L1, st1, σ1)) (hg : ∀ P, g = some P → P) (hrc : cells + (σ1.2.2.2 - σ.2.2.2) ≤ R.cells) (hrs : slots + (zsz σ1.2.2.2 - zsz σ.2.2.2) ≤ R.slots)
    (kk : zK p l e R s m args below meth c cA D base b Lx xs y cells slots Q σ pc1 L1 st1 σ1) : zW p l e R s m args below meth c base b H locs cells slots Q pc ls st := by
  simp only [zx] at h
  split at h
  · next p r =>
    simp only [Option.some.injEq, Prod.mk.injEq] at h
    obtain ⟨rfl, rfl, rfl, rfl, rfl⟩ := h
    have h1 := hg _ rfl
    exact lv_i2c C.1 C.2.1 (zlen hd ha) (z_i2c h1.1 h1.2) (zk0 kk hH hL (zcons (zch hS) (zct hS)) hl)
  · cases h
set_option maxHeartbeats 1000000 in
theorem zs_i2d {p : Program} {l : Launch} {e : Env} {R : Room} {s : State} {m : MethodId} {args : Array Value} {below : List Frame} {meth : Method} {c : Code} {cA : Nat → ClassId} {D : va_G} {base b Lx : Nat} {xs : Nat → Int32} {y : Nat} {H : Heap} {locs : List Loc} {cells slots : Nat} {Q : State → Prop} {ls : Array Slot} {pc len ia ib pc1 : Nat} {L L1 : zL} {st st1 : List zV} {σ σ1 : zS} {g : Option Prop} (C : zCx p R s m args meth c cA D base b Lx xs y) (hH : zH cA D base b Lx xs s σ H locs cells) (hL : ∀ q ∈ L, zvr q.2) (hS : ∀ v ∈ st, zvr v) (hl : lv_has ls (zml y) (L.map (zcq base b))) (hd : decode (zb y) pc = .ok (.i2d, len)) (ha : zaux y pc (.i2d) len ia ib = true) (h : zx y (.i2d) len ia ib pc L st σ = some (g, pc1, L1, st1, σ1)) (hg : ∀ P, g = some P → P) (hrc : cells + (σ1.2.2.2 - σ.2.2.2) ≤ R.cells) (hrs : slots + (zsz σ1.2.2.2 - zsz σ.2.2.2) ≤ R.slots)
    (kk : zK p l e R s m args below meth c cA D base b Lx xs y cells slots Q σ pc1 L1 st1 σ1) : zW p l e R s m args below meth c base b H locs cells slots Q pc ls st := by
  simp only [zx] at h
  split at h
  · next p r =>
    simp only [Option.some.injEq, Prod.mk.injEq] at h
    obtain ⟨rfl, rfl, rfl, rfl, rfl⟩ := h
    exact lv_i2d C.1 C.2.1 (zlen hd ha) (zk0 kk hH hL (zcons trivial (zct hS)) hl)
  · cases h
set_option maxHeartbeats 1000000 in
theorem zs_d2f {p : Program} {l : Launch} {e : Env} {R : Room} {s : State} {m : MethodId} {args : Array Value} {below : List Frame} {meth : Method} {c : Code} {cA : Nat → ClassId} {D : va_G} {base b Lx : Nat} {xs : Nat → Int32} {y : Nat} {H : Heap} {locs : List Loc} {cells slots : Nat} {Q : State → Prop} {ls : Array Slot} {pc len ia ib pc1 : Nat} {L L1 : zL} {st st1 : List zV} {σ σ1 : zS} {g : Option Prop} (C : zCx p R s m args meth c cA D base b Lx xs y) (hH : zH cA D base b Lx xs s σ H locs cells) (hL : ∀ q ∈ L, zvr q.2) (hS : ∀ v ∈ st, zvr v) (hl : lv_has ls (zml y) (L.map (zcq base b))) (hd : decode (zb y) pc = .ok (.d2f, len)) (ha : zaux y pc (.d2f) len ia ib = true) (h : zx y (.d2f) len ia ib pc L st σ = some (g, pc1, L1, st1, σ1)) (hg : ∀ P, g = some P → P) (hrc : cells + (σ1.2.2.2 - σ.2.2.2) ≤ R.cells) (hrs : slots + (zsz σ1.2.2.2 - zsz σ.2.2.2) ≤ R.slots)
    (kk : zK p l e R s m args below meth c cA D base b Lx xs y cells slots Q σ pc1 L1 st1 σ1) : zW p l e R s m args below meth c base b H locs cells slots Q pc ls st := by
  simp only [zx] at h
  split at h
  · next p r =>
    simp only [Option.some.injEq, Prod.mk.injEq] at h
    obtain ⟨rfl, rfl, rfl, rfl, rfl⟩ := h
    exact lv_d2f C.1 C.2.1 (zlen hd ha) (hg _ rfl) (zk0 kk hH hL (zcons trivial (zct hS)) hl)
  · cases h
set_option maxHeartbeats 1000000 in
theorem zs_fneg {p : Program} {l : Launch} {e : Env} {R : Room} {s : State} {m : MethodId} {args : Array Value} {below : List Frame} {meth : Method} {c : Code} {cA : Nat → ClassId} {D : va_G} {base b Lx : Nat} {xs : Nat → Int32} {y : Nat} {H : Heap} {locs : List Loc} {cells slots : Nat} {Q : State → Prop} {ls : Array Slot} {pc len ia ib pc1 : Nat} {L L1 : zL} {st st1 : List zV} {σ σ1 : zS} {g : Option Prop} (C : zCx p R s m args meth c cA D base b Lx xs y) (hH : zH cA D base b Lx xs s σ H locs cells) (hL : ∀ q ∈ L, zvr q.2) (hS : ∀ v ∈ st, zvr v) (hl : lv_has ls (zml y) (L.map (zcq base b))) (hd : decode (zb y) pc = .ok (.fneg, len)) (ha : zaux y pc (.fneg) len ia ib = true) (h : zx y (.fneg) len ia ib pc L st σ = some (g, pc1, L1, st1, σ1)) (hg : ∀ P, g = some P → P) (hrc : cells + (σ1.2.2.2 - σ.2.2.2) ≤ R.cells) (hrs : slots + (zsz σ1.2.2.2 - zsz σ.2.2.2) ≤ R.slots)
    (kk : zK p l e R s m args below meth c cA D base b Lx xs y cells slots Q σ pc1 L1 st1 σ1) : zW p l e R s m args below meth c base b H locs cells slots Q pc ls st := by
  simp only [zx] at h
  split at h
  · next p r =>
    simp only [Option.some.injEq, Prod.mk.injEq] at h
    obtain ⟨rfl, rfl, rfl, rfl, rfl⟩ := h
    exact lv_fneg C.1 C.2.1 (zlen hd ha) (zk0 kk hH hL (zcons trivial (zct hS)) hl)
  · cases h
set_option maxHeartbeats 1000000 in
theorem zs_ddiv {p : Program} {l : Launch} {e : Env} {R : Room} {s : State} {m : MethodId} {args : Array Value} {below : List Frame} {meth : Method} {c : Code} {cA : Nat → ClassId} {D : va_G} {base b Lx : Nat} {xs : Nat → Int32} {y : Nat} {H : Heap} {locs : List Loc} {cells slots : Nat} {Q : State → Prop} {ls : Array Slot} {pc len ia ib pc1 : Nat} {L L1 : zL} {st st1 : List zV} {σ σ1 : zS} {g : Option Prop} (C : zCx p R s m args meth c cA D base b Lx xs y) (hH : zH cA D base b Lx xs s σ H locs cells) (hL : ∀ q ∈ L, zvr q.2) (hS : ∀ v ∈ st, zvr v) (hl : lv_has ls (zml y) (L.map (zcq base b))) (hd : decode (zb y) pc = .ok (.ddiv, len)) (ha : zaux y pc (.ddiv) len ia ib = true) (h : zx y (.ddiv) len ia ib pc L st σ = some (g, pc1, L1, st1, σ1)) (hg : ∀ P, g = some P → P) (hrc : cells + (σ1.2.2.2 - σ.2.2.2) ≤ R.cells) (hrs : slots + (zsz σ1.2.2.2 - zsz σ.2.2.2) ≤ R.slots)
    (kk : zK p l e R s m args below meth c cA D base b Lx xs y cells slots Q σ pc1 L1 st1 σ1) : zW p l e R s m args below meth c base b H locs cells slots Q pc ls st := by
  simp only [zx] at h
  split at h
  · next q p r =>
    simp only [Option.some.injEq, Prod.mk.injEq] at h
    obtain ⟨rfl, rfl, rfl, rfl, rfl⟩ := h
    exact lv_ddiv C.1 C.2.1 (zlen hd ha) (hg _ rfl) (zk0 kk hH hL (zcons trivial (zct (zct hS))) hl)
  · cases h
set_option maxHeartbeats 1000000 in
theorem zs_dmul {p : Program} {l : Launch} {e : Env} {R : Room} {s : State} {m : MethodId} {args : Array Value} {below : List Frame} {meth : Method} {c : Code} {cA : Nat → ClassId} {D : va_G} {base b Lx : Nat} {xs : Nat → Int32} {y : Nat} {H : Heap} {locs : List Loc} {cells slots : Nat} {Q : State → Prop} {ls : Array Slot} {pc len ia ib pc1 : Nat} {L L1 : zL} {st st1 : List zV} {σ σ1 : zS} {g : Option Prop} (C : zCx p R s m args meth c cA D base b Lx xs y) (hH : zH cA D base b Lx xs s σ H locs cells) (hL : ∀ q ∈ L, zvr q.2) (hS : ∀ v ∈ st, zvr v) (hl : lv_has ls (zml y) (L.map (zcq base b))) (hd : decode (zb y) pc = .ok (.dmul, len)) (ha : zaux y pc (.dmul) len ia ib = true) (h : zx y (.dmul) len ia ib pc L st σ = some (g, pc1, L1, st1, σ1)) (hg : ∀ P, g = some P → P) (hrc : cells + (σ1.2.2.2 - σ.2.2.2) ≤ R.cells) (hrs : slots + (zsz σ1.2.2.2 - zsz σ.2.2.2) ≤ R.slots)
    (kk : zK p l e R s m args below meth c cA D base b Lx xs y cells slots Q σ pc1 L1 st1 σ1) : zW p l e R s m args below meth c base b H locs cells slots Q pc ls st := by
  simp only [zx] at h
  split at h
  · next q p r =>
    simp only [Option.some.injEq, Prod.mk.injEq] at h
    obtain ⟨rfl, rfl, rfl, rfl, rfl⟩ := h
    exact lv_dmul C.1 C.2.1 (zlen hd ha) (hg _ rfl) (zk0 kk hH hL (zcons trivial (zct (zct hS))) hl)
  · cases h
set_option maxHeartbeats 1000000 in
theorem zs_dsub {p : Program} {l : Launch} {e : Env} {R : Room} {s : State} {m : MethodId} {args : Array Value} {below : List Frame} {meth : Method} {c : Code} {cA : Nat → ClassId} {D : va_G} {base b Lx : Nat} {xs : Nat → Int32} {y : Nat} {H : Heap} {locs : List Loc} {cells slots : Nat} {Q : State → Prop} {ls : Array Slot} {pc len ia ib pc1 : Nat} {L L1 : zL} {st st1 : List zV} {σ σ1 : zS} {g : Option Prop} (C : zCx p R s m args meth c cA D base b Lx xs y) (hH : zH cA D base b Lx xs s σ H locs cells) (hL : ∀ q ∈ L, zvr q.2) (hS : ∀ v ∈ st, zvr v) (hl : lv_has ls (zml y) (L.map (zcq base b))) (hd : decode (zb y) pc = .ok (.dsub, len)) (ha : zaux y pc (.dsub) len ia ib = true) (h : zx y (.dsub) len ia ib pc L st σ = some (g, pc1, L1, st1, σ1)) (hg : ∀ P, g = some P → P) (hrc : cells + (σ1.2.2.2 - σ.2.2.2) ≤ R.cells) (hrs : slots + (zsz σ1.2.2.2 - zsz σ.2.2.2) ≤ R.slots)
    (kk : zK p l e R s m args below meth c cA D base b Lx xs y cells slots Q σ pc1 L1 st1 σ1) : zW p l e R s m args below meth c base b H locs cells slots Q pc ls st := by
  simp only [zx] at h
  split at h
  · next q p r =>
    simp only [Option.some.injEq, Prod.mk.injEq] at h
    obtain ⟨rfl, rfl, rfl, rfl, rfl⟩ := h
    exact lv_dsub C.1 C.2.1 (zlen hd ha) (hg _ rfl) (zk0 kk hH hL (zcons trivial (zct (zct hS))) hl)
  · cases h
set_option maxHeartbeats 1000000 in
theorem zs_fdiv {p : Program} {l : Launch} {e : Env} {R : Room} {s : State} {m : MethodId} {args : Array Value} {below : List Frame} {meth : Method} {c : Code} {cA : Nat → ClassId} {D : va_G} {base b Lx : Nat} {xs : Nat → Int32} {y : Nat} {H : Heap} {locs : List Loc} {cells slots : Nat} {Q : State → Prop} {ls : Array Slot} {pc len ia ib pc1 : Nat} {L L1 : zL} {st st1 : List zV} {σ σ1 : zS} {g : Option Prop} (C : zCx p R s m args meth c cA D base b Lx xs y) (hH : zH cA D base b Lx xs s σ H locs cells) (hL : ∀ q ∈ L, zvr q.2) (hS : ∀ v ∈ st, zvr v) (hl : lv_has ls (zml y) (L.map (zcq base b))) (hd : decode (zb y) pc = .ok (.fdiv, len)) (ha : zaux y pc (.fdiv) len ia ib = true) (h : zx y (.fdiv) len ia ib pc L st σ = some (g, pc1, L1, st1, σ1)) (hg : ∀ P, g = some P → P) (hrc : cells + (σ1.2.2.2 - σ.2.2.2) ≤ R.cells) (hrs : slots + (zsz σ1.2.2.2 - zsz σ.2.2.2) ≤ R.slots)
    (kk : zK p l e R s m args below meth c cA D base b Lx xs y cells slots Q σ pc1 L1 st1 σ1) : zW p l e R s m args below meth c base b H locs cells slots Q pc ls st := by
  simp only [zx] at h
  split at h
  · next q p r =>
    simp only [Option.some.injEq, Prod.mk.injEq] at h
    obtain ⟨rfl, rfl, rfl, rfl, rfl⟩ := h
    exact lv_fdiv C.1 C.2.1 (zlen hd ha) (hg _ rfl) (zk0 kk hH hL (zcons trivial (zct (zct hS))) hl)
  · cases h
set_option maxHeartbeats 1000000 in
theorem zs_fmul {p : Program} {l : Launch} {e : Env} {R : Room} {s : State} {m : MethodId} {args : Array Value} {below : List Frame} {meth : Method} {c : Code} {cA : Nat → ClassId} {D : va_G} {base b Lx : Nat} {xs : Nat → Int32} {y : Nat} {H : Heap} {locs : List Loc} {cells slots : Nat} {Q : State → Prop} {ls : Array Slot} {pc len ia ib pc1 : Nat} {L L1 : zL} {st st1 : List zV} {σ σ1 : zS} {g : Option Prop} (C : zCx p R s m args meth c cA D base b Lx xs y) (hH : zH cA D base b Lx xs s σ H locs cells) (hL : ∀ q ∈ L, zvr q.2) (hS : ∀ v ∈ st, zvr v) (hl : lv_has ls (zml y) (L.map (zcq base b))) (hd : decode (zb y) pc = .ok (.fmul, len)) (ha : zaux y pc (.fmul) len ia ib = true) (h : zx y (.fmul) len ia ib pc L st σ = some (g, pc1, L1, st1, σ1)) (hg : ∀ P, g = some P → P) (hrc : cells + (σ1.2.2.2 - σ.2.2.2) ≤ R.cells) (hrs : slots + (zsz σ1.2.2.2 - zsz σ.2.2.2) ≤ R.slots)
    (kk : zK p l e R s m args below meth c cA D base b Lx xs y cells slots Q σ pc1 L1 st1 σ1) : zW p l e R s m args below meth c base b H locs cells slots Q pc ls st := by
  simp only [zx] at h
  split at h
  · next q p r =>
    simp only [Option.some.injEq, Prod.mk.injEq] at h
    obtain ⟨rfl, rfl, rfl, rfl, rfl⟩ := h
    exact lv_fmul C.1 C.2.1 (zlen hd ha) (hg _ rfl) (zk0 kk hH hL (zcons trivial (zct (zct hS))) hl)
  · cases h
set_option maxHeartbeats 1000000 in
theorem zs_fsub {p : Program} {l : Launch} {e : Env} {R : Room} {s : State} {m : MethodId} {args : Array Value} {below : List Frame} {meth : Method} {c : Code} {cA : Nat → ClassId} {D : va_G} {base b Lx : Nat} {xs : Nat → Int32} {y : Nat} {H : Heap} {locs : List Loc} {cells slots : Nat} {Q : State → Prop} {ls : Array Slot} {pc len ia ib pc1 : Nat} {L L1 : zL} {st st1 : List zV} {σ σ1 : zS} {g : Option Prop} (C : zCx p R s m args meth c cA D base b Lx xs y) (hH : zH cA D base b Lx xs s σ H locs cells) (hL : ∀ q ∈ L, zvr q.2) (hS : ∀ v ∈ st, zvr v) (hl : lv_has ls (zml y) (L.map (zcq base b))) (hd : decode (zb y) pc = .ok (.fsub, len)) (ha : zaux y pc (.fsub) len ia ib = true) (h : zx y (.fsub) len ia ib pc L st σ = some (g, pc1, L1, st1, σ1)) (hg : ∀ P, g = some P → P) (hrc : cells + (σ1.2.2.2 - σ.2.2.2) ≤ R.cells) (hrs : slots + (zsz σ1.2.2.2 - zsz σ.2.2.2) ≤ R.slots)
    (kk : zK p l e R s m args below meth c cA D base b Lx xs y cells slots Q σ pc1 L1 st1 σ1) : zW p l e R s m args below meth c base b H locs cells slots Q pc ls st := by
  simp only [zx] at h
  split at h
  · next q p r =>
    simp only [Option.some.injEq, Prod.mk.injEq] at h
    obtain ⟨rfl, rfl, rfl, rfl, rfl⟩ := h
    exact lv_fsub C.1 C.2.1 (zlen hd ha) (hg _ rfl) (zk0 kk hH hL (zcons trivial (zct (zct hS))) hl)
  · cases h
set_option maxHeartbeats 1000000 in
theorem zs_f2i {p : Program} {l : Launch} {e : Env} {R : Room} {s : State} {m : MethodId} {args : Array Value} {below : List Frame} {meth : Method} {c : Code} {cA : Nat → ClassId} {D : va_G} {base b Lx : Nat} {xs : Nat → Int32} {y : Nat} {H : Heap} {locs : List Loc} {cells slots : Nat} {Q : State → Prop} {ls : Array Slot} {pc len ia ib pc1 : Nat} {L L1 : zL} {st st1 : List zV} {σ σ1 : zS} {g : Option Prop} (C : zCx p R s m args meth c cA D base b Lx xs y) (hH : zH cA D base b Lx xs s σ H locs cells) (hL : ∀ q ∈ L, zvr q.2) (hS : ∀ v ∈ st, zvr v) (hl : lv_has ls (zml y) (L.map (zcq base b))) (hd : decode (zb y) pc = .ok (.f2i, len)) (ha : zaux y pc (.f2i) len ia ib = true) (h : zx y (.f2i) len ia ib pc L st σ = some (g, pc1, L1, st1, σ1)) (hg : ∀ P, g = some P → P) (hrc : cells + (σ1.2.2.2 - σ.2.2.2) ≤ R.cells) (hrs : slots + (zsz σ1.2.2.2 - zsz σ.2.2.2) ≤ R.slots)
    (kk : zK p l e R s m args below meth c cA D base b Lx xs y cells slots Q σ pc1 L1 st1 σ1) : zW p l e R s m args below meth c base b H locs cells slots Q pc ls st := by
  simp only [zx] at h
  split at h
  · next p r =>
    simp only [Option.some.injEq, Prod.mk.injEq] at h
    obtain ⟨rfl, rfl, rfl, rfl, rfl⟩ := h
    refine lv_f2i C.1 C.2.1 (zlen hd ha) ?_
    have kk2 := zk0 kk hH hL (zcons (zr_of _) (zct hS)) hl
    simp only [zW, List.map_cons, zcv, zit] at kk2
    exact kk2
  · cases h
set_option maxHeartbeats 1000000 in
theorem zs_fcmp {p : Program} {l : Launch} {e : Env} {R : Room} {s : State} {m : MethodId} {args : Array Value} {below : List Frame} {meth : Method} {c : Code} {cA : Nat → ClassId} {D : va_G} {base b Lx : Nat} {xs : Nat → Int32} {y : Nat} {H : Heap} {locs : List Loc} {cells slots : Nat} {Q : State → Prop} {ls : Array Slot} {pc len ia ib pc1 : Nat} {L L1 : zL} {st st1 : List zV} {σ σ1 : zS} {g : Option Prop} {o : CmpOp} (C : zCx p R s m args meth c cA D base b Lx xs y) (hH : zH cA D base b Lx xs s σ H locs cells) (hL : ∀ q ∈ L, zvr q.2) (hS : ∀ v ∈ st, zvr v) (hl : lv_has ls (zml y) (L.map (zcq base b))) (hd : decode (zb y) pc = .ok (.fcmp o, len)) (ha : zaux y pc (.fcmp o) len ia ib = true) (h : zx y (.fcmp o) len ia ib pc L st σ = some (g, pc1, L1, st1, σ1)) (hg : ∀ P, g = some P → P) (hrc : cells + (σ1.2.2.2 - σ.2.2.2) ≤ R.cells) (hrs : slots + (zsz σ1.2.2.2 - zsz σ.2.2.2) ≤ R.slots)
    (kk : zK p l e R s m args below meth c cA D base b Lx xs y cells slots Q σ pc1 L1 st1 σ1) : zW p l e R s m args below meth c base b H locs cells slots Q pc ls st := by
  simp only [zx] at h
  split at h
  · next q p r =>
    simp only [Option.some.injEq, Prod.mk.injEq] at h
    obtain ⟨rfl, rfl, rfl, rfl, rfl⟩ := h
    refine lv_fcmp C.1 C.2.1 (zlen hd ha) ?_
    have kk2 := zk0 kk hH hL (zcons (zr_of _) (zct (zct hS))) hl
    simp only [zW, List.map_cons, zcv, zit] at kk2
    exact kk2
  · cases h
set_option maxHeartbeats 1000000 in
theorem zs_dcmp {p : Program} {l : Launch} {e : Env} {R : Room} {s : State} {m : MethodId} {args : Array Value} {below : List Frame} {meth : Method} {c : Code} {cA : Nat → ClassId} {D : va_G} {base b Lx : Nat} {xs : Nat → Int32} {y : Nat} {H : Heap} {locs : List Loc} {cells slots : Nat} {Q : State → Prop} {ls : Array Slot} {pc len ia ib pc1 : Nat} {L L1 : zL} {st st1 : List zV} {σ σ1 : zS} {g : Option Prop} {o : CmpOp} (C : zCx p R s m args meth c cA D base b Lx xs y) (hH : zH cA D base b Lx xs s σ H locs cells) (hL : ∀ q ∈ L, zvr q.2) (hS : ∀ v ∈ st, zvr v) (hl : lv_has ls (zml y) (L.map (zcq base b))) (hd : decode (zb y) pc = .ok (.dcmp o, len)) (ha : zaux y pc (.dcmp o) len ia ib = true) (h : zx y (.dcmp o) len ia ib pc L st σ = some (g, pc1, L1, st1, σ1)) (hg : ∀ P, g = some P → P) (hrc : cells + (σ1.2.2.2 - σ.2.2.2) ≤ R.cells) (hrs : slots + (zsz σ1.2.2.2 - zsz σ.2.2.2) ≤ R.slots)
    (kk : zK p l e R s m args below meth c cA D base b Lx xs y cells slots Q σ pc1 L1 st1 σ1) : zW p l e R s m args below meth c base b H locs cells slots Q pc ls st := by
  simp only [zx] at h
  split at h
  · next q p r =>
    simp only [Option.some.injEq, Prod.mk.injEq] at h
    obtain ⟨rfl, rfl, rfl, rfl, rfl⟩ := h
    refine lv_dcmp C.1 C.2.1 (zlen hd ha) ?_
    have kk2 := zk0 kk hH hL (zcons (zr_of _) (zct (zct hS))) hl
    simp only [zW, List.map_cons, zcv, zit] at kk2
    exact kk2
  · cases h
theorem zcat1 {base b : Nat} {v : zV} (h : Nat.beq (zcat v) 1 = true) : (zcv base b v).category = 1 := by rw [zcat_cv]; exact Nat.eq_of_beq_eq_true h
theorem zbif {α : Type} {x : Bool} {a : α} {z : α} (h : (bif x then some a else none) = some z) : x = true ∧ a = z := by
  cases x
  · cases h
  · exact ⟨rfl, Option.some.inj h⟩
set_option maxHeartbeats 1000000 in
theorem zs_dup {p : Program} {l : Launch} {e : Env} {R : Room} {s : State} {m : MethodId} {args : Array Value} {below : List Frame} {meth : Method} {c : Code} {cA : Nat → ClassId} {D : va_G} {base b Lx : Nat} {xs : Nat → Int32} {y : Nat} {H : Heap} {locs : List Loc} {cells slots : Nat} {Q : State → Prop} {ls : Array Slot} {pc len ia ib pc1 : Nat} {L L1 : zL} {st st1 : List zV} {σ σ1 : zS} {g : Option Prop} (C : zCx p R s m args meth c cA D base b Lx xs y) (hH : zH cA D base b Lx xs s σ H locs cells) (hL : ∀ q ∈ L, zvr q.2) (hS : ∀ v ∈ st, zvr v) (hl : lv_has ls (zml y) (L.map (zcq base b))) (hd : decode (zb y) pc = .ok (.dup, len)) (ha : zaux y pc (.dup) len ia ib = true) (h : zx y (.dup) len ia ib pc L st σ = some (g, pc1, L1, st1, σ1)) (hg : ∀ P, g = some P → P) (hrc : cells + (σ1.2.2.2 - σ.2.2.2) ≤ R.cells) (hrs : slots + (zsz σ1.2.2.2 - zsz σ.2.2.2) ≤ R.slots)
    (kk : zK p l e R s m args below meth c cA D base b Lx xs y cells slots Q σ pc1 L1 st1 σ1) : zW p l e R s m args below meth c base b H locs cells slots Q pc ls st := by
  simp only [zx] at h
  split at h
  · next v r =>
    obtain ⟨hb, h⟩ := zbif h
    simp only [Prod.mk.injEq] at h
    obtain ⟨rfl, rfl, rfl, rfl, rfl⟩ := h
    exact lv_dup C.1 C.2.1 (zlen hd ha) (zcat1 hb) (zk0 kk hH hL (zcons (zch hS) hS) hl)
  · cases h
set_option maxHeartbeats 1000000 in
theorem zs_dup2 {p : Program} {l : Launch} {e : Env} {R : Room} {s : State} {m : MethodId} {args : Array Value} {below : List Frame} {meth : Method} {c : Code} {cA : Nat → ClassId} {D : va_G} {base b Lx : Nat} {xs : Nat → Int32} {y : Nat} {H : Heap} {locs : List Loc} {cells slots : Nat} {Q : State → Prop} {ls : Array Slot} {pc len ia ib pc1 : Nat} {L L1 : zL} {st st1 : List zV} {σ σ1 : zS} {g : Option Prop} (C : zCx p R s m args meth c cA D base b Lx xs y) (hH : zH cA D base b Lx xs s σ H locs cells) (hL : ∀ q ∈ L, zvr q.2) (hS : ∀ v ∈ st, zvr v) (hl : lv_has ls (zml y) (L.map (zcq base b))) (hd : decode (zb y) pc = .ok (.dup2, len)) (ha : zaux y pc (.dup2) len ia ib = true) (h : zx y (.dup2) len ia ib pc L st σ = some (g, pc1, L1, st1, σ1)) (hg : ∀ P, g = some P → P) (hrc : cells + (σ1.2.2.2 - σ.2.2.2) ≤ R.cells) (hrs : slots + (zsz σ1.2.2.2 - zsz σ.2.2.2) ≤ R.slots)
    (kk : zK p l e R s m args below meth c cA D base b Lx xs y cells slots Q σ pc1 L1 st1 σ1) : zW p l e R s m args below meth c base b H locs cells slots Q pc ls st := by
  simp only [zx] at h
  split at h
  · next v w r =>
    obtain ⟨hb, h⟩ := zbif h
    simp only [Prod.mk.injEq] at h
    obtain ⟨rfl, rfl, rfl, rfl, rfl⟩ := h
    simp only [Bool.and_eq_true] at hb
    exact lv_dup2_11 C.1 C.2.1 (zlen hd ha) (zcat1 hb.1) (zcat1 hb.2) (zk0 kk hH hL (zcons (zch hS) (zcons (zch (zct hS)) hS)) hl)
  · cases h
set_option maxHeartbeats 1000000 in
theorem zs_pop {p : Program} {l : Launch} {e : Env} {R : Room} {s : State} {m : MethodId} {args : Array Value} {below : List Frame} {meth : Method} {c : Code} {cA : Nat → ClassId} {D : va_G} {base b Lx : Nat} {xs : Nat → Int32} {y : Nat} {H : Heap} {locs : List Loc} {cells slots : Nat} {Q : State → Prop} {ls : Array Slot} {pc len ia ib pc1 : Nat} {L L1 : zL} {st st1 : List zV} {σ σ1 : zS} {g : Option Prop} (C : zCx p R s m args meth c cA D base b Lx xs y) (hH : zH cA D base b Lx xs s σ H locs cells) (hL : ∀ q ∈ L, zvr q.2) (hS : ∀ v ∈ st, zvr v) (hl : lv_has ls (zml y) (L.map (zcq base b))) (hd : decode (zb y) pc = .ok (.pop, len)) (ha : zaux y pc (.pop) len ia ib = true) (h : zx y (.pop) len ia ib pc L st σ = some (g, pc1, L1, st1, σ1)) (hg : ∀ P, g = some P → P) (hrc : cells + (σ1.2.2.2 - σ.2.2.2) ≤ R.cells) (hrs : slots + (zsz σ1.2.2.2 - zsz σ.2.2.2) ≤ R.slots)
    (kk : zK p l e R s m args below meth c cA D base b Lx xs y cells slots Q σ pc1 L1 st1 σ1) : zW p l e R s m args below meth c base b H locs cells slots Q pc ls st := by
  simp only [zx] at h
  split at h
  · next v r =>
    obtain ⟨hb, h⟩ := zbif h
    simp only [Prod.mk.injEq] at h
    obtain ⟨rfl, rfl, rfl, rfl, rfl⟩ := h
    exact lv_pop C.1 C.2.1 (zlen hd ha) (zcat1 hb) (zk0 kk hH hL (zct hS) hl)
  · cases h
set_option maxHeartbeats 1000000 in
theorem zs_goto {p : Program} {l : Launch} {e : Env} {R : Room} {s : State} {m : MethodId} {args : Array Value} {below : List Frame} {meth : Method} {c : Code} {cA : Nat → ClassId} {D : va_G} {base b Lx : Nat} {xs : Nat → Int32} {y : Nat} {H : Heap} {locs : List Loc} {cells slots : Nat} {Q : State → Prop} {ls : Array Slot} {pc len ia ib pc1 : Nat} {L L1 : zL} {st st1 : List zV} {σ σ1 : zS} {g : Option Prop} {o : Int} (C : zCx p R s m args meth c cA D base b Lx xs y) (hH : zH cA D base b Lx xs s σ H locs cells) (hL : ∀ q ∈ L, zvr q.2) (hS : ∀ v ∈ st, zvr v) (hl : lv_has ls (zml y) (L.map (zcq base b))) (hd : decode (zb y) pc = .ok (.goto o, len)) (ha : zaux y pc (.goto o) len ia ib = true) (h : zx y (.goto o) len ia ib pc L st σ = some (g, pc1, L1, st1, σ1)) (hg : ∀ P, g = some P → P) (hrc : cells + (σ1.2.2.2 - σ.2.2.2) ≤ R.cells) (hrs : slots + (zsz σ1.2.2.2 - zsz σ.2.2.2) ≤ R.slots)
    (kk : zK p l e R s m args below meth c cA D base b Lx xs y cells slots Q σ pc1 L1 st1 σ1) : zW p l e R s m args below meth c base b H locs cells slots Q pc ls st := by
  simp only [zx] at h
  simp only [Option.some.injEq, Prod.mk.injEq] at h
  obtain ⟨rfl, rfl, rfl, rfl, rfl⟩ := h
  simp only [zaux, Bool.and_eq_true, decide_eq_true_eq] at ha
  exact lv_goto C.1 C.2.1 (zlen hd ha.1) ha.2 (zk0 kk hH hL hS hl)
set_option maxHeartbeats 1000000 in
theorem zs_ifnull {p : Program} {l : Launch} {e : Env} {R : Room} {s : State} {m : MethodId} {args : Array Value} {below : List Frame} {meth : Method} {c : Code} {cA : Nat → ClassId} {D : va_G} {base b Lx : Nat} {xs : Nat → Int32} {y : Nat} {H : Heap} {locs : List Loc} {cells slots : Nat} {Q : State → Prop} {ls : Array Slot} {pc len ia ib pc1 : Nat} {L L1 : zL} {st st1 : List zV} {σ σ1 : zS} {g : Option Prop} {o : Int} (C : zCx p R s m args meth c cA D base b Lx xs y) (hH : zH cA D base b Lx xs s σ H locs cells) (hL : ∀ q ∈ L, zvr q.2) (hS : ∀ v ∈ st, zvr v) (hl : lv_has ls (zml y) (L.map (zcq base b))) (hd : decode (zb y) pc = .ok (.ifnull o, len)) (ha : zaux y pc (.ifnull o) len ia ib = true) (h : zx y (.ifnull o) len ia ib pc L st σ = some (g, pc1, L1, st1, σ1)) (hg : ∀ P, g = some P → P) (hrc : cells + (σ1.2.2.2 - σ.2.2.2) ≤ R.cells) (hrs : slots + (zsz σ1.2.2.2 - zsz σ.2.2.2) ≤ R.slots)
    (kk : zK p l e R s m args below meth c cA D base b Lx xs y cells slots Q σ pc1 L1 st1 σ1) : zW p l e R s m args below meth c base b H locs cells slots Q pc ls st := by
  simp only [zx] at h
  simp only [zaux, Bool.and_eq_true, decide_eq_true_eq] at ha
  split at h
  · next q r =>
    split at h
    · simp only [Option.some.injEq, Prod.mk.injEq] at h
      obtain ⟨rfl, rfl, rfl, rfl, rfl⟩ := h
      exact lv_ifnullN C.1 C.2.1 (zlen hd ha.1) ha.2 (zk0 kk hH hL (zct hS) hl)
    · next q =>
      simp only [Option.some.injEq, Prod.mk.injEq] at h
      obtain ⟨rfl, rfl, rfl, rfl, rfl⟩ := h
      simp only [zW, List.map_cons, zcv_r (Nat.succ_ne_zero q)]
      exact lv_ifnull C.1 C.2.1 (zlen hd ha.1) (zk0 kk hH hL (zct hS) hl)
  · cases h
set_option maxHeartbeats 1000000 in
theorem zs_ifnonnull {p : Program} {l : Launch} {e : Env} {R : Room} {s : State} {m : MethodId} {args : Array Value} {below : List Frame} {meth : Method} {c : Code} {cA : Nat → ClassId} {D : va_G} {base b Lx : Nat} {xs : Nat → Int32} {y : Nat} {H : Heap} {locs : List Loc} {cells slots : Nat} {Q : State → Prop} {ls : Array Slot} {pc len ia ib pc1 : Nat} {L L1 : zL} {st st1 : List zV} {σ σ1 : zS} {g : Option Prop} {o : Int} (C : zCx p R s m args meth c cA D base b Lx xs y) (hH : zH cA D base b Lx xs s σ H locs cells) (hL : ∀ q ∈ L, zvr q.2) (hS : ∀ v ∈ st, zvr v) (hl : lv_has ls (zml y) (L.map (zcq base b))) (hd : decode (zb y) pc = .ok (.ifnonnull o, len)) (ha : zaux y pc (.ifnonnull o) len ia ib = true) (h : zx y (.ifnonnull o) len ia ib pc L st σ = some (g, pc1, L1, st1, σ1)) (hg : ∀ P, g = some P → P) (hrc : cells + (σ1.2.2.2 - σ.2.2.2) ≤ R.cells) (hrs : slots + (zsz σ1.2.2.2 - zsz σ.2.2.2) ≤ R.slots)
    (kk : zK p l e R s m args below meth c cA D base b Lx xs y cells slots Q σ pc1 L1 st1 σ1) : zW p l e R s m args below meth c base b H locs cells slots Q pc ls st := by
  simp only [zx] at h
  simp only [zaux, Bool.and_eq_true, decide_eq_true_eq] at ha
  split at h
  · next q r =>
    split at h
    · simp only [Option.some.injEq, Prod.mk.injEq] at h
      obtain ⟨rfl, rfl, rfl, rfl, rfl⟩ := h
      exact lv_ifnonnullN C.1 C.2.1 (zlen hd ha.1) (zk0 kk hH hL (zct hS) hl)
    · next q =>
      simp only [Option.some.injEq, Prod.mk.injEq] at h
      obtain ⟨rfl, rfl, rfl, rfl, rfl⟩ := h
      simp only [zW, List.map_cons, zcv_r (Nat.succ_ne_zero q)]
      exact lv_ifnonnull C.1 C.2.1 (zlen hd ha.1) ha.2 (zk0 kk hH hL (zct hS) hl)
  · cases h
set_option maxHeartbeats 1000000 in
theorem zs_aconst_null {p : Program} {l : Launch} {e : Env} {R : Room} {s : State} {m : MethodId} {args : Array Value} {below : List Frame} {meth : Method} {c : Code} {cA : Nat → ClassId} {D : va_G} {base b Lx : Nat} {xs : Nat → Int32} {y : Nat} {H : Heap} {locs : List Loc} {cells slots : Nat} {Q : State → Prop} {ls : Array Slot} {pc len ia ib pc1 : Nat} {L L1 : zL} {st st1 : List zV} {σ σ1 : zS} {g : Option Prop} (C : zCx p R s m args meth c cA D base b Lx xs y) (hH : zH cA D base b Lx xs s σ H locs cells) (hL : ∀ q ∈ L, zvr q.2) (hS : ∀ v ∈ st, zvr v) (hl : lv_has ls (zml y) (L.map (zcq base b))) (hd : decode (zb y) pc = .ok (.aconst_null, len)) (ha : zaux y pc (.aconst_null) len ia ib = true) (h : zx y (.aconst_null) len ia ib pc L st σ = some (g, pc1, L1, st1, σ1)) (hg : ∀ P, g = some P → P) (hrc : cells + (σ1.2.2.2 - σ.2.2.2) ≤ R.cells) (hrs : slots + (zsz σ1.2.2.2 - zsz σ.2.2.2) ≤ R.slots)
    (kk : zK p l e R s m args below meth c cA D base b Lx xs y cells slots Q σ pc1 L1 st1 σ1) : zW p l e R s m args below meth c base b H locs cells slots Q pc ls st := by
  simp only [zx] at h
  simp only [Option.some.injEq, Prod.mk.injEq] at h
  obtain ⟨rfl, rfl, rfl, rfl, rfl⟩ := h
  exact lv_null C.1 C.2.1 (zlen hd ha) (zk0 kk hH hL (zcons trivial hS) hl)
end
section
theorem zfl_spec {o i ci k : Nat} (h : zfl.any (fun q => decide (q.1 = o ∧ q.2.1 = i ∧ q.2.2.1 = ci ∧ q.2.2.2.1 = k)) = true) : Cond.fieldLink (zR o) i (zT ci k).1 (zT ci k).2.1 (zT ci k).2.2.1 ∈ lw_tbl ∧ ci < 8 ∧ k < znf ci := by
  obtain ⟨q, hq, hd⟩ := List.any_eq_true.mp h
  have h1 := List.all_eq_true.mp zfl_ok q hq
  simp only [Bool.and_eq_true, decide_eq_true_eq] at h1 hd
  obtain ⟨rfl, rfl, rfl, rfl⟩ := hd
  exact ⟨List.mem_of_getElem? h1.1.1, h1.1.2, h1.2⟩
theorem zE_obj {cA : Nat → ClassId} {base b r ci : Nat} {σ : zS} (h : (zsh r).1 = ci) (hc : ci < 8) : zE cA base b σ r = .inr (ci, (List.range (znf ci)).map (zfv base b σ r ci)) := by
  rw [zE, h, if_pos hc, zshn r (by omega), h]
theorem zE_int {cA : Nat → ClassId} {base b r k : Nat} {σ : zS} (h : (zsh r).1 = k) (h1 : ¬ k < 8) (h2 : k ≠ 13) (h3 : k ≠ 14) : zE cA base b σ r = .inl (cA k, ((zsh r).2, .inl (fun j => Int32.ofInt (σ.1 r j)))) := by
  rw [zE, h, if_neg h1, if_neg h2, if_neg h3]
theorem zE_dbl {cA : Nat → ClassId} {base b r : Nat} {σ : zS} (h : (zsh r).1 = 13) : zE cA base b σ r = .inl (cA 13, ((zsh r).2, .inr (.inr (.inr (.inl (fun j => σ.2.2.1 r j)))))) := by
  rw [zE, h, if_neg (by decide), if_pos rfl]
theorem zE_ref {cA : Nat → ClassId} {base b r : Nat} {σ : zS} (h : (zsh r).1 = 14) : zE cA base b σ r = .inl (cA 14, ((zsh r).2, .inr (.inr (.inr (.inr (fun j => zrf base b (σ.2.1 r j))))))) := by
  rw [zE, h, if_neg (by decide), if_neg (by decide), if_pos rfl]
theorem zfv_cv {base b q ci k : Nat} {σ : zS} : zfv base b σ q ci k = zcv base b (bif zfr ci k then vr (σ.2.1 q k) else vi (σ.1 q k)) := by
  unfold zfv
  cases zfr ci k <;> rfl
theorem zget_map {n k : Nat} {f : Nat → Value} (h : k < n) : ((List.range n).map f)[k]? = some (f k) := by simp [h]
theorem zset_map {n k : Nat} {f g : Nat → Value} {v : Value} (hg : g k = v) (ho : ∀ j, j ≠ k → g j = f j) : ((List.range n).map f).set k v = (List.range n).map g := by
  apply List.ext_getElem?
  intro j
  by_cases hj : j < n
  · by_cases hjk : j = k
    · subst hjk
      rw [List.getElem?_set_self (by simpa using hj), zget_map hj, hg]
    · rw [List.getElem?_set_ne (Ne.symm hjk), zget_map hj, zget_map hj, ho j hjk]
  · rw [List.getElem?_eq_none (by simp; omega), List.getElem?_eq_none (by simp; omega)]
theorem zsize {p : Program} {l : Launch} {e : Env} {R : Room} {s : State} {m : MethodId} {args : Array Value} {below : List Frame} {meth : Method} {c : Code} {cA : Nat → ClassId} {D : va_G} {base b : Nat} {H : Heap} {locs : List Loc} {cells slots : Nat} {Q : State → Prop} {σ1 : zS} {g : JFrame} (hP : va_P D vwCl (zws cA base b σ1) H) (hc : 2 ≤ σ1.2.2.2) (he : s.heap.size + cells = base + (σ1.2.2.2 - 1)) (kk : H.size = base + (σ1.2.2.2 - 1) → W p l e R s m args below meth c H locs cells slots Q g) : W p l e R s m args below meth c H locs cells slots Q g := by
  intro T hT X
  have h1 : T.heap.size ≤ s.heap.size + cells := X.same.2.2.1
  rw [hT] at h1
  have h2 := hP (σ1.2.2.2 - 1 - 1) _ (zws_get (cA := cA) (base := base) (b := b) (σ := σ1) (r := σ1.2.2.2 - 1) (by omega) (by omega))
  have h3 : base + (σ1.2.2.2 - 1 - 1) < H.size := h2.lt
  exact kk (by omega) T hT X
theorem zup_ne {I : zI} {r q : Nat} {k v : Int} (h : q ≠ r) : zup I r k v q = I q := by
  funext j
  simp [zup, h]
theorem zupP_ne {I : zP} {r q : Nat} {k : Int} {v : Nat} (h : q ≠ r) : zupP I r k v q = I q := by
  funext j
  simp [zupP, h]
theorem zupD_ne {I : zD} {r q : Nat} {k : Int} {v : UInt64} (h : q ≠ r) : zupD I r k v q = I q := by
  funext j
  simp [zupD, h]
theorem zup_r {σ : zS} {r : Nat} {k v : Int} (h : zRg σ) (hv : zr v) : zRg (zup σ.1 r k v, σ.2) := by
  intro r' hr j hj
  show zr (zup σ.1 r k v r' j)
  unfold zup
  split
  · exact hv
  · exact h r' hr j hj
theorem zscr {I : zI} {r Lx : Nat} {k v : Int} {xs : Nat → Int32} (hr : r ≠ 1000) (h : I 1000 (-1) = Lx ∧ ∀ j : Nat, j < Lx → I 1000 j = (xs j).toInt) : zup I r k v 1000 (-1) = Lx ∧ ∀ j : Nat, j < Lx → zup I r k v 1000 j = (xs j).toInt := by
  rw [zup_ne (Ne.symm hr)]
  exact h

set_option maxHeartbeats 1000000 in
theorem zs_getfield {p : Program} {l : Launch} {e : Env} {R : Room} {s : State} {m : MethodId} {args : Array Value} {below : List Frame} {meth : Method} {c : Code} {cA : Nat → ClassId} {D : va_G} {base b Lx : Nat} {xs : Nat → Int32} {y : Nat} {H : Heap} {locs : List Loc} {cells slots : Nat} {Q : State → Prop} {ls : Array Slot} {pc len ia ib pc1 : Nat} {L L1 : zL} {st st1 : List zV} {σ σ1 : zS} {g : Option Prop} {i : Nat} (C : zCx p R s m args meth c cA D base b Lx xs y) (hH : zH cA D base b Lx xs s σ H locs cells) (hL : ∀ q ∈ L, zvr q.2) (hS : ∀ v ∈ st, zvr v) (hl : lv_has ls (zml y) (L.map (zcq base b))) (hd : decode (zb y) pc = .ok (.getfield i, len)) (ha : zaux y pc (.getfield i) len ia ib = true) (h : zx y (.getfield i) len ia ib pc L st σ = some (g, pc1, L1, st1, σ1)) (hg : ∀ P, g = some P → P) (hrc : cells + (σ1.2.2.2 - σ.2.2.2) ≤ R.cells) (hrs : slots + (zsz σ1.2.2.2 - zsz σ.2.2.2) ≤ R.slots)
    (kk : zK p l e R s m args below meth c cA D base b Lx xs y cells slots Q σ pc1 L1 st1 σ1) : zW p l e R s m args below meth c base b H locs cells slots Q pc ls st := by
  simp only [zx] at h
  simp only [zaux, Bool.and_eq_true] at ha
  split at h
  · next q r =>
    obtain ⟨hb, h⟩ := zbif h
    simp only [Prod.mk.injEq] at h
    obtain ⟨rfl, rfl, rfl, rfl, rfl⟩ := h
    obtain ⟨hw, hc9, hk⟩ := zfl_spec ha.2
    obtain ⟨e1, e2, e3, e4⟩ := zob_spec hb (by omega)
    have kk2 := zk0 kk hH hL (zcons (by
      cases zfr ia ib
      · exact hH.2.2.2.1 q e2 ib (by rw [zshn q (by rw [e1]; exact hc9), e1]; exact hk)
      · exact trivial) (zct hS)) hl
    simp only [zW, List.map_cons, zcv_o e3 e4]
    simp only [zW, List.map_cons, ← zfv_cv] at kk2
    exact va_get (D := D) (ci := ia) (C := zR ia) (T := zT ia) (N := znf ia) C.1 C.2.1 C.2.2.2.2.1 (zuw ia hc9) C.2.2.2.1 C.2.2.2.2.2.2.1 hH.2.2.1 (q - 1) (by rw [zws_get e3 e2, zE_obj e1 hc9]) (zvw ia hc9) ib hk (C.2.2.2.2.1 _ (zgood hw rfl)) (fun _ h => h) (zget_map hk) (zlen hd ha.1) kk2
  · cases h
set_option maxHeartbeats 1000000 in
theorem zs_putfield {p : Program} {l : Launch} {e : Env} {R : Room} {s : State} {m : MethodId} {args : Array Value} {below : List Frame} {meth : Method} {c : Code} {cA : Nat → ClassId} {D : va_G} {base b Lx : Nat} {xs : Nat → Int32} {y : Nat} {H : Heap} {locs : List Loc} {cells slots : Nat} {Q : State → Prop} {ls : Array Slot} {pc len ia ib pc1 : Nat} {L L1 : zL} {st st1 : List zV} {σ σ1 : zS} {g : Option Prop} {i : Nat} (C : zCx p R s m args meth c cA D base b Lx xs y) (hH : zH cA D base b Lx xs s σ H locs cells) (hL : ∀ q ∈ L, zvr q.2) (hS : ∀ v ∈ st, zvr v) (hl : lv_has ls (zml y) (L.map (zcq base b))) (hd : decode (zb y) pc = .ok (.putfield i, len)) (ha : zaux y pc (.putfield i) len ia ib = true) (h : zx y (.putfield i) len ia ib pc L st σ = some (g, pc1, L1, st1, σ1)) (hg : ∀ P, g = some P → P) (hrc : cells + (σ1.2.2.2 - σ.2.2.2) ≤ R.cells) (hrs : slots + (zsz σ1.2.2.2 - zsz σ.2.2.2) ≤ R.slots)
    (kk : zK p l e R s m args below meth c cA D base b Lx xs y cells slots Q σ pc1 L1 st1 σ1) : zW p l e R s m args below meth c base b H locs cells slots Q pc ls st := by
  simp only [zx] at h
  simp only [zaux, Bool.and_eq_true] at ha
  obtain ⟨hw, hc9, hk⟩ := zfl_spec ha.2
  split at h
  · next x q r =>
    obtain ⟨hb, h⟩ := zbif h
    simp only [Prod.mk.injEq] at h
    obtain ⟨rfl, rfl, rfl, rfl, rfl⟩ := h
    simp only [Bool.and_eq_true, Bool.not_eq_true'] at hb
    obtain ⟨⟨hb, hfr⟩, hfin⟩ := hb
    obtain ⟨e1, e2, e3, e4⟩ := zob_spec hb (by omega)
    simp only [zW, List.map_cons, zcv_o e3 e4]
    have hty := (ztf ia hc9 ib hk).1 hfr
    have hx : zr x := zch hS
    refine va_put (D := D) (ci := ia) (C := zR ia) (T := zT ia) (N := znf ia) (v := .int (Int32.ofInt x)) (ty := .int) C.1 C.2.1 C.2.2.2.2.1 (zuw ia hc9) (zty ia) (zty_ok ia hc9) (znm ia hc9) C.2.2.2.1 C.2.2.2.2.2.2.1 hH.2.2.1 zws_D hH.2.2.2.2.2.1 (q - 1) (by rw [zws_get e3 e2, zE_obj e1 hc9]) (zvw ia hc9) ib hk (C.2.2.2.2.1 _ (zgood hw rfl)) (fun _ h => h) hfin (by rw [zty_ok ia hc9 ib hk, hty]) rfl rfl (by simpa using hk) (zlen hd ha.1) (fun H1 locs1 hP1 _ hS1 => ?_)
    rw [zws_set (τ := (zup σ.1 q ib x, σ.2)) e3 e2 rfl (by
      rw [zE_obj e1 hc9]
      congr 2
      symm
      refine zset_map ?_ ?_
      · simp [zfv, hfr, zup]
      · intro j hj
        have : ((j : Int) = ib) = False := by simp; omega
        simp [zfv, zup, this]) (fun q' hq' => zE_congr (zup_ne hq') rfl rfl)] at hP1
    refine zsize hP1 (by show 2 ≤ σ.2.2.2; omega) hH.2.2.2.2.2.2 (fun hz => ?_)
    exact zkc kk rfl ⟨hH.1, hz, hP1, zup_r hH.2.2.2.1 hx, zscr e4 hH.2.2.2.2.1, hS1, hH.2.2.2.2.2.2⟩ hL (zct (zct hS)) hl
  · next x q r =>
    obtain ⟨hb, h⟩ := zbif h
    simp only [Prod.mk.injEq] at h
    obtain ⟨rfl, rfl, rfl, rfl, rfl⟩ := h
    simp only [Bool.and_eq_true] at hb
    obtain ⟨⟨⟨⟨hb, hfr⟩, hfin⟩, hini⟩, hown⟩ := hb
    obtain ⟨e1, e2, e3, e4⟩ := zob_spec hb (by omega)
    simp only [zW, List.map_cons, zcv_o e3 e4]
    have hown := Nat.eq_of_beq_eq_true hown
    have hdecl : (zT ia ib).1 = zR ia := by
      have h0 : (List.range 8).all (fun c => (List.range (znf c)).all (fun k => decide ((zT c k).1 = zR c))) = true := by decide +kernel
      exact decide_eq_true_eq.mp (List.all_eq_true.mp (List.all_eq_true.mp h0 ia (List.mem_range.mpr hc9)) ib (List.mem_range.mpr hk))
    have hty := (ztf ia hc9 ib hk).2 hfr
    refine va_putF (D := D) (ci := ia) (C := zR ia) (T := zT ia) (N := znf ia) (v := zcv base b (vr x)) (ty := zty ia ib) C.1 C.2.1 C.2.2.2.2.1 (zuw ia hc9) (zty ia) (zty_ok ia hc9) (znm ia hc9) C.2.2.2.1 C.2.2.2.2.2.2.1 hH.2.2.1 zws_D hH.2.2.2.2.2.1 (q - 1) (by rw [zws_get e3 e2, zE_obj e1 hc9]) (zvw ia hc9) ib hk (C.2.2.2.2.1 _ (zgood hw rfl)) (fun _ h => h) hfin (C.2.2.2.2.2.1 hini) (by rw [hdecl, hown]) (zty_ok ia hc9 ib hk) (by
      rcases hty with ⟨C0, e⟩ | ⟨t, e⟩ <;> rw [e] <;> show narrow _ (va_rf (zrf base b x)) = va_rf (zrf base b x) <;> cases zrf base b x <;> rfl) (by
      rcases hty with ⟨C0, e⟩ | ⟨t, e⟩ <;> rw [e] <;> show fits _ (va_rf (zrf base b x)) = true <;> cases zrf base b x <;> rfl) (by simpa using hk) (zlen hd ha.1) (fun H1 locs1 hP1 _ hS1 => ?_)
    rw [zws_set (τ := (σ.1, zupP σ.2.1 q ib x, σ.2.2)) e3 e2 rfl (by
      rw [zE_obj e1 hc9]
      congr 2
      symm
      refine zset_map ?_ ?_
      · simp [zfv, hfr, zupP, zcv]
      · intro j hj
        have : ((j : Int) = ib) = False := by simp; omega
        simp [zfv, zupP, this]) (fun q' hq' => zE_congr rfl (zupP_ne hq') rfl)] at hP1
    refine zsize hP1 (by show 2 ≤ σ.2.2.2; omega) hH.2.2.2.2.2.2 (fun hz => ?_)
    exact zkc kk rfl ⟨hH.1, hz, hP1, hH.2.2.2.1, hH.2.2.2.2.1, hS1, hH.2.2.2.2.2.2⟩ hL (zct (zct hS)) hl
  · cases h
set_option maxHeartbeats 1000000 in
theorem zs_iaload {p : Program} {l : Launch} {e : Env} {R : Room} {s : State} {m : MethodId} {args : Array Value} {below : List Frame} {meth : Method} {c : Code} {cA : Nat → ClassId} {D : va_G} {base b Lx : Nat} {xs : Nat → Int32} {y : Nat} {H : Heap} {locs : List Loc} {cells slots : Nat} {Q : State → Prop} {ls : Array Slot} {pc len ia ib pc1 : Nat} {L L1 : zL} {st st1 : List zV} {σ σ1 : zS} {g : Option Prop} (C : zCx p R s m args meth c cA D base b Lx xs y) (hH : zH cA D base b Lx xs s σ H locs cells) (hL : ∀ q ∈ L, zvr q.2) (hS : ∀ v ∈ st, zvr v) (hl : lv_has ls (zml y) (L.map (zcq base b))) (hd : decode (zb y) pc = .ok (.iaload, len)) (ha : zaux y pc (.iaload) len ia ib = true) (h : zx y (.iaload) len ia ib pc L st σ = some (g, pc1, L1, st1, σ1)) (hg : ∀ P, g = some P → P) (hrc : cells + (σ1.2.2.2 - σ.2.2.2) ≤ R.cells) (hrs : slots + (zsz σ1.2.2.2 - zsz σ.2.2.2) ≤ R.slots)
    (kk : zK p l e R s m args below meth c cA D base b Lx xs y cells slots Q σ pc1 L1 st1 σ1) : zW p l e R s m args below meth c base b H locs cells slots Q pc ls st := by
  simp only [zx] at h
  split at h
  · next j q r =>
    cases hs : (Nat.beq q 1000 && Nat.beq y zsc)
    · rw [hs] at h
      simp only [cond_false] at h
      obtain ⟨hb, h⟩ := zbif h
      simp only [Prod.mk.injEq] at h
      obtain ⟨rfl, rfl, rfl, rfl, rfl⟩ := h
      obtain ⟨e1, e2, e3, e4⟩ := zob_spec hb (by decide)
      obtain ⟨g1, g2⟩ := hg _ rfl
      obtain ⟨f1, f2⟩ := z_in (n := (zsh q).2) g1 g2 (by have := zsh_le q; omega)
      simp only [zW, List.map_cons, zcv_o e3 e4]
      refine va_iald C.1 C.2.1 C.2.2.2.2.2.2.1 hH.2.2.1 (q - 1) 0 (by rw [zws_get e3 e2, zE_int e1 (by decide) (by decide) (by decide)]) rfl f1 (zlen hd ha) ?_
      have kk2 := zk0 kk hH hL (zcons (zrg_at hH.2.2.2.1 e2 g1 g2) (zct (zct hS))) hl
      simp only [f2, Int.toNat_of_nonneg g1]
      exact kk2
    · rw [hs] at h
      simp only [cond_true, Option.some.injEq] at h
      simp only [Prod.mk.injEq] at h
      obtain ⟨rfl, rfl, rfl, rfl, rfl⟩ := h
      simp only [Bool.and_eq_true] at hs
      have hq := Nat.eq_of_beq_eq_true hs.1
      have hy := Nat.eq_of_beq_eq_true hs.2
      subst hq
      obtain ⟨hbb, hX⟩ := C.2.2.2.2.2.2.2.2.2.2.2.2.1
      obtain ⟨hL1, hL2⟩ := hH.2.2.2.2.1
      obtain ⟨g1, g2⟩ := hg _ rfl
      rw [hL1] at g2
      have hL3 := C.2.2.2.2.2.2.2.2.2.2.2.1
      obtain ⟨f1, f2⟩ := z_in (n := Lx) g1 g2 (by omega)
      simp only [zW, List.map_cons, zcv_r (show (1000 : Nat) ≠ 0 by decide)]
      refine va_sld (b := b) (L := Lx) C.1 C.2.1 hX (Nat.lt_of_lt_of_le hbb C.2.2.2.2.2.2.2.2.2.2.2.2.2) (Nat.not_le.mpr hbb) hH.2.2.2.2.2.1 f1 (zlen hd ha) ?_
      have e9 := hL2 j.toNat (by omega)
      rw [Int.toNat_of_nonneg g1] at e9
      have kk2 := zk0 kk hH hL (zcons (show zr (σ.1 1000 j) by rw [e9]; exact zr_of _) (zct (zct hS))) hl
      simp only [zW, List.map_cons, zcv, e9, zit] at kk2
      rw [f2]
      exact kk2
  · cases h
set_option maxHeartbeats 1000000 in
theorem zs_daload {p : Program} {l : Launch} {e : Env} {R : Room} {s : State} {m : MethodId} {args : Array Value} {below : List Frame} {meth : Method} {c : Code} {cA : Nat → ClassId} {D : va_G} {base b Lx : Nat} {xs : Nat → Int32} {y : Nat} {H : Heap} {locs : List Loc} {cells slots : Nat} {Q : State → Prop} {ls : Array Slot} {pc len ia ib pc1 : Nat} {L L1 : zL} {st st1 : List zV} {σ σ1 : zS} {g : Option Prop} (C : zCx p R s m args meth c cA D base b Lx xs y) (hH : zH cA D base b Lx xs s σ H locs cells) (hL : ∀ q ∈ L, zvr q.2) (hS : ∀ v ∈ st, zvr v) (hl : lv_has ls (zml y) (L.map (zcq base b))) (hd : decode (zb y) pc = .ok (.daload, len)) (ha : zaux y pc (.daload) len ia ib = true) (h : zx y (.daload) len ia ib pc L st σ = some (g, pc1, L1, st1, σ1)) (hg : ∀ P, g = some P → P) (hrc : cells + (σ1.2.2.2 - σ.2.2.2) ≤ R.cells) (hrs : slots + (zsz σ1.2.2.2 - zsz σ.2.2.2) ≤ R.slots)
    (kk : zK p l e R s m args below meth c cA D base b Lx xs y cells slots Q σ pc1 L1 st1 σ1) : zW p l e R s m args below meth c base b H locs cells slots Q pc ls st := by
  simp only [zx] at h
  split at h
  · next j q r =>
    obtain ⟨hb, h⟩ := zbif h
    simp only [Prod.mk.injEq] at h
    obtain ⟨rfl, rfl, rfl, rfl, rfl⟩ := h
    obtain ⟨e1, e2, e3, e4⟩ := zob_spec hb (by decide)
    obtain ⟨g1, g2⟩ := hg _ rfl
    obtain ⟨f1, f2⟩ := z_in (n := (zsh q).2) g1 g2 (by have := zsh_le q; omega)
    simp only [zW, List.map_cons, zcv_o e3 e4]
    refine va_dald C.1 C.2.1 C.2.2.2.2.2.2.1 hH.2.2.1 (q - 1) 1 (by rw [zws_get e3 e2, zE_dbl e1]) rfl f1 (zlen hd ha) ?_
    have kk2 := zk0 kk hH hL (zcons trivial (zct (zct hS))) hl
    simp only [f2, Int.toNat_of_nonneg g1]
    exact kk2
  · cases h
set_option maxHeartbeats 1000000 in
theorem zs_aaload {p : Program} {l : Launch} {e : Env} {R : Room} {s : State} {m : MethodId} {args : Array Value} {below : List Frame} {meth : Method} {c : Code} {cA : Nat → ClassId} {D : va_G} {base b Lx : Nat} {xs : Nat → Int32} {y : Nat} {H : Heap} {locs : List Loc} {cells slots : Nat} {Q : State → Prop} {ls : Array Slot} {pc len ia ib pc1 : Nat} {L L1 : zL} {st st1 : List zV} {σ σ1 : zS} {g : Option Prop} (C : zCx p R s m args meth c cA D base b Lx xs y) (hH : zH cA D base b Lx xs s σ H locs cells) (hL : ∀ q ∈ L, zvr q.2) (hS : ∀ v ∈ st, zvr v) (hl : lv_has ls (zml y) (L.map (zcq base b))) (hd : decode (zb y) pc = .ok (.aaload, len)) (ha : zaux y pc (.aaload) len ia ib = true) (h : zx y (.aaload) len ia ib pc L st σ = some (g, pc1, L1, st1, σ1)) (hg : ∀ P, g = some P → P) (hrc : cells + (σ1.2.2.2 - σ.2.2.2) ≤ R.cells) (hrs : slots + (zsz σ1.2.2.2 - zsz σ.2.2.2) ≤ R.slots)
    (kk : zK p l e R s m args below meth c cA D base b Lx xs y cells slots Q σ pc1 L1 st1 σ1) : zW p l e R s m args below meth c base b H locs cells slots Q pc ls st := by
  simp only [zx] at h
  split at h
  · next j q r =>
    obtain ⟨hb, h⟩ := zbif h
    simp only [Prod.mk.injEq] at h
    obtain ⟨rfl, rfl, rfl, rfl, rfl⟩ := h
    obtain ⟨e1, e2, e3, e4⟩ := zob_spec hb (by decide)
    obtain ⟨g1, g2⟩ := hg _ rfl
    obtain ⟨f1, f2⟩ := z_in (n := (zsh q).2) g1 g2 (by have := zsh_le q; omega)
    simp only [zW, List.map_cons, zcv_o e3 e4]
    refine va_aldq C.1 C.2.1 C.2.2.2.2.2.2.1 hH.2.2.1 (q - 1) 2 (by rw [zws_get e3 e2, zE_ref e1]) rfl f1 (zlen hd ha) ?_
    have kk2 := zk0 kk hH hL (zcons trivial (zct (zct hS))) hl
    simp only [f2, Int.toNat_of_nonneg g1]
    exact kk2
  · cases h
set_option maxHeartbeats 1000000 in
theorem zs_iastore {p : Program} {l : Launch} {e : Env} {R : Room} {s : State} {m : MethodId} {args : Array Value} {below : List Frame} {meth : Method} {c : Code} {cA : Nat → ClassId} {D : va_G} {base b Lx : Nat} {xs : Nat → Int32} {y : Nat} {H : Heap} {locs : List Loc} {cells slots : Nat} {Q : State → Prop} {ls : Array Slot} {pc len ia ib pc1 : Nat} {L L1 : zL} {st st1 : List zV} {σ σ1 : zS} {g : Option Prop} (C : zCx p R s m args meth c cA D base b Lx xs y) (hH : zH cA D base b Lx xs s σ H locs cells) (hL : ∀ q ∈ L, zvr q.2) (hS : ∀ v ∈ st, zvr v) (hl : lv_has ls (zml y) (L.map (zcq base b))) (hd : decode (zb y) pc = .ok (.iastore, len)) (ha : zaux y pc (.iastore) len ia ib = true) (h : zx y (.iastore) len ia ib pc L st σ = some (g, pc1, L1, st1, σ1)) (hg : ∀ P, g = some P → P) (hrc : cells + (σ1.2.2.2 - σ.2.2.2) ≤ R.cells) (hrs : slots + (zsz σ1.2.2.2 - zsz σ.2.2.2) ≤ R.slots)
    (kk : zK p l e R s m args below meth c cA D base b Lx xs y cells slots Q σ pc1 L1 st1 σ1) : zW p l e R s m args below meth c base b H locs cells slots Q pc ls st := by
  simp only [zx] at h
  split at h
  · next x j q r =>
    obtain ⟨hb, h⟩ := zbif h
    simp only [Prod.mk.injEq] at h
    obtain ⟨rfl, rfl, rfl, rfl, rfl⟩ := h
    obtain ⟨e1, e2, e3, e4⟩ := zob_spec hb (by decide)
    obtain ⟨g1, g2⟩ := hg _ rfl
    obtain ⟨f1, f2⟩ := z_in (n := (zsh q).2) g1 g2 (by have := zsh_le q; omega)
    simp only [zW, List.map_cons, zcv_o e3 e4]
    refine va_iast C.1 C.2.1 C.2.2.2.2.2.2.1 hH.2.2.1 zws_D hH.2.2.2.2.2.1 (q - 1) 0 (by rw [zws_get e3 e2, zE_int e1 (by decide) (by decide) (by decide)]) rfl f1 (zlen hd ha) (fun H1 locs1 hP1 _ hS1 => ?_)
    rw [zws_set (τ := (zup σ.1 q j x, σ.2)) e3 e2 rfl (by
      rw [zE_int e1 (by decide) (by decide) (by decide)]
      congr 3
      congr 1
      funext k
      rw [f2]
      by_cases hk : k = j.toNat
      · subst hk
        simp [upd, zup, Int.toNat_of_nonneg g1]
      · have : ((k : Int) = j) = False := by simp; omega
        simp [upd, zup, this, hk]) (fun q' hq' => zE_congr (zup_ne hq') rfl rfl)] at hP1
    refine zsize hP1 (by show 2 ≤ σ.2.2.2; omega) hH.2.2.2.2.2.2 (fun hz => ?_)
    exact zkc kk rfl ⟨hH.1, hz, hP1, zup_r hH.2.2.2.1 (zch hS), zscr e4 hH.2.2.2.2.1, hS1, hH.2.2.2.2.2.2⟩ hL (zct (zct (zct hS))) hl
  · cases h
set_option maxHeartbeats 1000000 in
theorem zs_dastore {p : Program} {l : Launch} {e : Env} {R : Room} {s : State} {m : MethodId} {args : Array Value} {below : List Frame} {meth : Method} {c : Code} {cA : Nat → ClassId} {D : va_G} {base b Lx : Nat} {xs : Nat → Int32} {y : Nat} {H : Heap} {locs : List Loc} {cells slots : Nat} {Q : State → Prop} {ls : Array Slot} {pc len ia ib pc1 : Nat} {L L1 : zL} {st st1 : List zV} {σ σ1 : zS} {g : Option Prop} (C : zCx p R s m args meth c cA D base b Lx xs y) (hH : zH cA D base b Lx xs s σ H locs cells) (hL : ∀ q ∈ L, zvr q.2) (hS : ∀ v ∈ st, zvr v) (hl : lv_has ls (zml y) (L.map (zcq base b))) (hd : decode (zb y) pc = .ok (.dastore, len)) (ha : zaux y pc (.dastore) len ia ib = true) (h : zx y (.dastore) len ia ib pc L st σ = some (g, pc1, L1, st1, σ1)) (hg : ∀ P, g = some P → P) (hrc : cells + (σ1.2.2.2 - σ.2.2.2) ≤ R.cells) (hrs : slots + (zsz σ1.2.2.2 - zsz σ.2.2.2) ≤ R.slots)
    (kk : zK p l e R s m args below meth c cA D base b Lx xs y cells slots Q σ pc1 L1 st1 σ1) : zW p l e R s m args below meth c base b H locs cells slots Q pc ls st := by
  simp only [zx] at h
  split at h
  · next x j q r =>
    obtain ⟨hb, h⟩ := zbif h
    simp only [Prod.mk.injEq] at h
    obtain ⟨rfl, rfl, rfl, rfl, rfl⟩ := h
    obtain ⟨e1, e2, e3, e4⟩ := zob_spec hb (by decide)
    obtain ⟨g1, g2⟩ := hg _ rfl
    obtain ⟨f1, f2⟩ := z_in (n := (zsh q).2) g1 g2 (by have := zsh_le q; omega)
    simp only [zW, List.map_cons, zcv_o e3 e4]
    refine va_dast C.1 C.2.1 C.2.2.2.2.2.2.1 hH.2.2.1 zws_D hH.2.2.2.2.2.1 (q - 1) 1 (by rw [zws_get e3 e2, zE_dbl e1]) rfl f1 (zlen hd ha) (fun H1 locs1 hP1 _ hS1 => ?_)
    rw [zws_set (τ := (σ.1, σ.2.1, zupD σ.2.2.1 q j x, σ.2.2.2)) e3 e2 rfl (by
      rw [zE_dbl e1]
      congr 3
      congr 4
      funext k
      rw [f2]
      by_cases hk : k = j.toNat
      · subst hk
        simp [vf_upd, zupD, Int.toNat_of_nonneg g1]
      · have : ((k : Int) = j) = False := by simp; omega
        simp [vf_upd, zupD, this, hk]) (fun q' hq' => zE_congr rfl rfl (zupD_ne hq'))] at hP1
    refine zsize hP1 (by show 2 ≤ σ.2.2.2; omega) hH.2.2.2.2.2.2 (fun hz => ?_)
    exact zkc kk rfl ⟨hH.1, hz, hP1, hH.2.2.2.1, hH.2.2.2.2.1, hS1, hH.2.2.2.2.2.2⟩ hL (zct (zct (zct hS))) hl
  · cases h
set_option maxHeartbeats 1000000 in
theorem zs_aastore {p : Program} {l : Launch} {e : Env} {R : Room} {s : State} {m : MethodId} {args : Array Value} {below : List Frame} {meth : Method} {c : Code} {cA : Nat → ClassId} {D : va_G} {base b Lx : Nat} {xs : Nat → Int32} {y : Nat} {H : Heap} {locs : List Loc} {cells slots : Nat} {Q : State → Prop} {ls : Array Slot} {pc len ia ib pc1 : Nat} {L L1 : zL} {st st1 : List zV} {σ σ1 : zS} {g : Option Prop} (C : zCx p R s m args meth c cA D base b Lx xs y) (hH : zH cA D base b Lx xs s σ H locs cells) (hL : ∀ q ∈ L, zvr q.2) (hS : ∀ v ∈ st, zvr v) (hl : lv_has ls (zml y) (L.map (zcq base b))) (hd : decode (zb y) pc = .ok (.aastore, len)) (ha : zaux y pc (.aastore) len ia ib = true) (h : zx y (.aastore) len ia ib pc L st σ = some (g, pc1, L1, st1, σ1)) (hg : ∀ P, g = some P → P) (hrc : cells + (σ1.2.2.2 - σ.2.2.2) ≤ R.cells) (hrs : slots + (zsz σ1.2.2.2 - zsz σ.2.2.2) ≤ R.slots)
    (kk : zK p l e R s m args below meth c cA D base b Lx xs y cells slots Q σ pc1 L1 st1 σ1) : zW p l e R s m args below meth c base b H locs cells slots Q pc ls st := by
  simp only [zx] at h
  split at h
  · next x j q r =>
    obtain ⟨hb, h⟩ := zbif h
    simp only [Prod.mk.injEq] at h
    obtain ⟨rfl, rfl, rfl, rfl, rfl⟩ := h
    obtain ⟨e1, e2, e3, e4⟩ := zob_spec hb (by decide)
    obtain ⟨⟨g1, g2⟩, g3⟩ := hg _ rfl
    obtain ⟨e5, e6, e7, e8⟩ := zob_spec g3 (by decide)
    obtain ⟨f1, f2⟩ := z_in (n := (zsh q).2) g1 g2 (by have := zsh_le q; omega)
    simp only [zW, List.map_cons, zcv_o e3 e4]
    rw [zcv_o e7 e8]
    refine va_astq C.1 C.2.1 C.2.2.2.2.2.2.1 hH.2.2.1 zws_D hH.2.2.2.2.2.1 (q - 1) 2 (x - 1) 1 (r := (RX1, TX1, 13)) (by rw [zws_get e3 e2, zE_ref e1]) rfl (by rw [zws_get e7 e6, zE_obj e5 (by decide)]) rfl f1 (zlen hd ha) (fun H1 locs1 hP1 _ hS1 => ?_)
    rw [zws_set (τ := (σ.1, zupP σ.2.1 q j x, σ.2.2)) e3 e2 rfl (by
      rw [zE_ref e1]
      congr 3
      congr 4
      funext k
      rw [f2]
      by_cases hk : k = j.toNat
      · subst hk
        simp [va_up, zupP, Int.toNat_of_nonneg g1, zrf, zad_of e8, show x ≠ 0 by omega]
      · have : ((k : Int) = j) = False := by simp; omega
        simp [va_up, zupP, this, hk]) (fun q' hq' => zE_congr rfl (zupP_ne hq') rfl)] at hP1
    refine zsize hP1 (by show 2 ≤ σ.2.2.2; omega) hH.2.2.2.2.2.2 (fun hz => ?_)
    exact zkc kk rfl ⟨hH.1, hz, hP1, hH.2.2.2.1, hH.2.2.2.2.1, hS1, hH.2.2.2.2.2.2⟩ hL (zct (zct (zct hS))) hl
  · cases h
end
section
set_option maxHeartbeats 1000000 in
theorem zs_arraylength {p : Program} {l : Launch} {e : Env} {R : Room} {s : State} {m : MethodId} {args : Array Value} {below : List Frame} {meth : Method} {c : Code} {cA : Nat → ClassId} {D : va_G} {base b Lx : Nat} {xs : Nat → Int32} {y : Nat} {H : Heap} {locs : List Loc} {cells slots : Nat} {Q : State → Prop} {ls : Array Slot} {pc len ia ib pc1 : Nat} {L L1 : zL} {st st1 : List zV} {σ σ1 : zS} {g : Option Prop} (C : zCx p R s m args meth c cA D base b Lx xs y) (hH : zH cA D base b Lx xs s σ H locs cells) (hL : ∀ q ∈ L, zvr q.2) (hS : ∀ v ∈ st, zvr v) (hl : lv_has ls (zml y) (L.map (zcq base b))) (hd : decode (zb y) pc = .ok (.arraylength, len)) (ha : zaux y pc (.arraylength) len ia ib = true) (h : zx y (.arraylength) len ia ib pc L st σ = some (g, pc1, L1, st1, σ1)) (hg : ∀ P, g = some P → P) (hrc : cells + (σ1.2.2.2 - σ.2.2.2) ≤ R.cells) (hrs : slots + (zsz σ1.2.2.2 - zsz σ.2.2.2) ≤ R.slots)
    (kk : zK p l e R s m args below meth c cA D base b Lx xs y cells slots Q σ pc1 L1 st1 σ1) : zW p l e R s m args below meth c base b H locs cells slots Q pc ls st := by
  simp only [zx] at h
  split at h
  · next q r =>
    cases hs : (Nat.beq q 1000 && Nat.beq y zsc)
    · rw [hs] at h
      simp only [cond_false] at h
      obtain ⟨hb, h⟩ := zbif h
      simp only [Prod.mk.injEq] at h
      obtain ⟨rfl, rfl, rfl, rfl, rfl⟩ := h
      simp only [Bool.and_eq_true] at hb
      obtain ⟨⟨k1, k2⟩, k3⟩ := hb
      have k1 := Nat.le_of_ble_eq_true k1
      have k2 := Nat.le_of_ble_eq_true k2
      have e2 : q < σ.2.2.2 := by simpa using k3
      have e3 : 1 ≤ q := by
        rcases Nat.eq_zero_or_pos q with rfl | h
        · exact absurd k2 (by decide)
        · exact h
      have e4 : q ≠ 1000 := by rintro rfl; exact absurd k2 (by decide)
      simp only [zW, List.map_cons, zcv_o e3 e4]
      have hr : zr (((zsh q).2 : Nat) : Int) := by have := zsh_le q; exact ⟨by omega, by omega⟩
      have kk2 := zk0 kk hH hL (zcons (show zvr (vi (((zsh q).2 : Nat) : Int)) from hr) (zct hS)) hl
      have hz := zws_get (cA := cA) (base := base) (b := b) e3 e2
      have hc : (zsh q).1 = 10 ∨ (zsh q).1 = 13 ∨ (zsh q).1 = 14 := by have := zsh_nk q; omega
      rcases hc with e1 | e1 | e1
      · have hh : (zws cA base b σ)[q - 1]? = some (base + (q - 1), .inl (cA 10, ((zsh q).2, .inl (fun j => Int32.ofInt (σ.1 q j))))) := by rw [hz, zE_int e1 (by decide) (by decide) (by decide)]
        exact va_alen C.1 C.2.1 C.2.2.2.2.2.2.1 hH.2.2.1 (q - 1) 0 hh rfl rfl (zlen hd ha) kk2
      · have hh : (zws cA base b σ)[q - 1]? = some (base + (q - 1), .inl (cA 13, ((zsh q).2, .inr (.inr (.inr (.inl (fun j => σ.2.2.1 q j))))))) := by rw [hz, zE_dbl e1]
        exact va_alen C.1 C.2.1 C.2.2.2.2.2.2.1 hH.2.2.1 (q - 1) 1 hh rfl rfl (zlen hd ha) kk2
      · have hh : (zws cA base b σ)[q - 1]? = some (base + (q - 1), .inl (cA 14, ((zsh q).2, .inr (.inr (.inr (.inr (fun j => zrf base b (σ.2.1 q j)))))))) := by rw [hz, zE_ref e1]
        exact va_alen C.1 C.2.1 C.2.2.2.2.2.2.1 hH.2.2.1 (q - 1) 2 hh rfl rfl (zlen hd ha) kk2
    · rw [hs] at h
      simp only [cond_true, Option.some.injEq] at h
      simp only [Prod.mk.injEq] at h
      obtain ⟨rfl, rfl, rfl, rfl, rfl⟩ := h
      simp only [Bool.and_eq_true] at hs
      have hq := Nat.eq_of_beq_eq_true hs.1
      have hy := Nat.eq_of_beq_eq_true hs.2
      subst hq
      obtain ⟨hbb, hX⟩ := C.2.2.2.2.2.2.2.2.2.2.2.2.1
      obtain ⟨hL1, hL2⟩ := hH.2.2.2.2.1
      simp only [zW, List.map_cons, zcv_r (show (1000 : Nat) ≠ 0 by decide)]
      refine va_slen (b := b) (L := Lx) C.1 C.2.1 hX (Nat.lt_of_lt_of_le hbb C.2.2.2.2.2.2.2.2.2.2.2.2.2) (Nat.not_le.mpr hbb) hH.2.2.2.2.2.1 (zlen hd ha) ?_
      have hL3 := C.2.2.2.2.2.2.2.2.2.2.2.1
      have kk2 := zk0 kk hH hL (zcons (show zr (σ.1 1000 (-1)) by rw [hL1]; exact ⟨by omega, by omega⟩) (zct hS)) hl
      simp only [zW, List.map_cons, zcv, hL1] at kk2
      exact kk2
  · cases h
theorem zarr_ty {cA : Nat → ClassId} {D : va_G} {s : State} {k : Nat} {ty : FieldType} {c1 : ClassId} (hK : va_K D vwCl (ztys cA) s) {t0 : Nat} (ht : (ztys cA)[t0]? = some (cA k, ty)) (hf : s.vm.findClass ("[" ++ ty.toString) = some c1) : c1 = cA k := by
  have h := (hK.2 t0 _ ht).2
  cases ty with
  | object C0 =>
    obtain ⟨kA, comp, h1, h2, h3, h4⟩ := h
    exact Option.some.inj (hf.symm.trans h4)
  | _ => exact Option.some.inj (hf.symm.trans h)
/-- a new cell at the end of the heap -/
theorem zpush {cA : Nat → ClassId} {D : va_G} {base b Lx : Nat} {xs : Nat → Int32} {s : State} {σ : zS} {H H1 : Heap} {locs : List Loc} {cells : Nat} (hH : zH cA D base b Lx xs s σ H locs cells) (hf : ∀ j, σ.1 σ.2.2.2 j = 0) (z1 : H1.size = base + (σ.2.2.2 - 1) + 1) (o1 : ∀ q, q < base + (σ.2.2.2 - 1) → H1[q]? = H[q]?)
    (he : va_at D vwCl (base + (σ.2.2.2 - 1), zE cA base b (σ.1, σ.2.1, σ.2.2.1, σ.2.2.2 + 1) σ.2.2.2) H1) : zH cA D base b Lx xs s (σ.1, σ.2.1, σ.2.2.1, σ.2.2.2 + 1) H1 locs (cells + 1) := by
  obtain ⟨h1, h2, h3, h4, h5, h6, h7⟩ := hH
  refine ⟨by show 1 ≤ σ.2.2.2 + 1; omega, by rw [z1]; show _ = base + (σ.2.2.2 + 1 - 1); omega, ?_, ?_, h5, ⟨?_, ?_, h6.2.2⟩, by show s.heap.size + (cells + 1) = base + (σ.2.2.2 + 1 - 1); omega⟩
  · rw [← zws_push (E := zE cA base b (σ.1, σ.2.1, σ.2.2.1, σ.2.2.2 + 1) σ.2.2.2) (τ := (σ.1, σ.2.1, σ.2.2.1, σ.2.2.2 + 1)) h1 rfl rfl (fun q _ => zE_congr rfl rfl rfl)]
    refine va_P.app (h3.kept (fun k x hx => o1 x.1 (by have := (h3 k x hx).lt; omega))) (fun k x hx => ?_)
    have hz : k < 1 := (List.getElem?_eq_some_iff.mp hx).1
    rw [show k = 0 by omega] at hx
    cases hx
    exact he
  · intro r hr j hj
    show zr (σ.1 r j)
    by_cases hrc : r = σ.2.2.2
    · subst hrc
      rw [hf]; exact ⟨by decide, by decide⟩
    · exact h4 r (by have : r < σ.2.2.2 + 1 := hr; omega) j hj
  · exact Nat.le_trans h6.1 (by omega)
  · intro q hq hA
    rw [o1 q (by have := h6.1; omega)]
    exact h6.2.1 q hq hA
theorem zkl_spec {o i ci : Nat} (h : zkl.any (fun q => decide (q.1 = o ∧ q.2.1 = i ∧ q.2.2.1 = ci)) = true) : Cond.classLink (zR o) i (zR ci) ∈ lw_tbl ∧ Cond.instantiable (zR ci) (znf ci) ∈ lw_tbl ∧ Cond.initialized (zR ci) ∈ lw_tbl ∧ ci < 8 := by
  obtain ⟨q, hq, hd⟩ := List.any_eq_true.mp h
  have h1 := List.all_eq_true.mp zkl_ok q hq
  simp only [Bool.and_eq_true, decide_eq_true_eq] at h1 hd
  obtain ⟨rfl, rfl, rfl⟩ := hd
  exact ⟨List.mem_of_getElem? h1.1.1.1, List.mem_of_getElem? h1.1.1.2, List.mem_of_getElem? h1.1.2, h1.2⟩
theorem zcats_map {base b : Nat} {r : List zV} : ((r.map (zcv base b)).map fun v => v.category).sum = zcats r := by
  simp [zcats, List.map_map, Function.comp_def, zcat_cv]
set_option maxHeartbeats 1000000 in
theorem zs_newarray {p : Program} {l : Launch} {e : Env} {R : Room} {s : State} {m : MethodId} {args : Array Value} {below : List Frame} {meth : Method} {c : Code} {cA : Nat → ClassId} {D : va_G} {base b Lx : Nat} {xs : Nat → Int32} {y : Nat} {H : Heap} {locs : List Loc} {cells slots : Nat} {Q : State → Prop} {ls : Array Slot} {pc len ia ib pc1 : Nat} {L L1 : zL} {st st1 : List zV} {σ σ1 : zS} {g : Option Prop} {t : ArrayType} (C : zCx p R s m args meth c cA D base b Lx xs y) (hH : zH cA D base b Lx xs s σ H locs cells) (hL : ∀ q ∈ L, zvr q.2) (hS : ∀ v ∈ st, zvr v) (hl : lv_has ls (zml y) (L.map (zcq base b))) (hd : decode (zb y) pc = .ok (.newarray t, len)) (ha : zaux y pc (.newarray t) len ia ib = true) (h : zx y (.newarray t) len ia ib pc L st σ = some (g, pc1, L1, st1, σ1)) (hg : ∀ P, g = some P → P) (hrc : cells + (σ1.2.2.2 - σ.2.2.2) ≤ R.cells) (hrs : slots + (zsz σ1.2.2.2 - zsz σ.2.2.2) ≤ R.slots)
    (kk : zK p l e R s m args below meth c cA D base b Lx xs y cells slots Q σ pc1 L1 st1 σ1) : zW p l e R s m args below meth c base b H locs cells slots Q pc ls st := by
  simp only [zx] at h
  split at h
  · next n r =>
    obtain ⟨hb, h⟩ := zbif h
    simp only [Prod.mk.injEq] at h
    obtain ⟨rfl, rfl, rfl, rfl, rfl⟩ := h
    simp only [Bool.and_eq_true] at hb
    have hk := Nat.eq_of_beq_eq_true hb.1
    have hk2 := Nat.le_of_ble_eq_true hb.2
    obtain ⟨rfl, hf⟩ := hg _ rfl
    have hle := zsh_le σ.2.2.2
    have hc1 : σ.2.2.2 + 1 - σ.2.2.2 = 1 := by omega
    have hc2 : zsz (σ.2.2.2 + 1) - zsz σ.2.2.2 = (zsh σ.2.2.2).2 := by rw [zsz_s]; omega
    simp only [hc1, hc2] at hrc hrs
    have hw : (Cond.arrayClass (newarray.typeOf t)).before args s = true := by
      cases t <;> first | exact C.2.2.2.2.1 _ (zgi zs_arrInt rfl) | exact C.2.2.2.2.1 _ (zgi zs_arrDouble rfl) | exact absurd hk2 (by decide)
    have hn : ¬ Int32.ofInt (((zsh σ.2.2.2).2 : Nat) : Int) < 0 := nI_pos (by omega)
    have hN : (Int32.ofInt (((zsh σ.2.2.2).2 : Nat) : Int)).toNatClampNeg = (zsh σ.2.2.2).2 := nI_clamp (by omega)
    refine va_newaK C.1 C.2.1 hw rfl (zlen hd ha) rfl hn hN (by have : componentBytes (newarray.typeOf t) ≤ 8 := (by cases t <;> decide); exact Nat.le_trans (Nat.mul_le_mul hle this) (by decide)) hrc hrs hH.2.1 (fun H1 c1 e1 z1 o1 hAr hNm => ?_)
    have he : va_at D vwCl (base + (σ.2.2.2 - 1), zE cA base b (σ.1, σ.2.1, σ.2.2.1, σ.2.2.2 + 1) σ.2.2.2) H1 := by
      cases t <;> first
        | (have hk : (zsh σ.2.2.2).1 = 10 := hk
           cases zarr_ty C.2.2.2.2.2.2.1 (t0 := 0) (k := 10) (ty := .int) rfl hNm
           rw [zE_int hk (by decide) (by decide) (by decide)]
           refine e1.trans ?_
           simp only [vp_cell, (hf _).1]
           rfl)
        | (have hk : (zsh σ.2.2.2).1 = 13 := hk
           cases zarr_ty C.2.2.2.2.2.2.1 (t0 := 1) (k := 13) (ty := .double) rfl hNm
           rw [zE_dbl hk]
           refine e1.trans ?_
           simp only [vp_cell, (hf _).2.2]
           rfl)
        | exact absurd hk2 (by decide)
    have hc0 := hH.1
    have kk2 := kk ls H1 locs (by simpa only [hc1] using zpush hH (fun j => (hf j).1) z1 o1 he) hL (zcons trivial (zct hS)) hl
    have e99 : zad base b σ.2.2.2 = base + (σ.2.2.2 - 1) := zad_of (by rintro e; rw [e] at hk; rw [← hk] at hk2; exact absurd hk2 (by decide))
    simp only [zW, List.map_cons, hc1, hc2, zcv_r (show σ.2.2.2 ≠ 0 by omega), e99] at kk2
    exact kk2
  · cases h
set_option maxHeartbeats 1000000 in
theorem zs_anewarray {p : Program} {l : Launch} {e : Env} {R : Room} {s : State} {m : MethodId} {args : Array Value} {below : List Frame} {meth : Method} {c : Code} {cA : Nat → ClassId} {D : va_G} {base b Lx : Nat} {xs : Nat → Int32} {y : Nat} {H : Heap} {locs : List Loc} {cells slots : Nat} {Q : State → Prop} {ls : Array Slot} {pc len ia ib pc1 : Nat} {L L1 : zL} {st st1 : List zV} {σ σ1 : zS} {g : Option Prop} {i : Nat} (C : zCx p R s m args meth c cA D base b Lx xs y) (hH : zH cA D base b Lx xs s σ H locs cells) (hL : ∀ q ∈ L, zvr q.2) (hS : ∀ v ∈ st, zvr v) (hl : lv_has ls (zml y) (L.map (zcq base b))) (hd : decode (zb y) pc = .ok (.anewarray i, len)) (ha : zaux y pc (.anewarray i) len ia ib = true) (h : zx y (.anewarray i) len ia ib pc L st σ = some (g, pc1, L1, st1, σ1)) (hg : ∀ P, g = some P → P) (hrc : cells + (σ1.2.2.2 - σ.2.2.2) ≤ R.cells) (hrs : slots + (zsz σ1.2.2.2 - zsz σ.2.2.2) ≤ R.slots)
    (kk : zK p l e R s m args below meth c cA D base b Lx xs y cells slots Q σ pc1 L1 st1 σ1) : zW p l e R s m args below meth c base b H locs cells slots Q pc ls st := by
  simp only [zx] at h
  simp only [zaux, Bool.and_eq_true] at ha
  split at h
  · next n r =>
    obtain ⟨hb, h⟩ := zbif h
    simp only [Prod.mk.injEq] at h
    obtain ⟨rfl, rfl, rfl, rfl, rfl⟩ := h
    have hk := Nat.eq_of_beq_eq_true hb
    obtain ⟨rfl, hf⟩ := hg _ rfl
    have hle := zsh_le σ.2.2.2
    have hc1 : σ.2.2.2 + 1 - σ.2.2.2 = 1 := by omega
    have hc2 : zsz (σ.2.2.2 + 1) - zsz σ.2.2.2 = (zsh σ.2.2.2).2 := by rw [zsz_s]; omega
    simp only [hc1, hc2] at hrc hrs
    obtain ⟨hw, -, -, -⟩ := zkl_spec ha.2
    have ha1 : ia = 1 := Nat.eq_of_beq_eq_true ha.1.2
    subst ha1
    have hn : ¬ Int32.ofInt (((zsh σ.2.2.2).2 : Nat) : Int) < 0 := nI_pos (by omega)
    have hN : (Int32.ofInt (((zsh σ.2.2.2).2 : Nat) : Int)).toNatClampNeg = (zsh σ.2.2.2).2 := nI_clamp (by omega)
    refine W.anew C.1 C.2.1 C.2.2.2.1 (C.2.2.2.2.1 _ (zgood hw rfl)) (C := RX1) ?_ rfl (zlen hd ha.1.1) rfl hn (by rw [hN]; omega) hrc (by rw [hN]; exact hrs) (fun c1 kA comp f1 f2 f3 f4 => ?_)
    · first
        | exact C.2.2.2.2.1 _ (zgi zs_over rfl)
        | exact va_Nw.use rfl (C.2.2.2.2.2.2.2.2.2.1 _ (List.mem_of_getElem? zs_over) rfl)
        | exact C.2.2.2.2.2.2.2.2.2.1 _ (List.mem_of_getElem? zs_over) rfl
    have hsz := hH.2.1
    have hc0 := hH.1
    rw [hN]
    have he : va_at D vwCl (base + (σ.2.2.2 - 1), zE cA base b (σ.1, σ.2.1, σ.2.2.1, σ.2.2.2 + 1) σ.2.2.2) (H.push ({ cls := c1, slots := Array.replicate (zsh σ.2.2.2).2 .null, vm := .none } : Cell)) := by
      cases zarr_ty C.2.2.2.2.2.2.1 (t0 := 2) (k := 14) (ty := .object RX1) rfl f1
      rw [zE_ref hk, ← hsz]
      show (H.push _)[H.size]? = _
      rw [Array.getElem?_push_size, arrV_new]
      simp only [vp_cell, (hf _).2.1]
      rfl
    have kk2 := kk ls _ locs (by simpa only [hc1] using zpush hH (fun j => (hf j).1) (by rw [Array.size_push, hsz]) (fun q hq => by rw [Array.getElem?_push, if_neg (by omega)]) he) hL (zcons trivial (zct hS)) hl
    have e99 : zad base b σ.2.2.2 = base + (σ.2.2.2 - 1) := zad_of (by rintro e; rw [e] at hk; exact absurd hk (by decide))
    simp only [zW, List.map_cons, hc1, hc2, zcv_r (show σ.2.2.2 ≠ 0 by omega), e99] at kk2
    rw [hsz]
    exact kk2
  · cases h
set_option maxHeartbeats 1000000 in
theorem zs_new {p : Program} {l : Launch} {e : Env} {R : Room} {s : State} {m : MethodId} {args : Array Value} {below : List Frame} {meth : Method} {c : Code} {cA : Nat → ClassId} {D : va_G} {base b Lx : Nat} {xs : Nat → Int32} {y : Nat} {H : Heap} {locs : List Loc} {cells slots : Nat} {Q : State → Prop} {ls : Array Slot} {pc len ia ib pc1 : Nat} {L L1 : zL} {st st1 : List zV} {σ σ1 : zS} {g : Option Prop} {i : Nat} (C : zCx p R s m args meth c cA D base b Lx xs y) (hH : zH cA D base b Lx xs s σ H locs cells) (hL : ∀ q ∈ L, zvr q.2) (hS : ∀ v ∈ st, zvr v) (hl : lv_has ls (zml y) (L.map (zcq base b))) (hd : decode (zb y) pc = .ok (.new i, len)) (ha : zaux y pc (.new i) len ia ib = true) (h : zx y (.new i) len ia ib pc L st σ = some (g, pc1, L1, st1, σ1)) (hg : ∀ P, g = some P → P) (hrc : cells + (σ1.2.2.2 - σ.2.2.2) ≤ R.cells) (hrs : slots + (zsz σ1.2.2.2 - zsz σ.2.2.2) ≤ R.slots)
    (kk : zK p l e R s m args below meth c cA D base b Lx xs y cells slots Q σ pc1 L1 st1 σ1) : zW p l e R s m args below meth c base b H locs cells slots Q pc ls st := by
  simp only [zx] at h
  simp only [zaux, Bool.and_eq_true] at ha
  obtain ⟨hb, h⟩ := zbif h
  simp only [Prod.mk.injEq] at h
  obtain ⟨rfl, rfl, rfl, rfl, rfl⟩ := h
  simp only [Bool.and_eq_true] at hb
  have hk := Nat.eq_of_beq_eq_true hb.1
  have hk2 := Nat.eq_of_beq_eq_true hb.2
  have hf := hg _ rfl
  have hc1 : σ.2.2.2 + 1 - σ.2.2.2 = 1 := by omega
  have hc2 : zsz (σ.2.2.2 + 1) - zsz σ.2.2.2 = znf ia := by rw [zsz_s]; omega
  simp only [hc1, hc2] at hrc hrs
  obtain ⟨w1, w2, w3, hc9⟩ := zkl_spec ha.2
  have hKn := C.2.2.2.2.2.2.1.1 ia _ (zvw ia hc9)
  refine W.newcK C.1 C.2.1 C.2.2.2.1 (C.2.2.2.2.1 _ (zgood w1 rfl)) (C.2.2.2.2.1 _ (zgood w2 rfl)) (C.2.2.2.2.1 _ (zgood w3 rfl)) rfl (zlen hd ha.1) hrc hrs hKn.2.1 hH.2.1 (fun H1 kC hkC e1 z1 o1 => ?_)
  have hc0 := hH.1
  have he : va_at D vwCl (base + (σ.2.2.2 - 1), zE cA base b (σ.1, σ.2.1, σ.2.2.1, σ.2.2.2 + 1) σ.2.2.2) H1 := by
    rw [zE_obj hk hc9]
    refine ⟨_, zvw ia hc9, (u_born (zty ia) C.2.2.2.2.1 (zuw ia hc9) hKn hkC e1 (zty_ok ia hc9)).to (fun j hj => ?_)⟩
    have ht := ztf ia hc9 j hj
    show _ = vp_V _ j
    rw [vp_V, List.getD_eq_getElem?_getD, zget_map hj, zfv]
    cases hfr : zfr ia j
    · rw [ht.1 hfr]
      simp only [cond_false, (hf _).1]
      rfl
    · simp only [cond_true, (hf _).2.1]
      rcases ht.2 hfr with ⟨C0, e⟩ | ⟨t, e⟩ <;> rw [e] <;> rfl
  have kk2 := kk ls H1 locs (by simpa only [hc1] using zpush hH (fun j => (hf j).1) z1 o1 he) hL (zcons trivial hS) hl
  have e99 : zad base b σ.2.2.2 = base + (σ.2.2.2 - 1) := zad_of (by rintro e; rw [e] at hk; rw [← hk] at hc9; exact absurd hc9 (by decide))
  simp only [zW, List.map_cons, hc1, hc2, zcv_r (show σ.2.2.2 ≠ 0 by omega), e99] at kk2
  exact kk2
theorem zol_spec {o i : Nat} (h : zol.any (fun q => decide (q.1 = o ∧ q.2.1 = i)) = true) : Cond.methodLink (zR o) i objectInit ∈ lw_tbl := by
  obtain ⟨q, hq, hd⟩ := List.any_eq_true.mp h
  have h1 := List.all_eq_true.mp zol_ok q hq
  simp only [decide_eq_true_eq] at h1 hd
  obtain ⟨rfl, rfl⟩ := hd
  exact List.mem_of_getElem? h1
theorem zal_spec {o i : Nat} (h : zal.any (fun q => decide (q.1 = o ∧ q.2.1 = i)) = true) : Cond.methodLink (zR o) i arraycopyName ∈ lw_tbl := by
  obtain ⟨q, hq, hd⟩ := List.any_eq_true.mp h
  have h1 := List.all_eq_true.mp zal_ok q hq
  simp only [decide_eq_true_eq] at h1 hd
  obtain ⟨rfl, rfl⟩ := hd
  exact List.mem_of_getElem? h1
theorem znfw {n a d : Nat} (h1 : n ≤ 8) (h3 : a ≤ d) (h4 : 8 + 40 ≤ a) : n + (nativeFrameWords "java/lang/System" "arraycopy" 5 + 11) ≤ d := by
  have : nativeFrameWords "java/lang/System" "arraycopy" 5 ≤ 29 := by decide
  omega
set_option maxHeartbeats 1000000 in
theorem zs_invokespecial {p : Program} {l : Launch} {e : Env} {R : Room} {s : State} {m : MethodId} {args : Array Value} {below : List Frame} {meth : Method} {c : Code} {cA : Nat → ClassId} {D : va_G} {base b Lx : Nat} {xs : Nat → Int32} {y : Nat} {H : Heap} {locs : List Loc} {cells slots : Nat} {Q : State → Prop} {ls : Array Slot} {pc len ia ib pc1 : Nat} {L L1 : zL} {st st1 : List zV} {σ σ1 : zS} {g : Option Prop} {i : Nat} (C : zCx p R s m args meth c cA D base b Lx xs y) (hH : zH cA D base b Lx xs s σ H locs cells) (hL : ∀ q ∈ L, zvr q.2) (hS : ∀ v ∈ st, zvr v) (hl : lv_has ls (zml y) (L.map (zcq base b))) (hd : decode (zb y) pc = .ok (.invokespecial i, len)) (ha : zaux y pc (.invokespecial i) len ia ib = true) (h : zx y (.invokespecial i) len ia ib pc L st σ = some (g, pc1, L1, st1, σ1)) (hg : ∀ P, g = some P → P) (hrc : cells + (σ1.2.2.2 - σ.2.2.2) ≤ R.cells) (hrs : slots + (zsz σ1.2.2.2 - zsz σ.2.2.2) ≤ R.slots)
    (kk : zK p l e R s m args below meth c cA D base b Lx xs y cells slots Q σ pc1 L1 st1 σ1) : zW p l e R s m args below meth c base b H locs cells slots Q pc ls st := by
  simp only [zx] at h
  split at h
  · next q r =>
    obtain ⟨hb, h⟩ := zbif h
    simp only [Prod.mk.injEq] at h
    obtain ⟨rfl, rfl, rfl, rfl, rfl⟩ := h
    simp only [Bool.and_eq_true] at hb
    have h2 := Nat.eq_of_beq_eq_true hb.1.1
    subst h2
    have hq : 0 < q := by simpa using hb.1.2
    have hr := Nat.le_of_ble_eq_true hb.2
    simp only [zaux, Bool.and_eq_true, decide_eq_true_eq, Nat.beq_refl, cond_true] at ha
    simp only [zW, List.map_cons, zcv_r (show q ≠ 0 by omega)]
    refine W.objInit C.1 C.2.1 C.2.2.2.1 (C.2.2.2.2.1 _ (zgood (zol_spec ha.2.1.1) rfl)) (C.2.2.2.2.1 _ (zgi zs_oi rfl)) (C.2.2.2.2.1 _ (zgood zs_oc rfl)) rfl (by rw [C.2.2.1]; exact hl.1) rfl (zlen hd ha.1) (Nat.le_trans ha.2.1.2 C.2.2.2.2.2.2.2.1) ?_ (zk0 kk hH hL (zct hS) hl)
    rw [zcats_map]
    have h3 := C.2.2.2.2.2.2.2.2.1
    have h4 := ha.2.2
    show 2 * 0 + _ + 12 ≤ _
    omega
  · cases h
set_option maxHeartbeats 1000000 in
theorem zs_invokestatic {p : Program} {l : Launch} {e : Env} {R : Room} {s : State} {m : MethodId} {args : Array Value} {below : List Frame} {meth : Method} {c : Code} {cA : Nat → ClassId} {D : va_G} {base b Lx : Nat} {xs : Nat → Int32} {y : Nat} {H : Heap} {locs : List Loc} {cells slots : Nat} {Q : State → Prop} {ls : Array Slot} {pc len ia ib pc1 : Nat} {L L1 : zL} {st st1 : List zV} {σ σ1 : zS} {g : Option Prop} {i : Nat} (C : zCx p R s m args meth c cA D base b Lx xs y) (hH : zH cA D base b Lx xs s σ H locs cells) (hL : ∀ q ∈ L, zvr q.2) (hS : ∀ v ∈ st, zvr v) (hl : lv_has ls (zml y) (L.map (zcq base b))) (hd : decode (zb y) pc = .ok (.invokestatic i, len)) (ha : zaux y pc (.invokestatic i) len ia ib = true) (h : zx y (.invokestatic i) len ia ib pc L st σ = some (g, pc1, L1, st1, σ1)) (hg : ∀ P, g = some P → P) (hrc : cells + (σ1.2.2.2 - σ.2.2.2) ≤ R.cells) (hrs : slots + (zsz σ1.2.2.2 - zsz σ.2.2.2) ≤ R.slots)
    (kk : zK p l e R s m args below meth c cA D base b Lx xs y cells slots Q σ pc1 L1 st1 σ1) : zW p l e R s m args below meth c base b H locs cells slots Q pc ls st := by
  simp only [zx] at h
  cases h1000 : Nat.beq ia 1000
  · rw [h1000] at h
    simp only [cond_false] at h
    cases h
  · rw [h1000] at h
    simp only [cond_true] at h
    split at h
    · next n dp q1 sp q0 r =>
      obtain ⟨hb, h⟩ := zbif h
      simp only [Prod.mk.injEq] at h
      obtain ⟨rfl, rfl, rfl, rfl, rfl⟩ := h
      simp only [Bool.and_eq_true] at hb
      obtain ⟨⟨hb0, hb1⟩, hr⟩ := hb
      have hr := Nat.le_of_ble_eq_true hr
      have hi := Nat.eq_of_beq_eq_true h1000
      subst hi
      simp only [zaux, Bool.and_eq_true, decide_eq_true_eq, h1000, cond_true] at ha
      obtain ⟨e1, e2, e3, e4⟩ := zob_spec hb0 (by decide)
      obtain ⟨f1, f2, f3, f4⟩ := zob_spec hb1 (by decide)
      obtain ⟨g1, g2, g3, g4, g5⟩ := hg _ rfl
      have h3 := C.2.2.2.2.2.2.2.2.1
      have h4 := ha.2.2
      have l0 := zsh_le q0
      have l1 := zsh_le q1
      have tn : ∀ z : Int, 0 ≤ z → z ≤ 168 → ¬ Int32.ofInt z < 0 ∧ (Int32.ofInt z).toNatClampNeg = z.toNat := by
        intro z hz hz2
        obtain ⟨k, rfl⟩ : ∃ k : Nat, z = k := ⟨z.toNat, by omega⟩
        exact ⟨nI_pos (by omega), nI_clamp (by omega)⟩
      obtain ⟨a1, a2⟩ := tn sp g1 (by omega)
      obtain ⟨a3, a4⟩ := tn dp g2 (by omega)
      obtain ⟨a5, a6⟩ := tn n g3 (by omega)
      simp only [zW, List.map_cons, zcv_o e3 e4, zcv_o f3 f4]
      refine va_copyi C.1 C.2.1 (by rw [C.2.2.1]; exact hl.1.symm) C.2.2.2.1 (C.2.2.2.2.1 _ (zgood (zal_spec ha.2.1.1) rfl)) (C.2.2.2.2.1 _ (zgi zs_cn rfl)) (C.2.2.2.2.1 _ (zgi zs_cs rfl)) (C.2.2.2.2.1 _ (zgi zs_si rfl)) C.2.2.2.2.2.2.1 hH.2.2.1 zws_D hH.2.2.2.2.2.1 (q0 - 1) (q1 - 1) 0 0 (ty := .int) (by rw [zws_get e3 e2, zE_int e1 (by decide) (by decide) (by decide)]) (by rw [zws_get f3 f2, zE_int f1 (by decide) (by decide) (by decide)]) rfl rfl rfl a1 a3 a5 (by rw [a2, a6]; omega) (by rw [a4, a6]; omega) (fun _ _ => rfl) (Nat.le_trans ha.2.1.2 C.2.2.2.2.2.2.2.1) (by rw [zcats_map]; exact znfw hr h3 h4) (zlen hd ha.1) (fun H1 locs1 hP1 _ hS1 => ?_)
      rw [zws_set (τ := (fun r' k => if r' = q1 ∧ dp ≤ k ∧ k < dp + n then σ.1 q0 (sp + (k - dp)) else σ.1 r' k, σ.2)) f3 f2 rfl (by
        rw [zE_int f1 (by decide) (by decide) (by decide)]
        refine congrArg (fun f : Nat → Int32 => (Sum.inl (cA 10, ((zsh q1).2, Sum.inl f)) : va_E)) ?_
        funext k
        rw [a2, a4, a6]
        unfold va_cpy
        by_cases hk : dp.toNat ≤ k ∧ k < dp.toNat + n.toNat
        · rw [if_pos hk]
          have : (dp ≤ (k : Int) ∧ (k : Int) < dp + n) := by omega
          simp only [true_and, if_pos this]
          have e9 : ((sp.toNat + (k - dp.toNat) : Nat) : Int) = sp + ((k : Int) - dp) := by omega
          rw [e9]
        · rw [if_neg hk]
          have : ¬ (dp ≤ (k : Int) ∧ (k : Int) < dp + n) := by omega
          simp only [true_and, if_neg this]) (fun q' hq' => zE_congr (by funext k; simp [hq']) rfl rfl)] at hP1
      refine zsize hP1 (by show 2 ≤ σ.2.2.2; omega) hH.2.2.2.2.2.2 (fun hz => ?_)
      refine zkc kk rfl ⟨hH.1, hz, hP1, ?_, ?_, hS1, hH.2.2.2.2.2.2⟩ hL (zct (zct (zct (zct (zct hS))))) hl
      · intro r' hr' k hk
        show zr (if r' = q1 ∧ dp ≤ (k : Int) ∧ (k : Int) < dp + n then σ.1 q0 (sp + ((k : Int) - dp)) else σ.1 r' k)
        split
        · exact zrg_at hH.2.2.2.1 e2 (by omega) (by omega)
        · exact hH.2.2.2.1 r' hr' k hk
      · simp only [show ((1000 : Nat) = q1) = False by simp; omega, false_and, if_false]
        exact hH.2.2.2.2.1
    · cases h
set_option maxHeartbeats 1000000 in
theorem zs_tableswitch {p : Program} {l : Launch} {e : Env} {R : Room} {s : State} {m : MethodId} {args : Array Value} {below : List Frame} {meth : Method} {c : Code} {cA : Nat → ClassId} {D : va_G} {base b Lx : Nat} {xs : Nat → Int32} {y : Nat} {H : Heap} {locs : List Loc} {cells slots : Nat} {Q : State → Prop} {ls : Array Slot} {pc len ia ib pc1 : Nat} {L L1 : zL} {st st1 : List zV} {σ σ1 : zS} {g : Option Prop} {d lo hi : Int} {offs : Array Int} (C : zCx p R s m args meth c cA D base b Lx xs y) (hH : zH cA D base b Lx xs s σ H locs cells) (hL : ∀ q ∈ L, zvr q.2) (hS : ∀ v ∈ st, zvr v) (hl : lv_has ls (zml y) (L.map (zcq base b))) (hd : decode (zb y) pc = .ok (.tableswitch d lo hi offs, len)) (ha : zaux y pc (.tableswitch d lo hi offs) len ia ib = true) (h : zx y (.tableswitch d lo hi offs) len ia ib pc L st σ = some (g, pc1, L1, st1, σ1)) (hg : ∀ P, g = some P → P) (hrc : cells + (σ1.2.2.2 - σ.2.2.2) ≤ R.cells) (hrs : slots + (zsz σ1.2.2.2 - zsz σ.2.2.2) ≤ R.slots)
    (kk : zK p l e R s m args below meth c cA D base b Lx xs y cells slots Q σ pc1 L1 st1 σ1) : zW p l e R s m args below meth c base b H locs cells slots Q pc ls st := by
  simp only [zx] at h
  split at h
  · next x r =>
    simp only [Option.some.injEq, Prod.mk.injEq] at h
    obtain ⟨rfl, rfl, rfl, rfl, rfl⟩ := h
    simp only [zaux, Bool.and_eq_true, decide_eq_true_eq] at ha
    obtain ⟨⟨a1, a2⟩, a3⟩ := ha
    have hx : zr x := zch hS
    have kk2 := zk0 kk hH hL (zct hS) hl
    by_cases hc : x < lo ∨ hi < x
    · rw [if_pos hc] at kk2
      exact lv_tableOut C.1 C.2.1 hd (by rw [zti hx]; exact hc) (by omega) kk2
    · rw [if_neg hc] at kk2
      have hlt : (x - lo).toNat < offs.toList.length := by omega
      have ho : offs[((Int32.ofInt x).toInt - lo).toNat]? = some (offs.toList.getD (x - lo).toNat d) := by
        rw [zti hx, ← Array.getElem?_toList, List.getElem?_eq_getElem hlt, List.getD_eq_getElem?_getD, List.getElem?_eq_getElem hlt]
        rfl
      have h0 : 0 ≤ offs.toList.getD (x - lo).toNat d := by
        rw [List.getD_eq_getElem?_getD, List.getElem?_eq_getElem hlt]
        exact of_decide_eq_true (List.all_eq_true.mp a2 _ (List.getElem_mem hlt))
      exact lv_tableIn C.1 C.2.1 hd (by rw [zti hx]; omega) (by rw [zti hx]; omega) ho (by omega) kk2
  · cases h
theorem zlook {d x : Int} (hd : 0 ≤ d) : ∀ {l : List (Int × Int)}, (∀ o ∈ l, 0 ≤ o.2) → 0 ≤ Op.lookupswitch.offset l d x
  | [], _ => hd
  | (a, o) :: r, h => by
    rw [Op.lookupswitch.offset_cons]
    split
    · exact h (a, o) List.mem_cons_self
    · exact zlook hd (fun q hq => h q (List.mem_cons_of_mem _ hq))
set_option maxHeartbeats 1000000 in
theorem zs_lookupswitch {p : Program} {l : Launch} {e : Env} {R : Room} {s : State} {m : MethodId} {args : Array Value} {below : List Frame} {meth : Method} {c : Code} {cA : Nat → ClassId} {D : va_G} {base b Lx : Nat} {xs : Nat → Int32} {y : Nat} {H : Heap} {locs : List Loc} {cells slots : Nat} {Q : State → Prop} {ls : Array Slot} {pc len ia ib pc1 : Nat} {L L1 : zL} {st st1 : List zV} {σ σ1 : zS} {g : Option Prop} {d : Int} {ps : Array (Int × Int)} (C : zCx p R s m args meth c cA D base b Lx xs y) (hH : zH cA D base b Lx xs s σ H locs cells) (hL : ∀ q ∈ L, zvr q.2) (hS : ∀ v ∈ st, zvr v) (hl : lv_has ls (zml y) (L.map (zcq base b))) (hd : decode (zb y) pc = .ok (.lookupswitch d ps, len)) (ha : zaux y pc (.lookupswitch d ps) len ia ib = true) (h : zx y (.lookupswitch d ps) len ia ib pc L st σ = some (g, pc1, L1, st1, σ1)) (hg : ∀ P, g = some P → P) (hrc : cells + (σ1.2.2.2 - σ.2.2.2) ≤ R.cells) (hrs : slots + (zsz σ1.2.2.2 - zsz σ.2.2.2) ≤ R.slots)
    (kk : zK p l e R s m args below meth c cA D base b Lx xs y cells slots Q σ pc1 L1 st1 σ1) : zW p l e R s m args below meth c base b H locs cells slots Q pc ls st := by
  simp only [zx] at h
  split at h
  · next x r =>
    simp only [Option.some.injEq, Prod.mk.injEq] at h
    obtain ⟨rfl, rfl, rfl, rfl, rfl⟩ := h
    simp only [zaux, Bool.and_eq_true, decide_eq_true_eq] at ha
    obtain ⟨⟨a1, a2⟩, a3⟩ := ha
    have hx : zr x := zch hS
    have kk2 := zk0 kk hH hL (zct hS) hl
    have h0 : 0 ≤ Op.lookupswitch.offset ps.toList d x := zlook a1 (fun o ho => of_decide_eq_true (List.all_eq_true.mp a2 o ho))
    exact lv_lookup C.1 C.2.1 hd a3 rfl (by rw [zti hx]; omega) kk2
  · cases h
end
section
set_option maxHeartbeats 4000000 in
theorem zst_mono {y pc pc1 : Nat} {L L1 : zL} {st st1 : List zV} {σ σ1 : zS} {g : Option Prop} (h : zst y pc L st σ = some (g, pc1, L1, st1, σ1)) : σ.2.2.2 ≤ σ1.2.2.2 := by
  unfold zst at h
  split at h
  · next i len a b hi =>
    cases i <;> simp only [zx, Bool.cond_eq_ite] at h <;> (repeat' split at h) <;> first | (cases h; done) | (cases h; exact Nat.le_refl _) | (cases h; exact Nat.le_succ _)
  · cases h
set_option maxHeartbeats 4000000 in
theorem zst_sound {p : Program} {l : Launch} {e : Env} {R : Room} {s : State} {m : MethodId} {args : Array Value} {below : List Frame} {meth : Method} {c : Code} {cA : Nat → ClassId} {D : va_G} {base b Lx : Nat} {xs : Nat → Int32} {y : Nat} {H : Heap} {locs : List Loc} {cells slots : Nat} {Q : State → Prop} {ls : Array Slot} {pc pc1 : Nat} {L L1 : zL} {st st1 : List zV} {σ σ1 : zS} {g : Option Prop} (C : zCx p R s m args meth c cA D base b Lx xs y) (hH : zH cA D base b Lx xs s σ H locs cells) (hL : ∀ q ∈ L, zvr q.2) (hS : ∀ v ∈ st, zvr v) (hl : lv_has ls (zml y) (L.map (zcq base b))) (h : zst y pc L st σ = some (g, pc1, L1, st1, σ1)) (hg : ∀ P, g = some P → P) (hrc : cells + (σ1.2.2.2 - σ.2.2.2) ≤ R.cells) (hrs : slots + (zsz σ1.2.2.2 - zsz σ.2.2.2) ≤ R.slots)
    (kk : zK p l e R s m args below meth c cA D base b Lx xs y cells slots Q σ pc1 L1 st1 σ1) : zW p l e R s m args below meth c base b H locs cells slots Q pc ls st := by
  unfold zst at h
  split at h
  · next i len a b' hi =>
    obtain ⟨hd, ha⟩ := zchk_spec (zck y C.2.2.2.2.2.2.2.2.2.2.1) hi
    cases i with
    | iload_n k => exact zs_iload_n C hH hL hS hl hd ha h hg hrc hrs kk
    | iload k => exact zs_iload C hH hL hS hl hd ha h hg hrc hrs kk
    | fload_n k => exact zs_fload_n C hH hL hS hl hd ha h hg hrc hrs kk
    | dload_n k => exact zs_dload_n C hH hL hS hl hd ha h hg hrc hrs kk
    | dload k => exact zs_dload C hH hL hS hl hd ha h hg hrc hrs kk
    | aload_n k => exact zs_aload_n C hH hL hS hl hd ha h hg hrc hrs kk
    | istore_n k => exact zs_istore_n C hH hL hS hl hd ha h hg hrc hrs kk
    | istore k => exact zs_istore C hH hL hS hl hd ha h hg hrc hrs kk
    | fstore_n k => exact zs_fstore_n C hH hL hS hl hd ha h hg hrc hrs kk
    | dstore k => exact zs_dstore C hH hL hS hl hd ha h hg hrc hrs kk
    | astore_n k => exact zs_astore_n C hH hL hS hl hd ha h hg hrc hrs kk
    | iinc k n => exact zs_iinc C hH hL hS hl hd ha h hg hrc hrs kk
    | iconst n => exact zs_iconst C hH hL hS hl hd ha h hg hrc hrs kk
    | bipush n => exact zs_bipush C hH hL hS hl hd ha h hg hrc hrs kk
    | sipush n => exact zs_sipush C hH hL hS hl hd ha h hg hrc hrs kk
    | fconst k => exact zs_fconst C hH hL hS hl hd ha h hg hrc hrs kk
    | dconst k => exact zs_dconst C hH hL hS hl hd ha h hg hrc hrs kk
    | ldc k => exact zs_ldc C hH hL hS hl hd ha h hg hrc hrs kk
    | ldc_w k => exact zs_ldc_w C hH hL hS hl hd ha h hg hrc hrs kk
    | iadd => exact zs_iadd C hH hL hS hl hd ha h hg hrc hrs kk
    | isub => exact zs_isub C hH hL hS hl hd ha h hg hrc hrs kk
    | imul => exact zs_imul C hH hL hS hl hd ha h hg hrc hrs kk
    | idiv => exact zs_idiv C hH hL hS hl hd ha h hg hrc hrs kk
    | irem => exact zs_irem C hH hL hS hl hd ha h hg hrc hrs kk
    | ishl => exact zs_ishl C hH hL hS hl hd ha h hg hrc hrs kk
    | ishr => exact zs_ishr C hH hL hS hl hd ha h hg hrc hrs kk
    | iushr => exact zs_iushr C hH hL hS hl hd ha h hg hrc hrs kk
    | ior => exact zs_ior C hH hL hS hl hd ha h hg hrc hrs kk
    | iand => exact zs_iand C hH hL hS hl hd ha h hg hrc hrs kk
    | i2c => exact zs_i2c C hH hL hS hl hd ha h hg hrc hrs kk
    | i2d => exact zs_i2d C hH hL hS hl hd ha h hg hrc hrs kk
    | d2f => exact zs_d2f C hH hL hS hl hd ha h hg hrc hrs kk
    | fneg => exact zs_fneg C hH hL hS hl hd ha h hg hrc hrs kk
    | ddiv => exact zs_ddiv C hH hL hS hl hd ha h hg hrc hrs kk
    | dmul => exact zs_dmul C hH hL hS hl hd ha h hg hrc hrs kk
    | dsub => exact zs_dsub C hH hL hS hl hd ha h hg hrc hrs kk
    | fdiv => exact zs_fdiv C hH hL hS hl hd ha h hg hrc hrs kk
    | fmul => exact zs_fmul C hH hL hS hl hd ha h hg hrc hrs kk
    | fsub => exact zs_fsub C hH hL hS hl hd ha h hg hrc hrs kk
    | f2i => exact zs_f2i C hH hL hS hl hd ha h hg hrc hrs kk
    | fcmp o => exact zs_fcmp C hH hL hS hl hd ha h hg hrc hrs kk
    | dcmp o => exact zs_dcmp C hH hL hS hl hd ha h hg hrc hrs kk
    | dup => exact zs_dup C hH hL hS hl hd ha h hg hrc hrs kk
    | dup2 => exact zs_dup2 C hH hL hS hl hd ha h hg hrc hrs kk
    | pop => exact zs_pop C hH hL hS hl hd ha h hg hrc hrs kk
    | goto o => exact zs_goto C hH hL hS hl hd ha h hg hrc hrs kk
    | ifnull o => exact zs_ifnull C hH hL hS hl hd ha h hg hrc hrs kk
    | ifnonnull o => exact zs_ifnonnull C hH hL hS hl hd ha h hg hrc hrs kk
    | aconst_null => exact zs_aconst_null C hH hL hS hl hd ha h hg hrc hrs kk
    | getfield i => exact zs_getfield C hH hL hS hl hd ha h hg hrc hrs kk
    | putfield i => exact zs_putfield C hH hL hS hl hd ha h hg hrc hrs kk
    | iaload => exact zs_iaload C hH hL hS hl hd ha h hg hrc hrs kk
    | daload => exact zs_daload C hH hL hS hl hd ha h hg hrc hrs kk
    | aaload => exact zs_aaload C hH hL hS hl hd ha h hg hrc hrs kk
    | iastore => exact zs_iastore C hH hL hS hl hd ha h hg hrc hrs kk
    | dastore => exact zs_dastore C hH hL hS hl hd ha h hg hrc hrs kk
    | aastore => exact zs_aastore C hH hL hS hl hd ha h hg hrc hrs kk
    | arraylength => exact zs_arraylength C hH hL hS hl hd ha h hg hrc hrs kk
    | newarray t => exact zs_newarray C hH hL hS hl hd ha h hg hrc hrs kk
    | anewarray i => exact zs_anewarray C hH hL hS hl hd ha h hg hrc hrs kk
    | new i => exact zs_new C hH hL hS hl hd ha h hg hrc hrs kk
    | invokespecial i => exact zs_invokespecial C hH hL hS hl hd ha h hg hrc hrs kk
    | invokestatic i => exact zs_invokestatic C hH hL hS hl hd ha h hg hrc hrs kk
    | tableswitch d lo hi offs => exact zs_tableswitch C hH hL hS hl hd ha h hg hrc hrs kk
    | lookupswitch d ps => exact zs_lookupswitch C hH hL hS hl hd ha h hg hrc hrs kk
    | _ => exact absurd (show (none : zNx) = some _ from h) nofun
  · cases h
theorem zcd_iff {c : Jvm.ClassFile.Cond} {p q : Int} (hp : zr p) (hq : zr q) : (match c with
  | .eq => Int32.ofInt p = Int32.ofInt q | .ne => ¬ Int32.ofInt p = Int32.ofInt q | .lt => Int32.ofInt p < Int32.ofInt q | .ge => Int32.ofInt q ≤ Int32.ofInt p | .gt => Int32.ofInt q < Int32.ofInt p | .le => Int32.ofInt p ≤ Int32.ofInt q) ↔ zcd c p q := by
  cases c <;> simp only [zcd, z_eq hp hq, z_lt hp hq, z_le hp hq, z_lt hq hp, z_le hq hp]
theorem zbr_sound {p : Program} {l : Launch} {e : Env} {R : Room} {s : State} {m : MethodId} {args : Array Value} {below : List Frame} {meth : Method} {c : Code} {cA : Nat → ClassId} {D : va_G} {base b Lx : Nat} {xs : Nat → Int32} {y : Nat} {H : Heap} {locs : List Loc} {cells slots : Nat} {Q : State → Prop} {ls : Array Slot} {pc t f : Nat} {L : zL} {st st1 : List zV} {σ : zS} {P : Prop} (C : zCx p R s m args meth c cA D base b Lx xs y) (hH : zH cA D base b Lx xs s σ H locs cells) (hL : ∀ q ∈ L, zvr q.2) (hS : ∀ v ∈ st, zvr v) (hl : lv_has ls (zml y) (L.map (zcq base b))) (h : zbr y pc st = some (P, t, f, st1)) (kt : P → zW p l e R s m args below meth c base b H locs cells slots Q t ls st1) (kf : ¬ P → zW p l e R s m args below meth c base b H locs cells slots Q f ls st1) : zW p l e R s m args below meth c base b H locs cells slots Q pc ls st := by
  unfold zbr at h
  split at h
  · next cd off len a b' hi =>
    obtain ⟨hd, ha⟩ := zchk_spec (zck y C.2.2.2.2.2.2.2.2.2.2.1) hi
    simp only [zaux, Bool.and_eq_true, decide_eq_true_eq] at ha
    split at h
    · next p r =>
      simp only [Option.some.injEq, Prod.mk.injEq] at h
      obtain ⟨rfl, rfl, rfl, rfl⟩ := h
      have hz := zcd_iff (c := cd) (show zr p from zch hS) (show zr 0 from ⟨by decide, by decide⟩)
      have hd := zlen hd ha.1
      cases cd
      · exact lv_if_eq C.1 C.2.1 hd ha.2 (fun q => kt (hz.mp q)) (fun q => kf (fun z => q (hz.mpr z)))
      · exact lv_if_ne C.1 C.2.1 hd ha.2 (fun q => kt (hz.mp q)) (fun q => kf (fun z => (hz.mpr z) q))
      · exact lv_if_lt C.1 C.2.1 hd ha.2 (fun q => kt (hz.mp q)) (fun q => kf (fun z => q (hz.mpr z)))
      · exact lv_if_ge C.1 C.2.1 hd ha.2 (fun q => kt (hz.mp q)) (fun q => kf (fun z => q (hz.mpr z)))
      · exact lv_if_gt C.1 C.2.1 hd ha.2 (fun q => kt (hz.mp q)) (fun q => kf (fun z => q (hz.mpr z)))
      · exact lv_if_le C.1 C.2.1 hd ha.2 (fun q => kt (hz.mp q)) (fun q => kf (fun z => q (hz.mpr z)))
    · cases h
  · next cd off len a b' hi =>
    obtain ⟨hd, ha⟩ := zchk_spec (zck y C.2.2.2.2.2.2.2.2.2.2.1) hi
    simp only [zaux, Bool.and_eq_true, decide_eq_true_eq] at ha
    split at h
    · next q' p r =>
      simp only [Option.some.injEq, Prod.mk.injEq] at h
      obtain ⟨rfl, rfl, rfl, rfl⟩ := h
      have hz := zcd_iff (c := cd) (show zr p from zch (zct hS)) (show zr q' from zch hS)
      have hd := zlen hd ha.1
      cases cd
      · exact lv_icmp_eq C.1 C.2.1 hd ha.2 (fun q => kt (hz.mp q)) (fun q => kf (fun z => q (hz.mpr z)))
      · exact lv_icmp_ne C.1 C.2.1 hd ha.2 (fun q => kt (hz.mp q)) (fun q => kf (fun z => (hz.mpr z) q))
      · exact lv_icmp_lt C.1 C.2.1 hd ha.2 (fun q => kt (hz.mp q)) (fun q => kf (fun z => q (hz.mpr z)))
      · exact lv_icmp_ge C.1 C.2.1 hd ha.2 (fun q => kt (hz.mp q)) (fun q => kf (fun z => q (hz.mpr z)))
      · exact lv_icmp_gt C.1 C.2.1 hd ha.2 (fun q => kt (hz.mp q)) (fun q => kf (fun z => q (hz.mpr z)))
      · exact lv_icmp_le C.1 C.2.1 hd ha.2 (fun q => kt (hz.mp q)) (fun q => kf (fun z => q (hz.mpr z)))
    · cases h
  · cases h
/-- what a return leaves -/
theorem zre_sound {p : Program} {l : Launch} {e : Env} {R : Room} {s : State} {m : MethodId} {args : Array Value} {below : List Frame} {meth : Method} {c : Code} {cA : Nat → ClassId} {D : va_G} {base b Lx : Nat} {xs : Nat → Int32} {y : Nat} {H : Heap} {locs : List Loc} {cells slots : Nat} {ls : Array Slot} {pc : Nat} {st : List zV} {r : Option zV} {Qc : Array Value → State → Outcome → State → Prop} {free : Addr → Prop} (C : zCx p R s m args meth c cA D base b Lx xs y) (hr : meth.sig.returnType = zrt y) (hlocks : meth.locks = false) (h : zre y pc st = some r)
    (hq : ∀ t : State, t.heap = H → s.WarmedH t.vm → Qc args s (.returned (r.map (zcv base b))) t) (hf : ∀ q ∈ locs, free q.base) : W p l e R s m args below meth c H locs cells slots (MQ below Qc args s cells slots free) (F0 m pc ls (st.map (zcv base b))) := by
  unfold zre at h
  split at h
  · next x hi =>
    obtain ⟨len, a, b'⟩ := x
    obtain ⟨hd, ha⟩ := zchk_spec (zck y C.2.2.2.2.2.2.2.2.2.2.1) hi
    have hd := zlen hd ha
    split at h
    · next x =>
      split at h
      · next hy =>
        simp only [Option.some.injEq] at h
        subst h
        exact W.iret C.1 C.2.1 (by rw [hr, hy]) hq hf hd
      · next hy =>
        obtain ⟨hb, h⟩ := zbif h
        subst h
        simp only [Bool.or_eq_true, decide_eq_true_eq] at hb
        refine W.zret (ty := .boolean) C.1 C.2.1 (by rw [hr, hy]) ?_ hq hf hd
        rcases hb with rfl | rfl <;> rfl
      · cases h
    · cases h
  · next x hi =>
    obtain ⟨len, a, b'⟩ := x
    obtain ⟨hd, ha⟩ := zchk_spec (zck y C.2.2.2.2.2.2.2.2.2.2.1) hi
    have hd := zlen hd ha
    split at h
    · split at h
      · next hy =>
        simp only [Option.some.injEq] at h
        subst h
        exact W.dret C.1 C.2.1 (by rw [hr, hy]) hq hf hd
      · cases h
    · cases h
  · next x hi =>
    obtain ⟨len, a, b'⟩ := x
    obtain ⟨hd, ha⟩ := zchk_spec (zck y C.2.2.2.2.2.2.2.2.2.2.1) hi
    have hd := zlen hd ha
    split at h
    · next x =>
      split at h
      · next n hy =>
        simp only [Option.some.injEq] at h
        subst h
        refine W.aret C.1 C.2.1 (by rw [hr, hy]) (Or.inl ⟨_, rfl⟩) ?_ hq hf hd
        by_cases h0 : x = 0
        · subst h0; exact Or.inl rfl
        · exact Or.inr ⟨_, zcv_r h0⟩
      · cases h
    · cases h
  · next x hi =>
    obtain ⟨len, a, b'⟩ := x
    obtain ⟨hd, ha⟩ := zchk_spec (zck y C.2.2.2.2.2.2.2.2.2.2.1) hi
    have hd := zlen hd ha
    split at h
    · split at h
      · next hy =>
        simp only [Option.some.injEq] at h
        subst h
        exact W.vret C.1 C.2.1 (by rw [hr, hy]) hq hf hd
      · cases h
    · cases h
  · cases h
theorem zre_r {y pc : Nat} {st : List zV} {r : Option zV} (h : zre y pc st = some r) (hS : ∀ v ∈ st, zvr v) : ∀ w, r = some w → zvr w := by
  unfold zre at h
  repeat' split at h
  all_goals first
    | (cases h; done)
    | (cases h; intro w hw; cases hw; done)
    | (cases h; intro w hw; cases hw; exact hS _ List.mem_cons_self)
    | (obtain ⟨-, h⟩ := zbif h; subst h; intro w hw; cases hw; exact hS _ List.mem_cons_self)
/-- soundness of one run: whatever the machine's context, it comes to the end -/
def zSnd (l : Launch) : zRel := fun y pc L st σ r τ => σ.2.2.2 ≤ τ.2.2.2 ∧ ∀ (p : Program) (e : Env) (R : Room) (s : State) (m : MethodId) (args : Array Value) (below : List Frame) (meth : Method) (c : Code) (cA : Nat → ClassId) (D : va_G) (base b Lx : Nat) (xs : Nat → Int32) (H : Heap) (locs : List Loc) (cells slots : Nat) (Q : State → Prop) (ls : Array Slot),
  zCx p R s m args meth c cA D base b Lx xs y → zH cA D base b Lx xs s σ H locs cells → (∀ q ∈ L, zvr q.2) → (∀ v ∈ st, zvr v) → lv_has ls (zml y) (L.map (zcq base b)) → cells + (τ.2.2.2 - σ.2.2.2) ≤ R.cells → slots + (zsz τ.2.2.2 - zsz σ.2.2.2) ≤ R.slots →
  (∀ (pcq : Nat) (stq : List zV) (lsq : Array Slot) (Hq : Heap) (locsq : List Loc), zre y pcq stq = some r → (∀ v ∈ stq, zvr v) → zH cA D base b Lx xs s τ Hq locsq (cells + (τ.2.2.2 - σ.2.2.2)) → zW p l e R s m args below meth c base b Hq locsq (cells + (τ.2.2.2 - σ.2.2.2)) (slots + (zsz τ.2.2.2 - zsz σ.2.2.2)) Q pcq lsq stq) →
  zW p l e R s m args below meth c base b H locs cells slots Q pc ls st
theorem zadd3 {k a b c : Nat} (h1 : a ≤ b) (h2 : b ≤ c) : k + (b - a) + (c - b) = k + (c - a) := by omega
theorem zlg_len {base b : Nat} : ∀ (As : List zV), (lg_sl (As.map (zcv base b))).length = zcats As
  | [] => rfl
  | v :: vs => by
    have ih := zlg_len (base := base) (b := b) vs
    have hc := zcat_cv (base := base) (b := b) v
    rcases v with x | r | f | d
    · simp only [lg_sl, List.map_cons, List.flatMap_cons, List.length_append, zcats, List.sum_cons] at ih ⊢
      rw [ih]; rfl
    · simp only [lg_sl, List.map_cons, List.flatMap_cons, List.length_append, zcats, List.sum_cons] at ih ⊢
      rw [ih]
      have : (zcv base b (.inr (.inl r))).category = 1 := hc
      simp [this, zcat]
    · simp only [lg_sl, List.map_cons, List.flatMap_cons, List.length_append, zcats, List.sum_cons] at ih ⊢
      rw [ih]; rfl
    · simp only [lg_sl, List.map_cons, List.flatMap_cons, List.length_append, zcats, List.sum_cons] at ih ⊢
      rw [ih]; rfl
theorem zargs_map {base b : Nat} : ∀ (As : List zV) (i : Nat), lv_args i (As.map (zcv base b)) = (zargs i As).map (zcq base b)
  | [], _ => rfl
  | v :: vs, i => by
    simp only [List.map_cons, lv_args, zargs, zcat_cv, zargs_map vs]
theorem zargs_r : ∀ (As : List zV) (i : Nat), (∀ v ∈ As, zvr v) → ∀ q ∈ zargs i As, zvr q.2
  | [], _, _, q, hq => by cases hq
  | v :: vs, i, h, q, hq => by
    rcases List.mem_cons.mp hq with rfl | hq
    · exact h v List.mem_cons_self
    · exact zargs_r vs _ (fun w hw => h w (List.mem_cons_of_mem _ hw)) q hq
theorem zbeq_f {a n : Nat} (h : a ≠ n) : Nat.beq a n = false := by
  cases hb : Nat.beq a n with
  | false => rfl
  | true => exact absurd (Nat.eq_of_beq_eq_true hb) h
theorem zcls_ok : ∀ a, a < zN → (zname a).cls = zR (zown a) ∧ (zini a = true → (zname a).name = "<init>") := by
  intro a ha
  have h0 : (List.range zN).all (fun a => decide ((zname a).cls = zR (zown a) ∧ (zini a = true → (zname a).name = "<init>"))) = true := by decide +kernel
  exact of_decide_eq_true (List.all_eq_true.mp h0 a (List.mem_range.mpr ha))
abbrev zwsy (a : Nat) : List Cond := Cond.code (zname a) (zb a) (zml a) (zrt a) :: lw_good
theorem zcw : ∀ a, a < zlaw → Cond.code (zname a) (zb a) (zml a) (zrt a) ∈ lw_tbl := lt_s (lt_s (lt_s (lt_s (lt_s (lt_s (lt_s (lt_s (lt_s (lt_s (lt_s (lt_s (lt_s (lt_s (lt_s (lt_s (lt_s (lt_s (lt_s (lt_s (lt_s (lt_s (lt_s (lt_s (lt_s (lt_s (lt_s (lt_s (lt_s (lt_s (lt_s (lt_s (lt_s (lt_s (lt_s (lt_s (lt_s (lt_s (lt_s (lt_s (lt_s (lt_s (lt_s (lt_s (lt_s (lt_s (lt_s (lt_s (lt_s (lt_s (lt_s (lt_s (lt_s (lt_s (lt_s (lt_s (lt_s (lt_s (lt_s (lt_s (lt_s (lt_s (lt_s (lt_s (lt_s (lt_s (lt_s (lt_s (lt_s (lt_s (lt_s (lt_s (lt_s (lt_s (lt_s (lt_s (lt_s (lt_s (lt_s (lt_s (lt_s (lt_s (lt_s (lt_s (lt_s (lt_s (lt_s (lt_s (lt_s (lt_s (lt_s (lt_s (lt_s (lt_s (lt_s (lt_s (lt_s (lt_s (lt_s (lt_s (lt_s (lt_s (lt_s (lt_s (lt_s (lt_s (lt_s (lt_s (lt_s (lt_s (lt_s (lt_s (lt_s (lt_s (lt_s (lt_s (lt_s (lt_s (lt_s (lt_s (lt_s (lt_s (lt_s (lt_s (lt_s (lt_s (lt_s (lt_s (lt_s (lt_s (lt_s (lt_s (lt_s (lt_s (lt_s (lt_s (lt_s (lt_s (lt_s (lt_s (lt_s (lt_s (lt_s (lt_0) zcw0) zcw1) zcw2) zcw3) zcw4) zcw5) zcw6) zcw7) zcw8) zcw9) zcw10) zcw11) zcw12) zcw13) zcw14) zcw15) zcw16) zcw17) zcw18) zcw19) zcw20) zcw21) zcw22) zcw23) zcw24) zcw25) zcw26) zcw27) zcw28) zcw29) zcw30) zcw31) zcw32) zcw33) zcw34) zcw35) zcw36) zcw37) zcw38) zcw39) zcw40) zcw41) zcw42) zcw43) zcw44) zcw45) zcw46) zcw47) zcw48) zcw49) zcw50) zcw51) zcw52) zcw53) zcw54) zcw55) zcw56) zcw57) zcw58) zcw59) zcw60) zcw61) zcw62) zcw63) zcw64) zcw65) zcw66) zcw67) zcw68) zcw69) zcw70) zcw71) zcw72) zcw73) zcw74) zcw75) zcw76) zcw77) zcw78) zcw79) zcw80) zcw81) zcw82) zcw83) zcw84) zcw85) zcw86) zcw87) zcw88) zcw89) zcw90) zcw91) zcw92) zcw93) zcw94) zcw95) zcw96) zcw97) zcw98) zcw99) zcw100) zcw101) zcw102) zcw103) zcw104) zcw105) zcw106) zcw107) zcw108) zcw109) zcw110) zcw111) zcw112) zcw113) zcw114) zcw115) zcw116) zcw117) zcw118) zcw119) zcw120) zcw121) zcw122) zcw123) zcw124) zcw125) zcw126) zcw127) zcw128) zcw129) zcw130) zcw131) zcw132) zcw133) zcw134) zcw135) zcw136) zcw137) zcw138) zcw139) zcw140) zcw141) zcw142
/-- a method's contract at one start, out of a run of the pure machine -/
abbrev zPc (cA : Nat → ClassId) (D : va_G) (base b Lx : Nat) (xs : Nat → Int32) (As : List zV) (σ : zS) : Array Value → State → Prop := va_Pc (As.map (zcv base b)) (fun U => U.heap.size = base + (σ.2.2.2 - 1) ∧ va_P D vwCl (zws cA base b σ) U.heap ∧ va_K D vwCl (ztys cA) U ∧ (∀ w ∈ lw_tbl, zisn w = true → va_Nw w U) ∧ b < base ∧ va_X b Lx xs U U.heap)
abbrev zQc (cA : Nat → ClassId) (D : va_G) (base b Lx : Nat) (xs : Nat → Int32) (r : Option zV) (τ : zS) : Array Value → State → Outcome → State → Prop := fun _ st oc t => oc = .returned (r.map (zcv base b)) ∧ (∀ w, r = some w → zvr w) ∧ t.heap.size = base + (τ.2.2.2 - 1) ∧ va_P D vwCl (zws cA base b τ) t.heap ∧ zRg τ ∧ (τ.1 1000 (-1) = Lx ∧ ∀ j : Nat, j < Lx → τ.1 1000 j = (xs j).toInt) ∧ va_F (fun q => base ≤ q) st t
abbrev zRm (a : Nat) (σ τ : zS) : Room := { frames := zrank a, cells := τ.2.2.2 - σ.2.2.2, slots := zsz τ.2.2.2 - zsz σ.2.2.2, locals := zneed a }
set_option maxHeartbeats 4000000 in
theorem zmet {l : Launch} {a : Nat} {As : List zV} {σ τ : zS} {r : Option zV} {cA : Nat → ClassId} {D : va_G} {base b Lx : Nat} {xs : Nat → Int32} (hX : zSnd l a 0 (zargs 0 As) [] σ r τ) (ha : a < zlaw) (hpl : plainFor (zname a) = true) (hm : zcats As ≤ zml a) (hA : ∀ v ∈ As, zvr v) (h1 : 1 ≤ σ.2.2.2) (hR : zRg σ) (hsc : σ.1 1000 (-1) = Lx ∧ ∀ j : Nat, j < Lx → σ.1 1000 j = (xs j).toInt) (hLx : Lx ≤ 260) :
    Met l (zname a) (zwsy a) (zRm a σ τ) (zPc cA D base b Lx xs As σ) (zQc cA D base b Lx xs r τ) (τ.2.2.2 - σ.2.2.2) (zsz τ.2.2.2 - zsz σ.2.2.2) (fun q => base ≤ q) := by
  refine va_MetF (cc := zb a) (maxL := zml a) (ret := zrt a) hpl rfl ?_
  intro p e s m args below meth c s₁ B hml hv
  obtain ⟨rfl, hsz, hP, hK, hN, hbb, hXs⟩ := hv
  have hts := atoms_spec (ws := zwsy a) B.pre
  have haN : a < zN := Nat.lt_trans ha (by decide)
  obtain ⟨hcl, hini⟩ := zcls_ok a haN
  have hown := findClass_of_methodNamed B.named
  rw [hcl] at hown
  have hlocks := B.notSynchronized
  have C : zCx p (headSpec (zwsy a) (zRm a σ τ)).room s m (As.map (zcv base b)).toArray meth c cA D base b Lx xs a :=
    ⟨B.exec, B.bytes, hml, hown, fun w hw => hts w (List.mem_cons_of_mem _ hw), fun h => by rw [(name_of_methodNamed B.named B.method).1]; exact hini h, hK, Nat.le_refl _, Nat.le_refl _, hN, haN, hLx, ⟨hbb, hXs⟩, by rw [hsz]; exact Nat.le_add_right _ _⟩
  have hl := lv_entry (As.map (zcv base b)) (n := zml a) (by rw [zlg_len]; exact hm)
  rw [lg_entry_eq]
  generalize (lg_sl (As.map (zcv base b)) ++ List.replicate (zml a - (lg_sl (As.map (zcv base b))).length) Slot.unset).toArray = ls at hl ⊢
  rw [zargs_map] at hl
  have hH : zH cA D base b Lx xs s σ s.heap [] 0 := ⟨h1, hsz, hP, hR, hsc, va_S.rf, by rw [hsz]; rfl⟩
  refine hX.2 p e _ s m _ below meth c cA D base b Lx xs s.heap [] 0 0 _ ls C hH (zargs_r As 0 hA) (fun v hv => by cases hv) hl (by rw [Nat.zero_add]; exact Nat.le_refl _) (by rw [Nat.zero_add]; exact Nat.le_refl _) ?_
  intro pcq stq lsq Hq locsq hre hSq hHq
  simp only [Nat.zero_add] at hHq ⊢
  exact zre_sound C B.returns hlocks hre (fun t ht hW => ⟨rfl, zre_r hre hSq, by rw [ht]; exact hHq.2.1, by rw [ht]; exact hHq.2.2.1, hHq.2.2.2.1, hHq.2.2.2.2.1, hHq.2.2.2.2.2.1.F ht⟩) (fun q hq => hHq.2.2.2.2.2.1.2.2 q hq)
theorem zGI {ws : List Cond} (h : ∀ w ∈ ws, w ∈ lw_good) : GoodIn lw_good ws := fun w hw => ⟨h w hw, good_of_word (List.mem_filter.mp (h w hw)).2⟩
theorem zwsy_in {a : Nat} (ha : a < zlaw) : ∀ w ∈ zwsy a, w ∈ lw_good := fun w hw => (List.mem_cons.mp hw).elim (fun e => e ▸ zgood (zcw a ha) rfl) id
theorem zover : ∀ w ∈ lw_tbl, ∀ ty, w = .arrayOver ty → ty = .object RX1 := by
  intro w hw ty e
  subst e
  have h0 : lw_tbl.all (fun w => match w with | .arrayOver ty => decide (ty = .object RX1) | _ => true) = true := by decide +kernel
  exact of_decide_eq_true (List.all_eq_true.mp h0 _ hw)
theorem zwarm {w : Cond} {s U : State} (hw : w ∈ lw_tbl) (hg : zisn w = true) (hW : s.WarmedH U.vm) (h : va_Nw w s) : va_Nw w U := by
  cases w <;> first
    | (cases hg; done)
    | exact va_Nw.warmM hW h
    | (cases zover _ hw _ rfl; exact va_AO.moved hW.alike h)
theorem zsame {w : Cond} {s U : State} (hw : w ∈ lw_tbl) (hg : zisn w = true) (hW : s.vm = U.vm) (h : va_Nw w s) : va_Nw w U := by
  cases w <;> first
    | (cases hg; done)
    | exact va_Nw.same rfl hW h
    | (cases zover _ hw _ rfl; exact va_AO.moved (by rw [hW]; exact Vm.Alike.refl _) h)
theorem zblind {cA : Nat → ClassId} {D : va_G} {base b Lx : Nat} {xs : Nat → Int32} {As : List zV} {σ : zS} : FrameBlind (zPc cA D base b Lx xs As σ) := fun a U g mk q => ⟨q.1, q.2.1, q.2.2.1, va_K.moved (u := U) (U := U.calling g mk a) (Vm.Alike.refl U.vm) q.2.2.2.1, fun w hw hg => zsame (s := U) (U := U.calling g mk a) hw hg rfl (q.2.2.2.2.1 w hw hg), q.2.2.2.2.2.1, va_X.moved (u := U) (U := U.calling g mk a) (Vm.Alike.refl U.vm) q.2.2.2.2.2.2⟩
/-- the script at a callee's entry -/
theorem zscX {p : Program} {R : Room} {s U : State} {m : MethodId} {args : Array Value} {meth : Method} {c : Code} {cA : Nat → ClassId} {D : va_G} {base b Lx : Nat} {xs : Nat → Int32} {y : Nat} {H : Heap} {locs : List Loc} {cells : Nat} {σ : zS} (C : zCx p R s m args meth c cA D base b Lx xs y) (hH : zH cA D base b Lx xs s σ H locs cells) (hU : U.heap = H) (hW : s.WarmedH U.vm) : b < base ∧ va_X b Lx xs U U.heap := by
  obtain ⟨hbb, hX⟩ := C.2.2.2.2.2.2.2.2.2.2.2.2.1
  refine ⟨hbb, va_X.moved hW.alike ?_⟩
  rw [hU]
  exact va_X.kept hX (hH.2.2.2.2.2.1.2.1 b (Nat.lt_of_lt_of_le hbb C.2.2.2.2.2.2.2.2.2.2.2.2.2) (Nat.not_le.mpr hbb))
/-- behind a call -/
theorem zback {p : Program} {l : Launch} {e : Env} {R : Room} {s : State} {m : MethodId} {args : Array Value} {below : List Frame} {meth : Method} {c : Code} {cA : Nat → ClassId} {D : va_G} {base b Lx : Nat} {xs : Nat → Int32} {y : Nat} {H : Heap} {locs : List Loc} {cells slots : Nat} {Q : State → Prop} {ls : Array Slot} {pc : Nat} {L : zL} {st rest : List zV} {σ σ1 : zS} {v : Option zV} {qa : Array Value} (C : zCx p R s m args meth c cA D base b Lx xs y) (hH : zH cA D base b Lx xs s σ H locs cells) (hL : ∀ q ∈ L, zvr q.2) (hS : ∀ v ∈ rest, zvr v) (hl : lv_has ls (zml y) (L.map (zcq base b))) (h1 : σ.2.2.2 ≤ σ1.2.2.2) (h1b : 1 ≤ σ.2.2.2)
    (hrun : va_Run p l e R s m args below meth c H locs cells slots (σ1.2.2.2 - σ.2.2.2) (zsz σ1.2.2.2 - zsz σ.2.2.2) (F0 m pc ls (st.map (zcv base b))) (rest.map (zcv base b)) (zQc cA D base b Lx xs v σ1 qa) (fun q => base ≤ q))
    (kk : ∀ (H1 : Heap) (locs1 : List Loc), zH cA D base b Lx xs s σ1 H1 locs1 (cells + (σ1.2.2.2 - σ.2.2.2)) → (∀ w ∈ v.toList ++ rest, zvr w) → zW p l e R s m args below meth c base b H1 locs1 (cells + (σ1.2.2.2 - σ.2.2.2)) (slots + (zsz σ1.2.2.2 - zsz σ.2.2.2)) Q (pc + 3) ls (v.toList ++ rest)) : zW p l e R s m args below meth c base b H locs cells slots Q pc ls st := by
  intro T hT X
  obtain ⟨v', st₀, t, T', L2, h0, X', hL2, e1, e2, ⟨hv, hvr, hz, hP1, hR1, hsc1, hF⟩, stp⟩ := hrun T hT X
  cases hv
  obtain ⟨h2, h3, h4, h5, h6, h7, h8⟩ := hH
  have hH1 : zH cA D base b Lx xs s σ1 T'.heap (locs ++ L2) (cells + (σ1.2.2.2 - σ.2.2.2)) := by
    refine ⟨Nat.le_trans h2 h1, by rw [e1]; exact hz, by rw [e1]; exact hP1, hR1, hsc1, ⟨?_, ?_, ?_⟩, by omega⟩
    · rw [e1, hz]; have := h7.1; omega
    · intro q g1 g2
      rw [e1, hF.2 q (by rw [h0]; exact Nat.lt_of_lt_of_le g1 h7.1) g2, h0]
      exact h7.2.1 q g1 g2
    · intro q hq
      rcases List.mem_append.mp hq with h | h
      · exact h7.2.2 q h
      · exact hL2 q h
  have hS1 : ∀ w ∈ v.toList ++ rest, zvr w := by
    intro w hw
    rcases List.mem_append.mp hw with h | h
    · exact hvr w (Option.mem_toList.mp h)
    · exact hS w h
  obtain ⟨t2, a1, b1⟩ := kk T'.heap (locs ++ L2) hH1 hS1 T' rfl X'
  refine ⟨t2, ?_, b1⟩
  have e5 : (v.toList ++ rest).map (zcv base b) = (v.map (zcv base b)).toList ++ rest.map (zcv base b) := by cases v <;> rfl
  rw [e5] at a1
  exact stp t2 a1
theorem zvl_spec {o i a n : Nat} (h : zvl.any (fun q => decide (q.1 = o ∧ q.2.1 = i ∧ q.2.2.1 = a ∧ q.2.2.2.1 = n)) = true) : Cond.methodLink (zR o) i (zname a) ∈ lw_tbl ∧ Cond.instanceMethod (zname a) ∈ lw_tbl ∧ Cond.selects (zname a).cls (zname a) (zname a) ∈ lw_tbl ∧ Cond.initialized (zname a).cls ∈ lw_tbl ∧ ((zname a).cls ≠ "java/lang/invoke/MethodHandle" ∧ (zname a).cls ≠ "java/lang/invoke/VarHandle" ∧ (parseMethodDescriptor (zname a).desc).map (fun d => d.parameters.length) = some n) := by
  obtain ⟨q, hq, hd⟩ := List.any_eq_true.mp h
  have h1 := List.all_eq_true.mp zvl_ok q hq
  simp only [Bool.and_eq_true, decide_eq_true_eq] at h1 hd
  obtain ⟨rfl, rfl, rfl, rfl⟩ := hd
  exact ⟨List.mem_of_getElem? h1.1.1.1.1, List.mem_of_getElem? h1.1.1.1.2, List.mem_of_getElem? h1.1.1.2, List.mem_of_getElem? h1.1.2, h1.2⟩
theorem zsl_spec {o i a n : Nat} (h : zsl.any (fun q => decide (q.1 = o ∧ q.2.1 = i ∧ q.2.2.1 = a ∧ q.2.2.2.1 = n)) = true) : Cond.methodLink (zR o) i (zname a) ∈ lw_tbl ∧ Cond.static (zname a) ∈ lw_tbl ∧ Cond.initialized (zname a).cls ∈ lw_tbl ∧ ((zname a).cls ≠ "java/lang/invoke/MethodHandle" ∧ (zname a).cls ≠ "java/lang/invoke/VarHandle" ∧ (parseMethodDescriptor (zname a).desc).map (fun d => d.parameters.length) = some n) := by
  obtain ⟨q, hq, hd⟩ := List.any_eq_true.mp h
  have h1 := List.all_eq_true.mp zsl_ok q hq
  simp only [Bool.and_eq_true, decide_eq_true_eq] at h1 hd
  obtain ⟨rfl, rfl, rfl, rfl⟩ := hd
  exact ⟨List.mem_of_getElem? h1.1.1.1, List.mem_of_getElem? h1.1.1.2, List.mem_of_getElem? h1.1.2, h1.2⟩
theorem zil_spec {o i a n : Nat} (h : zil.any (fun q => decide (q.1 = o ∧ q.2.1 = i ∧ q.2.2.1 = a ∧ q.2.2.2.1 = n)) = true) : Cond.methodLink (zR o) i (zname a) ∈ lw_tbl ∧ Cond.instanceMethod (zname a) ∈ lw_tbl ∧ Cond.initialized (zname a).cls ∈ lw_tbl ∧ (zname a).name = "<init>" ∧ zrt a = none ∧ ((zname a).cls ≠ "java/lang/invoke/MethodHandle" ∧ (zname a).cls ≠ "java/lang/invoke/VarHandle" ∧ (parseMethodDescriptor (zname a).desc).map (fun d => d.parameters.length) = some n) := by
  obtain ⟨q, hq, hd⟩ := List.any_eq_true.mp h
  have h1 := List.all_eq_true.mp zil_ok q hq
  simp only [Bool.and_eq_true, decide_eq_true_eq] at h1 hd
  obtain ⟨rfl, rfl, rfl, rfl⟩ := hd
  exact ⟨List.mem_of_getElem? h1.1.1.1.1.1, List.mem_of_getElem? h1.1.1.1.1.2, List.mem_of_getElem? h1.1.1.1.2, h1.1.1.2, h1.1.2, h1.2⟩
theorem znl_spec {o i a n : Nat} (h : znl.any (fun q => decide (q.1 = o ∧ q.2.1 = i ∧ q.2.2.1 = a ∧ q.2.2.2.1 = n)) = true) : Cond.methodLinkNest (zR o) i (zname a) "BumpsChart" ∈ lw_tbl ∧ Cond.instanceMethod (zname a) ∈ lw_tbl ∧ Cond.initialized (zname a).cls ∈ lw_tbl ∧ (zname a).name = "<init>" ∧ zrt a = none ∧ ((zname a).cls ≠ "java/lang/invoke/MethodHandle" ∧ (zname a).cls ≠ "java/lang/invoke/VarHandle" ∧ (parseMethodDescriptor (zname a).desc).map (fun d => d.parameters.length) = some n) := by
  obtain ⟨q, hq, hd⟩ := List.any_eq_true.mp h
  have h1 := List.all_eq_true.mp znl_ok q hq
  simp only [Bool.and_eq_true, decide_eq_true_eq] at h1 hd
  obtain ⟨rfl, rfl, rfl, rfl⟩ := hd
  exact ⟨List.mem_of_getElem? h1.1.1.1.1.1, List.mem_of_getElem? h1.1.1.1.1.2, List.mem_of_getElem? h1.1.1.1.2, h1.1.1.2, h1.1.2, h1.2⟩
set_option maxHeartbeats 4000000 in
theorem zcl_sound {p : Program} {l : Launch} {e : Env} {R : Room} {s : State} {m : MethodId} {args : Array Value} {below : List Frame} {meth : Method} {c : Code} {cA : Nat → ClassId} {D : va_G} {base b Lx : Nat} {xs : Nat → Int32} {y : Nat} {H : Heap} {locs : List Loc} {cells slots : Nat} {Q : State → Prop} {ls : Array Slot} {pc a : Nat} {L : zL} {st As rest : List zV} {σ σ1 : zS} {v : Option zV} (C : zCx p R s m args meth c cA D base b Lx xs y) (hH : zH cA D base b Lx xs s σ H locs cells) (hL : ∀ q ∈ L, zvr q.2) (hS : ∀ v ∈ st, zvr v) (hl : lv_has ls (zml y) (L.map (zcq base b))) (h : zcl y pc st σ = some (a, As, rest)) (hX : zSnd l a 0 (zargs 0 As) [] σ v σ1) (hrc : cells + (σ1.2.2.2 - σ.2.2.2) ≤ R.cells) (hrs : slots + (zsz σ1.2.2.2 - zsz σ.2.2.2) ≤ R.slots)
    (kk : ∀ (H1 : Heap) (locs1 : List Loc), zH cA D base b Lx xs s σ1 H1 locs1 (cells + (σ1.2.2.2 - σ.2.2.2)) → (∀ w ∈ v.toList ++ rest, zvr w) → zW p l e R s m args below meth c base b H1 locs1 (cells + (σ1.2.2.2 - σ.2.2.2)) (slots + (zsz σ1.2.2.2 - zsz σ.2.2.2)) Q (pc + 3) ls (v.toList ++ rest)) : zW p l e R s m args below meth c base b H locs cells slots Q pc ls st := by
  have hLx := C.2.2.2.2.2.2.2.2.2.2.2.1
  unfold zcl at h
  split at h
  · next idx len a' n hi =>
    obtain ⟨hd, ha⟩ := zchk_spec (zck y C.2.2.2.2.2.2.2.2.2.2.1) hi
    simp only [zaux, Bool.and_eq_true, decide_eq_true_eq] at ha
    obtain ⟨⟨⟨ha3, ha9⟩, hrm⟩, hany⟩ := ha
    split at h
    · next q r hdrop =>
      obtain ⟨hb, h⟩ := zbif h
      simp only [Prod.mk.injEq] at h
      obtain ⟨rfl, rfl, rfl⟩ := h
      simp only [Bool.and_eq_true] at hb
      obtain ⟨⟨⟨hob, hr8⟩, hlen⟩, hml⟩ := hb
      have hr8 := Nat.le_of_ble_eq_true hr8
      have hlen := Nat.eq_of_beq_eq_true hlen
      have hml := Nat.le_of_ble_eq_true hml
      simp only [zrm, Bool.and_eq_true, decide_eq_true_eq] at hrm
      obtain ⟨e1, e2, e3, e4⟩ := zob_spec hob (by omega)
      obtain ⟨w1, w2, w3, w4, w5⟩ := zvl_spec hany
      have hst : st = st.take n ++ vr q :: r := by rw [← hdrop]; exact (List.take_append_drop n st).symm
      have hsm : st.map (zcv base b) = ((st.take n).reverse.map (zcv base b)).reverse ++ Value.ref (base + (q - 1)) :: r.map (zcv base b) := by
        conv => lhs; rw [hst]
        rw [List.map_append, List.map_cons, zcv_o e3 e4, List.map_reverse, List.reverse_reverse]
      have hSr : ∀ v ∈ r, zvr v := fun v hv => hS v (by rw [hst]; exact List.mem_append_right _ (List.mem_cons_of_mem _ hv))
      have hSA : ∀ v ∈ vr q :: (st.take n).reverse, zvr v := zcons trivial (fun v hv => hS v (List.mem_of_mem_take (List.mem_reverse.mp hv)))
      have hM := zmet (cA := cA) (D := D) (base := base) (b := b) (Lx := Lx) (xs := xs) hX hrm.1.2 hrm.2 (by simpa [zcats, List.sum_reverse, zcat] using hml) hSA hH.1 hH.2.2.2.1 hH.2.2.2.2.1 hLx
      have hcls := (zcls_ok a' (Nat.lt_trans hrm.1.2 (by decide))).1
      refine zback (qa := (Value.ref (base + (q - 1)) :: (st.take n).reverse.map (zcv base b)).toArray) C hH hL hSr hl hX.1 hH.1 (va_runV (b := base + (q - 1)) (As := (st.take n).reverse.map (zcv base b)) (C := (zname a').cls) ⟨C.1, C.2.1, C.2.2.1, C.2.2.2.1, C.2.2.2.2.1⟩ hM (cwV n C.2.2.2.2.1 (zGI (fun w hw => ?_)) rfl rfl rfl ⟨rfl, w5⟩ ⟨Nat.le_trans hrm.1.1.1 C.2.2.2.2.2.2.2.1, Nat.le_trans hrm.1.1.2 C.2.2.2.2.2.2.2.2.1⟩) ⟨zblind, ?_, fun U hU hW => ?_⟩ rfl (by simpa using hlen) hl.1 hsm (by rw [zcats_map]; show 2 * 0 + _ ≤ 8; omega) (zlen hd ha3) ⟨hrc, hrs⟩) kk
      · rcases List.mem_append.mp hw with hw | hw
        · simp only [List.mem_cons, List.mem_nil_iff, or_false] at hw
          rcases hw with rfl | rfl | rfl | rfl
          · exact zgood w1 rfl
          · exact zgood w2 rfl
          · exact zgood w3 rfl
          · exact zgood w4 rfl
        · exact zwsy_in hrm.1.2 w hw
      · have := va_recv (q := (zR (zown a'), zT (zown a'), znf (zown a'))) C.2.2.2.2.2.2.1 hH.2.2.1 (zvw (zown a') ha9) (by rw [zws_get e3 e2, zE_obj e1 ha9])
        rw [hcls]
        exact this
      · refine ⟨?_, by rw [hU]; exact hH.2.1, by rw [hU]; exact hH.2.2.1, va_K.moved hW.alike C.2.2.2.2.2.2.1, fun w hw hg => zwarm hw hg hW (C.2.2.2.2.2.2.2.2.2.1 w hw hg), zscX C hH hU hW⟩
        simp only [List.map_cons, zcv_o e3 e4]
    · cases h
  · next idx len a' n hi =>
    obtain ⟨hd, ha⟩ := zchk_spec (zck y C.2.2.2.2.2.2.2.2.2.2.1) hi
    obtain ⟨hb, h⟩ := zbif h
    simp only [Prod.mk.injEq] at h
    obtain ⟨rfl, rfl, rfl⟩ := h
    simp only [Bool.and_eq_true] at hb
    obtain ⟨⟨⟨hlt, hr8⟩, hlen⟩, hml⟩ := hb
    have hlt : a' < 1000 := by simpa using hlt
    have hr8 := Nat.le_of_ble_eq_true hr8
    have hlen := Nat.eq_of_beq_eq_true hlen
    have hml := Nat.le_of_ble_eq_true hml
    have n1 : Nat.beq a' 1000 = false := zbeq_f (by omega)
    simp only [zaux, n1, cond_false, Bool.and_eq_true] at ha
    obtain ⟨ha3, hrm, hany⟩ := ha
    simp only [zrm, Bool.and_eq_true, decide_eq_true_eq] at hrm
    obtain ⟨w1, w2, w4, w5⟩ := zsl_spec hany
    have hst : st = st.take n ++ st.drop n := (List.take_append_drop n st).symm
    have hsm : st.map (zcv base b) = ((st.take n).reverse.map (zcv base b)).reverse ++ (st.drop n).map (zcv base b) := by
      conv => lhs; rw [hst]
      rw [List.map_append, List.map_reverse, List.reverse_reverse]
    have hSr : ∀ v ∈ st.drop n, zvr v := fun v hv => hS v (List.mem_of_mem_drop hv)
    have hSA : ∀ v ∈ (st.take n).reverse, zvr v := fun v hv => hS v (List.mem_of_mem_take (List.mem_reverse.mp hv))
    have hM := zmet (cA := cA) (D := D) (base := base) (b := b) (Lx := Lx) (xs := xs) hX hrm.1.2 hrm.2 (by simpa [zcats, List.sum_reverse] using hml) hSA hH.1 hH.2.2.2.1 hH.2.2.2.2.1 hLx
    refine zback (qa := ((st.take n).reverse.map (zcv base b)).toArray) C hH hL hSr hl hX.1 hH.1 (va_runS (As := (st.take n).reverse.map (zcv base b)) ⟨C.1, C.2.1, C.2.2.1, C.2.2.2.1, C.2.2.2.2.1⟩ hM ⟨callB_of n C.2.2.2.2.1 (zGI (zwsy_in hrm.1.2)) rfl rfl rfl (C.2.2.2.2.1 _ (zgood w4 rfl)) (C.2.2.2.2.1 _ (zgood w1 rfl)) w5 ⟨Nat.le_trans hrm.1.1.1 C.2.2.2.2.2.2.2.1, Nat.le_trans hrm.1.1.2 C.2.2.2.2.2.2.2.2.1⟩, C.2.2.2.2.1 _ (zgood w2 rfl)⟩ ⟨zblind, fun U hU hW => ⟨rfl, by rw [hU]; exact hH.2.1, by rw [hU]; exact hH.2.2.1, va_K.moved hW.alike C.2.2.2.2.2.2.1, fun w hw hg => zwarm hw hg hW (C.2.2.2.2.2.2.2.2.2.1 w hw hg), zscX C hH hU hW⟩⟩ rfl (by simpa using hlen) hl.1 hsm (by rw [zcats_map]; show 2 * 0 + _ ≤ 8; omega) (zlen hd ha3) ⟨hrc, hrs⟩) kk
  · next idx len a' n hi =>
    obtain ⟨hd, ha⟩ := zchk_spec (zck y C.2.2.2.2.2.2.2.2.2.2.1) hi
    split at h
    · next q r hdrop =>
      obtain ⟨hb, h⟩ := zbif h
      simp only [Prod.mk.injEq] at h
      obtain ⟨rfl, rfl, rfl⟩ := h
      simp only [Bool.and_eq_true] at hb
      obtain ⟨⟨⟨⟨hlt, hob⟩, hr8⟩, hlen⟩, hml⟩ := hb
      have hlt : a' < 1000 := by simpa using hlt
      have hr8 := Nat.le_of_ble_eq_true hr8
      have hlen := Nat.eq_of_beq_eq_true hlen
      have hml := Nat.le_of_ble_eq_true hml
      have n1 : Nat.beq a' 1002 = false := zbeq_f (by omega)
      simp only [zaux, n1, cond_false, Bool.and_eq_true, decide_eq_true_eq, Bool.or_eq_true] at ha
      obtain ⟨ha3, ⟨ha9, hrm⟩, hany⟩ := ha
      simp only [zrm, Bool.and_eq_true, decide_eq_true_eq] at hrm
      obtain ⟨e1, e2, e3, e4⟩ := zob_spec hob (by omega)
      have hst : st = st.take n ++ vr q :: r := by rw [← hdrop]; exact (List.take_append_drop n st).symm
      have hsm : st.map (zcv base b) = ((st.take n).reverse.map (zcv base b)).reverse ++ Value.ref (base + (q - 1)) :: r.map (zcv base b) := by
        conv => lhs; rw [hst]
        rw [List.map_append, List.map_cons, zcv_o e3 e4, List.map_reverse, List.reverse_reverse]
      have hSr : ∀ v ∈ r, zvr v := fun v hv => hS v (by rw [hst]; exact List.mem_append_right _ (List.mem_cons_of_mem _ hv))
      have hSA : ∀ v ∈ vr q :: (st.take n).reverse, zvr v := zcons trivial (fun v hv => hS v (List.mem_of_mem_take (List.mem_reverse.mp hv)))
      have hM := zmet (cA := cA) (D := D) (base := base) (b := b) (Lx := Lx) (xs := xs) hX hrm.1.2 hrm.2 (by simpa [zcats, List.sum_reverse, zcat] using hml) hSA hH.1 hH.2.2.2.1 hH.2.2.2.2.1 hLx
      have hpre : ∀ U : State, U.heap = H → s.WarmedH U.vm → zPc cA D base b Lx xs (vr q :: (st.take n).reverse) σ (Value.ref (base + (q - 1)) :: (st.take n).reverse.map (zcv base b)).toArray U := by
        intro U hU hW
        refine ⟨?_, by rw [hU]; exact hH.2.1, by rw [hU]; exact hH.2.2.1, va_K.moved hW.alike C.2.2.2.2.2.2.1, fun w hw hg => zwarm hw hg hW (C.2.2.2.2.2.2.2.2.2.1 w hw hg), zscX C hH hU hW⟩
        simp only [List.map_cons, zcv_o e3 e4]
      rcases hany with hany | hany
      · obtain ⟨w1, w2, w4, w6, w7, w5⟩ := zil_spec hany
        rw [show zwsy a' = Cond.code (zname a') (zb a') (zml a') none :: lw_good by rw [zwsy, w7]] at hM
        refine zback (qa := (Value.ref (base + (q - 1)) :: (st.take n).reverse.map (zcv base b)).toArray) C hH hL hSr hl hX.1 hH.1 (va_runI (b := base + (q - 1)) (As := (st.take n).reverse.map (zcv base b)) ⟨C.1, C.2.1, C.2.2.1, C.2.2.2.1, C.2.2.2.2.1⟩ hM (cwI n C.2.2.2.2.1 (zGI (by rw [← w7]; exact zwsy_in hrm.1.2)) rfl rfl rfl (C.2.2.2.2.1 _ (zgood w4 rfl)) (C.2.2.2.2.1 _ (zgood w1 rfl)) (C.2.2.2.2.1 _ (zgood w2 rfl)) w6 w5 ⟨Nat.le_trans hrm.1.1.1 C.2.2.2.2.2.2.2.1, Nat.le_trans hrm.1.1.2 C.2.2.2.2.2.2.2.2.1⟩) ⟨zblind, hpre⟩ rfl (by simpa using hlen) hl.1 hsm (by rw [zcats_map]; show 2 * 0 + _ ≤ 8; omega) (zlen hd ha3) ⟨hrc, hrs⟩) kk
      · obtain ⟨w1, w2, w4, w6, w7, w5⟩ := znl_spec hany
        rw [show zwsy a' = Cond.code (zname a') (zb a') (zml a') none :: lw_good by rw [zwsy, w7]] at hM
        refine zback (qa := (Value.ref (base + (q - 1)) :: (st.take n).reverse.map (zcv base b)).toArray) C hH hL hSr hl hX.1 hH.1 (va_runIN (b := base + (q - 1)) (As := (st.take n).reverse.map (zcv base b)) ⟨C.1, C.2.1, C.2.2.1, C.2.2.2.1, C.2.2.2.2.1⟩ hM ⟨va_cnB n C.2.2.2.2.1 (zGI (by rw [← w7]; exact zwsy_in hrm.1.2)) rfl rfl rfl (C.2.2.2.2.2.2.2.2.2.1 _ w1 rfl) (C.2.2.2.2.1 _ (zgood w4 rfl)) w5 ⟨Nat.le_trans hrm.1.1.1 C.2.2.2.2.2.2.2.1, Nat.le_trans hrm.1.1.2 C.2.2.2.2.2.2.2.2.1⟩, w6, C.2.2.2.2.1 _ (zgood w2 rfl)⟩ ⟨zblind, hpre⟩ rfl (by simpa using hlen) hl.1 hsm (by rw [zcats_map]; show 2 * 0 + _ ≤ 8; omega) (zlen hd ha3) ⟨hrc, hrs⟩) kk
    · cases h
  · cases h
theorem zbr_r {y pc t f : Nat} {st st1 : List zV} {P : Prop} (h : zbr y pc st = some (P, t, f, st1)) (hS : ∀ v ∈ st, zvr v) : ∀ v ∈ st1, zvr v := by
  unfold zbr at h
  repeat' split at h
  all_goals first
    | (cases h; done)
    | (cases h; exact zct (zct hS))
    | (cases h; exact zct hS)
theorem zarrV_congr {c : ClassId} {n : Nat} {f g : Nat → Value} (h : ∀ j, j < n → f j = g j) : arrV c n f = arrV c n g := by
  unfold arrV
  congr 1
  apply congrArg
  funext j
  exact h j.val j.isLt
theorem zat_congr {cA : Nat → ClassId} {D : va_G} {base b q r : Nat} {σ τ : zS} {H : Heap} (h : ∀ j : Nat, j < (zsh r).2 → τ.1 r j = σ.1 r j ∧ τ.2.1 r j = σ.2.1 r j ∧ τ.2.2.1 r j = σ.2.2.1 r j) (hA : va_at D vwCl (q, zE cA base b σ r) H) : va_at D vwCl (q, zE cA base b τ r) H := by
  by_cases h9 : (zsh r).1 < 8
  · have e : zE cA base b τ r = zE cA base b σ r := by
      rw [zE_obj rfl h9, zE_obj rfl h9]
      congr 2
      apply List.map_congr_left
      intro j hj
      have hj := List.mem_range.mp hj
      obtain ⟨a1, a2, -⟩ := h j (by rw [zshn r h9]; exact hj)
      simp only [zfv, a1, a2]
    rw [e]; exact hA
  · by_cases h13 : (zsh r).1 = 13
    · rw [zE_dbl h13] at hA ⊢
      refine Eq.trans hA (congrArg some ?_)
      exact zarrV_congr (c := cA 13) (f := fun j => .double (σ.2.2.1 r j)) (g := fun j => .double (τ.2.2.1 r j)) (fun j hj => by rw [(h j hj).2.2])
    · by_cases h14 : (zsh r).1 = 14
      · rw [zE_ref h14] at hA ⊢
        refine Eq.trans hA (congrArg some ?_)
        exact zarrV_congr (c := cA 14) (f := fun j => va_rf (zrf base b (σ.2.1 r j))) (g := fun j => va_rf (zrf base b (τ.2.1 r j))) (fun j hj => by rw [(h j hj).2.1])
      · rw [zE_int rfl h9 h13 h14] at hA ⊢
        refine Eq.trans hA (congrArg some ?_)
        exact zarrV_congr (c := cA (zsh r).1) (f := fun j => .int (Int32.ofInt (σ.1 r j))) (g := fun j => .int (Int32.ofInt (τ.1 r j))) (fun j hj => by rw [(h j hj).1])
/-- soundness -/
theorem zSnd_cl (l : Launch) : zCl (zSnd l) := by
  refine ⟨?_, ?_, ?_, ?_, ?_, ?_⟩
  · intro y pc L st σ g pc1 L1 st1 σ1 r τ h hg hX
    have hm := zst_mono h
    refine ⟨Nat.le_trans hm hX.1, ?_⟩
    intro p e R s m args below meth c cA D base b Lx xs H locs cells slots Q ls C hH hL hS hl hrc hrs K
    have z1 := zsz_mono hm
    have z2 := zsz_mono hX.1
    have h2 := hX.1
    refine zst_sound C hH hL hS hl h hg (by omega) (by omega) ?_
    intro ls1 H1 locs1 hH1 hL1 hS1 hl1
    refine hX.2 p e R s m args below meth c cA D base b Lx xs H1 locs1 _ _ Q ls1 C hH1 hL1 hS1 hl1 (by rw [zadd3 hm h2]; exact hrc) (by rw [zadd3 z1 z2]; exact hrs) ?_
    rw [zadd3 hm h2, zadd3 z1 z2]
    exact K
  · intro y pc L st σ P t f st1 r τ h ht hf
    by_cases hP : P
    · refine ⟨(ht hP).1, ?_⟩
      intro p e R s m args below meth c cA D base b Lx xs H locs cells slots Q ls C hH hL hS hl hrc hrs K
      exact zbr_sound C hH hL hS hl h (fun _ => (ht hP).2 p e R s m args below meth c cA D base b Lx xs H locs cells slots Q ls C hH hL (zbr_r h hS) hl hrc hrs K) (fun q => absurd hP q)
    · refine ⟨(hf hP).1, ?_⟩
      intro p e R s m args below meth c cA D base b Lx xs H locs cells slots Q ls C hH hL hS hl hrc hrs K
      exact zbr_sound C hH hL hS hl h (fun q => absurd q hP) (fun _ => (hf hP).2 p e R s m args below meth c cA D base b Lx xs H locs cells slots Q ls C hH hL (zbr_r h hS) hl hrc hrs K)
  · intro y pc L st σ a As rest v σ1 r τ h hX hY
    refine ⟨Nat.le_trans hX.1 hY.1, ?_⟩
    intro p e R s m args below meth c cA D base b Lx xs H locs cells slots Q ls C hH hL hS hl hrc hrs K
    have z1 := zsz_mono hX.1
    have z2 := zsz_mono hY.1
    have hm := hX.1
    have h2 := hY.1
    refine zcl_sound C hH hL hS hl h hX (by omega) (by omega) ?_
    intro H1 locs1 hH1 hS1
    refine hY.2 p e R s m args below meth c cA D base b Lx xs H1 locs1 _ _ Q ls C hH1 hL hS1 hl (by rw [zadd3 hm h2]; exact hrc) (by rw [zadd3 z1 z2]; exact hrs) ?_
    rw [zadd3 hm h2, zadd3 z1 z2]
    exact K
  · intro y pc L st σ r h
    refine ⟨Nat.le_refl _, ?_⟩
    intro p e R s m args below meth c cA D base b Lx xs H locs cells slots Q ls C hH hL hS hl hrc hrs K
    have k := K pc st ls H locs h hS (by simpa only [Nat.sub_self, Nat.add_zero] using hH)
    simpa only [Nat.sub_self, Nat.add_zero] using k
  · intro y pc L L1 st σ r τ hsub hX
    refine ⟨hX.1, ?_⟩
    intro p e R s m args below meth c cA D base b Lx xs H locs cells slots Q ls C hH hL hS hl hrc hrs K
    refine hX.2 p e R s m args below meth c cA D base b Lx xs H locs cells slots Q ls C hH (fun q hq => hL q (hsub q hq)) hS ⟨hl.1, hl.2.1, fun q hq => ?_⟩ hrc hrs K
    obtain ⟨z, hz, rfl⟩ := List.mem_map.mp hq
    exact hl.2.2 _ (List.mem_map.mpr ⟨z, hsub z hz, rfl⟩)
  · intro y pc L st σ σ1 r τ he hX
    obtain ⟨e1, e3, e4⟩ := he
    refine ⟨by rw [e1]; exact hX.1, ?_⟩
    intro p e R s m args below meth c cA D base b Lx xs H locs cells slots Q ls C hH hL hS hl hrc hrs K
    rw [e1] at hrc hrs K
    refine hX.2 p e R s m args below meth c cA D base b Lx xs H locs cells slots Q ls C ?_ hL hS hl hrc hrs K
    obtain ⟨h2, h3, h4, h5, h6, h7, h8⟩ := hH
    refine ⟨by rw [← e1]; exact h2, by rw [← e1]; exact h3, ?_, fun r hr j hj => by rw [(e4 r (by rw [e1]; exact hr) j hj).1]; exact h5 r (by rw [e1]; exact hr) j hj, ⟨by rw [e3]; exact h6.1, fun j hj => by rw [e3]; exact h6.2 j hj⟩, h7, by rw [← e1]; exact h8⟩
    intro k q hq
    obtain ⟨hk, rfl⟩ := zws_at hq
    have h9 := h4 k _ (show (zws cA base b σ)[k]? = some (base + k, zE cA base b σ (k + 1)) from zws_get (cA := cA) (base := base) (b := b) (σ := σ) (r := k + 1) (by omega) (by omega))
    exact zat_congr (fun j hj => e4 (k + 1) (by omega) j hj) h9
end
section
-- ===== end of PART A; then your names; then what follows =====
/-! THE CLAIM OUT OF ONE WALK OF THE LAW'S BODY. Your part is whole_start (and what it stands on); all else here is the same for every law, but numbers. -/
def R_law : String := "BumpsChartLaw"
def lw_P (b : Addr) (xs : List Int32) (args : Array Value) (s : State) : Prop := args = #[.ref b] ∧ s.IntsAt b xs ∧ xs.length ≤ 260 ∧ (Jvm.Cond.and given_1 narrow_1).before args s = true
/-- what a walk over the start with the record d0 says of its end, said of the start itself -/
theorem lw_closed {s t : State} {o : Outcome} {d0 : Drawn} {L : List Loc} {k n : Nat} (hd0 : s.drawn.sameBut d0 lw_cs) (hv : ∃ v, o = .returned v) (hW : (s.setDrawn d0).WarmedH t.vm) (hs : (s.setDrawn d0).sameButNew ({ t with vm := s.vm } : State) L k n) : State.butDraws s t lw_cs (fun t1 => Framed s o t1 L k n) := by
  have h2 : t.drawn = d0 := congrArg State.drawn hs.1
  refine ⟨⟨hv, hW, State.sameButNew.setDrawn hs s.drawn⟩, ?_, by decide⟩
  rw [h2]
  exact hd0
def lw_Q (_ : Array Value) (s : State) (o : Outcome) (t : State) : Prop := o = .returned (some (.int 1)) ∧ State.butDraws s t lw_cs (fun t1 => Framed s o t1 [] 600000 7302250)
def lw_Z (below : List Frame) (a : Array Value) (s : State) : State → Prop := fun t => ∃ o, t.status = .running ∧ Ended t below o ∧ lw_Q a s o t
/-- the law's own end, with 1 on the stack, nothing written that was there before, its room as the claim has it; d0: the record of draws at this point (at the entry s.drawn: begin with 'refine W.base ?_' and 'have hd0 := Drawn.sameBut.refl s.drawn lw_cs') -/
theorem lw_ret {p : Program} {l : Launch} {e : Env} {s : State} {m : MethodId} {below : List Frame} {meth : Method} {c : Code} {b : Nat} {d0 : Drawn} (hd0 : s.drawn.sameBut d0 lw_cs) (hx : p.tables.exec = Jvm.exec) (hb : c.code = code) (hr : meth.sig.returnType = ret) (hlocks : meth.locks = false) {pc : Nat} {H : Heap} {ls : Array Slot} (hdg : decode code pc = .ok (.ireturn, 1)) : W p l e room_1 (s.setDrawn d0) m #[Value.ref b] below meth c H [] 600000 7302250 (lw_Z below #[Value.ref b] s) (F0 m pc ls [.int 1]) := by
  intro T hT X
  obtain ⟨fs, hret, hrun, hended, hW, hframe⟩ := X.leave (v := some (.int 1)) (hlocks := hlocks) (fun h => by rw [hr] at h; cases h)
  have hmeth' : T.vm.method? m = some meth := X.method'
  refine ⟨T.setFrames fs, ?_, .returned (some (.int 1)), hrun, hended, rfl, lw_closed hd0 ⟨_, rfl⟩ hW hframe⟩
  jvm_step X.here [X.here.top, hx, hb, hdg, hmeth', hr, ret, narrow_b1]
  (try refine ⟨rfl, ?_⟩); (try refine ⟨rfl, ?_⟩)
  first | (intro acts; rw [hret _ acts rfl rfl rfl]) | rw [hret _ _ rfl rfl rfl]
  exact Steps.refl _
/-- what holds at the law's entry: the machine, the code, the tables' words (any of lw_tbl by 'hts w (by decide +kernel)'), the script of L ints xs at the cell b, what the Statement gives of the start (any of its parts by flat_of_before) -/
def lw_At (p : Program) (s : State) (m : MethodId) (meth : Method) (c : Code) (b L : Nat) (xs : Nat → Int32) : Prop :=
  p.tables.exec = Jvm.exec ∧ c.code = code ∧ meth.sig.returnType = ret ∧ c.maxLocals = 7 ∧ s.vm.findClass R_law = some m.cls ∧ (∀ w ∈ lw_tbl, w.before #[Value.ref b] s = true) ∧ va_X b L xs s s.heap ∧ b < s.heap.size ∧ meth.locks = false ∧ (Jvm.Cond.and given_1 narrow_1).before #[Value.ref b] s = true

/-- the state at the law's entry: the script alone -/
def zσ0 (L : Nat) (xs : Nat → Int32) : zS := (fun r j => if r = 1000 then (if j < 0 then (L : Int) else (xs j.toNat).toInt) else 0, fun _ _ => 0, fun _ _ => 0, 1)
set_option maxHeartbeats 4000000 in
theorem zstart {p : Program} {e : Env} {s : State} {m : MethodId} {below : List Frame} {meth : Method} {c : Code} (l : Launch) {b L : Nat} {xs : Nat → Int32} (hL : L ≤ 260) (C0 : lw_At p s m meth c b L xs) {τ : zS} (hrun : zMet zlaw [vr 1000] (zσ0 L xs) (some (vi 1)) τ) (hc : τ.2.2.2 ≤ 1000) (hz : zsz τ.2.2.2 ≤ 100000) : W p l e room_1 s m #[Value.ref b] below meth c s.heap [] 0 0 (lw_Z below #[Value.ref b] s) (entryFrame m ([Value.ref b] : List Value).toArray 7) := by
  obtain ⟨hx, hb, hr, hml, hown, hts, hX, hbl, hlocks, hgv⟩ := id C0
  have hK0 : ∀ ci, ci < 8 → ∃ (cC : ClassId) (iS : Nat → Nat), u_Kn s (zR ci) (zT ci) (znf ci) cC iS := by
    intro ci hci
    have hi : Cond.instantiable (zR ci) (znf ci) ∈ lw_tbl := by
      have h0 : (List.range 8).all (fun ci => decide (Cond.instantiable (zR ci) (znf ci) ∈ lw_tbl)) = true := by decide +kernel
      exact of_decide_eq_true (List.all_eq_true.mp h0 ci (List.mem_range.mpr hci))
    exact u_known hts (zlay ci hci) (hts _ hi)
  obtain ⟨D, hD⟩ : ∃ D : va_G, ∀ ci, ci < 8 → u_Kn s (zR ci) (zT ci) (znf ci) (D.1 ci) (D.2 ci) := by
    refine ⟨(fun ci => if h : ci < 8 then Classical.choose (hK0 ci h) else 0, fun ci => if h : ci < 8 then Classical.choose (Classical.choose_spec (hK0 ci h)) else fun _ => 0), ?_⟩
    intro ci hci
    simp only [dif_pos hci]
    exact Classical.choose_spec (Classical.choose_spec (hK0 ci hci))
  have hA : ∀ {i : Nat} {ty : FieldType}, lw_tbl[i]? = some (.arrayClass ty) → (∀ C0, ty ≠ .object C0) → ∃ cA, ArrOfT s cA ty ∧ va_RA s cA ty := by
    intro i ty hi hne
    obtain ⟨cA, kA, comp, h1, h2, h3⟩ := Cond.arrayClass_spec (hts _ (List.mem_of_getElem? hi))
    refine ⟨cA, fun n z => ⟨fun k h => (by cases h), kA, h2, comp, h3⟩, ?_⟩
    cases ty <;> first | exact h1 | exact absurd rfl (hne _)
  obtain ⟨a10, h10⟩ := hA zs_arrInt (fun _ h => by cases h)
  obtain ⟨a13, h13⟩ := hA zs_arrDouble (fun _ h => by cases h)
  obtain ⟨a14, h14⟩ : ∃ cA, ArrOfT s cA (.object RX1) ∧ va_RA s cA (.object RX1) := by
    obtain ⟨comp, cA, kA, h1, h2, h3, h4, h5⟩ := Cond.arrayOver_spec (hts _ (List.mem_of_getElem? zs_over))
    exact ⟨cA, fun n z => ⟨fun k h => (by cases h), kA, h3, comp, h4⟩, kA, comp, h3, h4, h1, h5⟩
  obtain ⟨cA, e10, e13, e14⟩ : ∃ cA : Nat → ClassId, cA 10 = a10 ∧ cA 13 = a13 ∧ cA 14 = a14 := ⟨fun k => if k = 10 then a10 else if k = 13 then a13 else a14, rfl, rfl, rfl⟩
  subst e10; subst e13; subst e14
  have hK : va_K D vwCl (ztys cA) s := by
    refine ⟨fun k q hq => ?_, fun k q hq => ?_⟩
    · have hk : k < 8 := (List.getElem?_eq_some_iff.mp hq).1
      rw [zvw k hk] at hq
      cases hq
      exact hD k hk
    · match k, hq with
      | 0, hq => cases hq; exact h10
      | 1, hq => cases hq; exact h13
      | 2, hq => cases hq; exact h14
      | k + 3, hq => simp [ztys] at hq
  have hN : ∀ w ∈ lw_tbl, zisn w = true → va_Nw w s := by
    intro w hw hg
    have h := hts w hw
    cases w <;> first
      | (cases hg; done)
      | exact va_Nw.of rfl h
      | exact h
  have C : zCx p room_1 s m #[Value.ref b] meth c cA D s.heap.size b L xs zlaw :=
    ⟨hx, hb, hml, hown, fun w hw => hts w (List.mem_filter.mp hw).1, fun h => absurd h (by decide), hK, by decide, by decide, hN, by decide, hL, ⟨hbl, hX⟩, Nat.le_refl _⟩
  have hH : zH cA D s.heap.size b L xs s (zσ0 L xs) s.heap [] 0 := by
    refine ⟨Nat.le_refl _, rfl, fun k q hq => by simp [zws, zσ0] at hq, ?_, ⟨rfl, ?_⟩, va_S.rf, rfl⟩
    · intro r hr j hj
      have hr0 : r < 1 := hr
      have : r = 0 := by omega
      subst this
      exact absurd hj (by have : (zsh 0).2 = 0 := rfl
                          omega)
    · intro j hj
      show (if (j : Int) < 0 then (L : Int) else (xs ((j : Int)).toNat).toInt) = _
      rw [if_neg (by omega)]
      rfl
  have hl := lv_entry ([.ref b]) (n := 7) (Nat.le_of_ble_eq_true rfl)
  rw [lg_entry_eq]
  generalize (lg_sl ([.ref b]) ++ List.replicate (7 - (lg_sl ([.ref b])).length) Slot.unset).toArray = ls at hl ⊢
  have hS := hrun (zSnd l) (zSnd_cl l)
  refine hS.2 p e room_1 s m #[Value.ref b] below meth c cA D s.heap.size b L xs s.heap [] 0 0 _ ls C hH (fun q hq => ?_) (fun v hv => by cases hv) ?_ ?_ ?_ ?_
  · rcases List.mem_cons.mp hq with rfl | hq
    · trivial
    · cases hq
  · exact hl
  · show 0 + (τ.2.2.2 - 1) ≤ 600000
    omega
  · show 0 + (zsz τ.2.2.2 - zsz 1) ≤ 7302250
    omega
  · intro pcq stq lsq Hq locsq hre hSq hHq
    have hd : stq = [vi 1] ∧ decode code pcq = .ok (.ireturn, 1) := by
      unfold zre at hre
      split at hre
      · next x hi =>
        obtain ⟨len, a, b'⟩ := x
        obtain ⟨hd, ha⟩ := zchk_spec (zck zlaw (by decide)) hi
        have hd := zlen hd ha
        split at hre
        · next x =>
          refine ⟨?_, hd⟩
          have e9 : zrt zlaw = some .boolean := by decide
          rw [e9] at hre
          simp only at hre
          obtain ⟨-, h⟩ := zbif hre
          cases h
          rfl
        · cases hre
      · split at hre
        · split at hre
          · cases hre
          · cases hre
        · cases hre
      · split at hre
        · split at hre
          · cases hre
          · cases hre
        · cases hre
      · split at hre
        · split at hre
          · cases hre
          · cases hre
        · cases hre
      · cases hre
    obtain ⟨rfl, hd⟩ := hd
    refine W.widen (k := 600000) (n := 7302250) (by show 0 + (τ.2.2.2 - 1) ≤ 600000; omega) (by show 0 + (zsz τ.2.2.2 - zsz 1) ≤ 7302250; omega) ?_
    refine W.base ?_
    refine va_forget (fun q hq => hHq.2.2.2.2.2.1.2.2 q hq) ?_
    exact lw_ret (Drawn.sameBut.refl s.drawn lw_cs) hx hb hr hlocks hd
end
section
/-! ===== rows of the pure machine ===== -/
theorem zRuns_cl : zCl zRuns := by
  refine ⟨?_, ?_, ?_, ?_, ?_, ?_⟩
  · intro y pc L st σ g pc1 L1 st1 σ1 r τ h hg k X hX
    exact hX.1 y pc L st σ g pc1 L1 st1 σ1 r τ h hg (k X hX)
  · intro y pc L st σ c t f st1 r τ h k1 k2 X hX
    exact hX.2.1 y pc L st σ c t f st1 r τ h (fun q => k1 q X hX) (fun q => k2 q X hX)
  · intro y pc L st σ a As rest v σ1 r τ h k1 k2 X hX
    exact hX.2.2.1 y pc L st σ a As rest v σ1 r τ h (k1 X hX) (k2 X hX)
  · intro y pc L st σ r h X hX
    exact hX.2.2.2.1 y pc L st σ r h
  · intro y pc L L1 st σ r τ h k X hX
    exact hX.2.2.2.2.1 y pc L L1 st σ r τ h (k X hX)
  · intro y pc L st σ σ1 r τ h k X hX
    exact hX.2.2.2.2.2 y pc L st σ σ1 r τ h (k X hX)
section ZR
variable {y pc : Nat} {L : zL} {st : List zV} {σ τ : zS} {r : Option zV}
theorem z_s {g : Option Prop} {pc1 : Nat} {L1 : zL} {st1 : List zV} {σ1 : zS} (h : zst y pc L st σ = some (g, pc1, L1, st1, σ1)) (hg : ∀ P, g = some P → P) (kk : zRuns y pc1 L1 st1 σ1 r τ) : zRuns y pc L st σ r τ := zRuns_cl.1 y pc L st σ g pc1 L1 st1 σ1 r τ h hg kk
abbrev zQ : Type := Nat × (zL × (List zV × zS))
/-- several steps at once; what must hold on the way -/
def zmul (y : Nat) : Nat → zQ → Option (Prop × zQ)
  | 0, q => some (True, q)
  | k + 1, q => match zst y q.1 q.2.1 q.2.2.1 q.2.2.2 with
    | none => none
    | some (none, q1) => zmul y k q1
    | some (some P, q1) => match zmul y k q1 with
      | none => none
      | some (G, q2) => some (P ∧ G, q2)
theorem zmul_ok : ∀ (k : Nat) (q q2 : zQ) (G : Prop), zmul y k q = some (G, q2) → G → zRuns y q2.1 q2.2.1 q2.2.2.1 q2.2.2.2 r τ → zRuns y q.1 q.2.1 q.2.2.1 q.2.2.2 r τ
  | 0, q, q2, G, h, hG, kk => by
    simp only [zmul, Option.some.injEq, Prod.mk.injEq] at h
    rw [← h.2] at kk
    exact kk
  | k + 1, q, q2, G, h, hG, kk => by
    unfold zmul at h
    split at h
    · cases h
    · next q1 hq => exact z_s hq (fun P hP => by cases hP) (zmul_ok k q1 q2 G h hG kk)
    · next P q1 hq =>
      split at h
      · cases h
      · next G1 q3 h3 =>
        simp only [Option.some.injEq, Prod.mk.injEq] at h
        obtain ⟨rfl, rfl⟩ := h
        exact z_s hq (fun P' hP => by cases hP; exact hG.1) (zmul_ok k q1 q3 G1 h3 hG.2 kk)
/-- k steps, to the frame q -/
theorem z_n (k : Nat) (q : zQ) {G : Prop} (h : zmul y k (pc, L, st, σ) = some (G, q)) (hG : G) (kk : zRuns y q.1 q.2.1 q.2.2.1 q.2.2.2 r τ) : zRuns y pc L st σ r τ := zmul_ok k (pc, L, st, σ) q G h hG kk
theorem z_br (c : Prop) (t f : Nat) (st1 : List zV) (h : zbr y pc st = some (c, t, f, st1)) (kt : c → zRuns y t L st1 σ r τ) (kf : ¬ c → zRuns y f L st1 σ r τ) : zRuns y pc L st σ r τ := zRuns_cl.2.1 y pc L st σ c t f st1 r τ h kt kf
theorem z_ci (a : Nat) (As rest : List zV) {v : zV} {σ1 : zS} (h : zcl y pc st σ = some (a, As, rest)) (hm : zMet a As σ (some v) σ1) (kk : zRuns y (pc + 3) L (v :: rest) σ1 r τ) : zRuns y pc L st σ r τ := zRuns_cl.2.2.1 y pc L st σ a As rest (some v) σ1 r τ h hm kk
theorem z_cv (a : Nat) (As rest : List zV) {σ1 : zS} (h : zcl y pc st σ = some (a, As, rest)) (hm : zMet a As σ none σ1) (kk : zRuns y (pc + 3) L rest σ1 r τ) : zRuns y pc L st σ r τ := zRuns_cl.2.2.1 y pc L st σ a As rest none σ1 r τ h hm kk
theorem z_ret {r' : Option zV} (h : zre y pc st = some r') (h1 : r' = r) (h2 : σ = τ) : zRuns y pc L st σ r τ := by
  subst h1; subst h2
  exact zRuns_cl.2.2.2.1 y pc L st σ r' h
theorem zpk {L1 : zL} (ks : List Nat) (h : ks.filterMap (fun k => L[k]?) = L1) : ∀ q ∈ L1, q ∈ L := by
  intro q hq
  rw [← h] at hq
  obtain ⟨k, -, hk⟩ := List.mem_filterMap.mp hq
  exact List.mem_of_getElem? hk
theorem z_sub (L1 : zL) (ks : List Nat) (h : ks.filterMap (fun k => L[k]?) = L1) (kk : zRuns y pc L1 st σ r τ) : zRuns y pc L st σ r τ := zRuns_cl.2.2.2.2.1 y pc L L1 st σ r τ (zpk ks h) kk
theorem z_eqs {σ1 : zS} (h : zeq σ σ1) (kk : zRuns y pc L st σ1 r τ) : zRuns y pc L st σ r τ := zRuns_cl.2.2.2.2.2 y pc L st σ σ1 r τ h kk
/-- the same state, written otherwise -/
theorem z_st {σ1 : zS} (h : σ = σ1) (kk : zRuns y pc L st σ1 r τ) : zRuns y pc L st σ r τ := by subst h; exact kk
theorem z_sk {st1 : List zV} (h : st = st1) (kk : zRuns y pc L st1 σ r τ) : zRuns y pc L st σ r τ := by subst h; exact kk
theorem z_lk {L1 : zL} (h : L = L1) (kk : zRuns y pc L1 st σ r τ) : zRuns y pc L st σ r τ := by subst h; exact kk
theorem zv1 {a b : Int} (h : a = b) : (some (vi a) : Option zV) = some (vi b) := by rw [h]
/-! objects whose number is a variable -/
theorem z_getr {k a b q w : Nat} (hi : zi y pc = some (.getfield k, 3, a, b)) (ho : zob q a σ.2.2.2 = true) (hf : zfr a b = true) (hw : σ.2.1 q b = w) (kk : zRuns y (pc + 3) L (vr w :: st) σ r τ) : zRuns y pc L (vr q :: st) σ r τ := by
  refine z_s (g := none) (σ1 := σ) (L1 := L) (pc1 := pc + 3) (st1 := vr w :: st) ?_ (fun P hP => by cases hP) kk
  simp only [zst, hi, zx, ho, hf, cond_true, hw]
theorem z_geti {k a b q : Nat} {w : Int} (hi : zi y pc = some (.getfield k, 3, a, b)) (ho : zob q a σ.2.2.2 = true) (hf : zfr a b = false) (hw : σ.1 q b = w) (kk : zRuns y (pc + 3) L (vi w :: st) σ r τ) : zRuns y pc L (vr q :: st) σ r τ := by
  refine z_s (g := none) (σ1 := σ) (L1 := L) (pc1 := pc + 3) (st1 := vi w :: st) ?_ (fun P hP => by cases hP) kk
  simp only [zst, hi, zx, ho, hf, cond_true, cond_false, hw]
theorem z_len {a b q n : Nat} (hy : Nat.beq y zsc = false) (hi : zi y pc = some (.arraylength, 1, a, b)) (ho : zob q 10 σ.2.2.2 = true) (hn : (zsh q).2 = n) (kk : zRuns y (pc + 1) L (vi (n : Nat) :: st) σ r τ) : zRuns y pc L (vr q :: st) σ r τ := by
  refine z_s (g := none) (σ1 := σ) (L1 := L) (pc1 := pc + 1) (st1 := vi (n : Nat) :: st) ?_ (fun P hP => by cases hP) kk
  obtain ⟨e1, e2, -, -⟩ := zob_spec ho (by decide)
  have e3 : Nat.blt q σ.2.2.2 = true := by simpa using e2
  have h1 : Nat.ble 10 (zsh q).1 = true := by rw [e1]; rfl
  have h2 : Nat.ble (zsh q).1 14 = true := by rw [e1]; rfl
  simp only [zst, hi, zx, hy, Bool.and_false, cond_false, h1, h2, e3, Bool.and_self, cond_true, hn]
theorem z_ild {a b q n : Nat} {j : Int} (hy : Nat.beq y zsc = false) (hi : zi y pc = some (.iaload, 1, a, b)) (ho : zob q 10 σ.2.2.2 = true) (hn : (zsh q).2 = n) (h0 : 0 ≤ j) (h1 : j < n) (kk : zRuns y (pc + 1) L (vi (σ.1 q j) :: st) σ r τ) : zRuns y pc L (vi j :: vr q :: st) σ r τ := by
  refine z_s (g := some (0 ≤ j ∧ j < ((zsh q).2 : Nat))) (σ1 := σ) (L1 := L) (pc1 := pc + 1) (st1 := vi (σ.1 q j) :: st) ?_ (fun P hP => by cases hP; rw [hn]; exact ⟨h0, h1⟩) kk
  simp only [zst, hi, zx, hy, Bool.and_false, cond_false, ho, cond_true]
theorem z_ist {a b q n : Nat} {j x : Int} (hi : zi y pc = some (.iastore, 1, a, b)) (ho : zob q 10 σ.2.2.2 = true) (hn : (zsh q).2 = n) (h0 : 0 ≤ j) (h1 : j < n) (kk : zRuns y (pc + 1) L st (zup σ.1 q j x, σ.2) r τ) : zRuns y pc L (vi x :: vi j :: vr q :: st) σ r τ := by
  refine z_s (g := some (0 ≤ j ∧ j < ((zsh q).2 : Nat))) (σ1 := (zup σ.1 q j x, σ.2)) (L1 := L) (pc1 := pc + 1) (st1 := st) ?_ (fun P hP => by cases hP; rw [hn]; exact ⟨h0, h1⟩) kk
  simp only [zst, hi, zx, ho, cond_true]
end ZR
/-- a Cells object with its row of n numbers -/
abbrev zCel (P : zP) (c r n : Nat) : Prop := zob r 0 c = true ∧ zob (r + 1) 10 c = true ∧ (zsh (r + 1)).2 = n ∧ P r 0 = r + 1
theorem m_get {I : zI} {P : zP} {D : zD} {c r n : Nat} (h : zCel P c r n) {i : Int} (h0 : 0 ≤ i) (h1 : i < n) : zMet 1 [vr r, vi i] (I, P, D, c) (some (vi (I (r + 1) i))) (I, P, D, c) := by
  obtain ⟨a1, a2, a3, a4⟩ := h
  refine z_n 1 (1, [(0, vr r), (1, vi i)], [vi i], (I, P, D, c)) rfl trivial ?_
  refine z_br (i < 0) 22 4 [] rfl (fun h => absurd h0 (by omega)) (fun _ => ?_)
  refine z_n 2 (6, [(0, vr r), (1, vi i)], [vr r, vi i], (I, P, D, c)) rfl trivial ?_
  refine z_getr rfl a1 rfl a4 ?_
  refine z_len rfl rfl a2 a3 ?_
  refine z_br ((n : Int) ≤ i) 22 13 [] rfl (fun h => absurd h1 (by omega)) (fun _ => ?_)
  refine z_n 1 (14, [(0, vr r), (1, vi i)], [vr r], (I, P, D, c)) rfl trivial ?_
  refine z_getr rfl a1 rfl a4 ?_
  refine z_n 1 (18, [(0, vr r), (1, vi i)], [vi i, vr (r + 1)], (I, P, D, c)) rfl trivial ?_
  refine z_ild rfl rfl a2 a3 h0 h1 ?_
  refine z_n 1 (23, [(0, vr r), (1, vi i)], [vi (I (r + 1) i)], (I, P, D, c)) rfl trivial ?_
  exact z_ret rfl rfl rfl
theorem m_get0 {I : zI} {P : zP} {D : zD} {c r n : Nat} (h : zCel P c r n) {i : Int} (h1 : i < 0 ∨ n ≤ i) : zMet 1 [vr r, vi i] (I, P, D, c) (some (vi 0)) (I, P, D, c) := by
  obtain ⟨a1, a2, a3, a4⟩ := h
  refine z_n 1 (1, [(0, vr r), (1, vi i)], [vi i], (I, P, D, c)) rfl trivial ?_
  refine z_br (i < 0) 22 4 [] rfl (fun h => ?_) (fun _ => ?_)
  · exact z_n 1 (23, [(0, vr r), (1, vi i)], [vi 0], (I, P, D, c)) rfl trivial (z_ret rfl rfl rfl)
  refine z_n 2 (6, [(0, vr r), (1, vi i)], [vr r, vi i], (I, P, D, c)) rfl trivial ?_
  refine z_getr rfl a1 rfl a4 ?_
  refine z_len rfl rfl a2 a3 ?_
  refine z_br ((n : Int) ≤ i) 22 13 [] rfl (fun _ => ?_) (fun h => absurd h (by omega))
  exact z_n 1 (23, [(0, vr r), (1, vi i)], [vi 0], (I, P, D, c)) rfl trivial (z_ret rfl rfl rfl)
theorem m_put {I : zI} {P : zP} {D : zD} {c r n : Nat} (h : zCel P c r n) {i x : Int} (h0 : 0 ≤ i) (h1 : i < n) : zMet 2 [vr r, vi i, vi x] (I, P, D, c) none (zup I (r + 1) i x, P, D, c) := by
  obtain ⟨a1, a2, a3, a4⟩ := h
  refine z_n 1 (1, [(0, vr r), (1, vi i), (2, vi x)], [vi i], (I, P, D, c)) rfl trivial ?_
  refine z_br (i < 0) 20 4 [] rfl (fun h => absurd h0 (by omega)) (fun _ => ?_)
  refine z_n 2 (6, [(0, vr r), (1, vi i), (2, vi x)], [vr r, vi i], (I, P, D, c)) rfl trivial ?_
  refine z_getr rfl a1 rfl a4 ?_
  refine z_len rfl rfl a2 a3 ?_
  refine z_br ((n : Int) ≤ i) 20 13 [] rfl (fun h => absurd h1 (by omega)) (fun _ => ?_)
  refine z_n 1 (14, [(0, vr r), (1, vi i), (2, vi x)], [vr r], (I, P, D, c)) rfl trivial ?_
  refine z_getr rfl a1 rfl a4 ?_
  refine z_n 2 (19, [(0, vr r), (1, vi i), (2, vi x)], [vi x, vi i, vr (r + 1)], (I, P, D, c)) rfl trivial ?_
  refine z_ist rfl a2 a3 h0 h1 ?_
  exact z_ret rfl rfl rfl
theorem m_min {σ : zS} {a b : Int} : zMet 78 [vi a, vi b] σ (some (vi (if a ≤ b then a else b))) σ := by
  refine z_n 2 (2, [(0, vi a), (1, vi b)], [vi b, vi a], σ) rfl trivial ?_
  refine z_br (b < a) 9 5 [] rfl (fun h => ?_) (fun h => ?_)
  · exact z_n 1 (10, [(0, vi a), (1, vi b)], [vi b], σ) rfl trivial (z_ret rfl (zv1 (by omega)) rfl)
  · exact z_n 2 (10, [(0, vi a), (1, vi b)], [vi a], σ) rfl trivial (z_ret rfl (zv1 (by omega)) rfl)
end
